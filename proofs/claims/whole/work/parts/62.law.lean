set_option maxHeartbeats 1000000 in
theorem lw_c0 {h : Hp} {k : Nat} (i : Inv h) (hk : k + 6 ≤ scL h) (ih : ∀ h2, Inv h2 → scL h2 = scL h → ∃ h', Gd mL_law 1807 [.ref 95, .ref 0, .ref 72, .int (nI k)] [] h2 (some (.int (nI 1)), h')) : ∃ h', Gd mL_law 260 [.ref 95, .ref 0, .ref 72, .int (nI k)] [] h (some (.int (nI 1)), h') := by
  have hl := i.l
  obtain ⟨v, h1, h2, g1, g2, i2, e1, e2⟩ := Pas.int rfl rfl (p_ground i (h.1 95 (k + 1)) (h.1 95 (k + 2)))
  obtain ⟨h', gg⟩ := ih h2 i2 (by unfold scL; rw [e2])
  refine ⟨h', ?_⟩
  refine gd_ald1 dL_law_260 (by decide) ?_
  refine gd_ald0 dL_law_261 (by decide) ?_
  refine gd_ild3 dL_law_262 ?_
  refine gd_ic1 dL_law_263 ?_
  refine gd_iadd dL_law_264 ?_
  refine gd_xald dL_law_265 (by omega) (by repeat' (first | with_reducible rfl | apply ni_add | apply ni_mul)) (by omega) ?_
  refine gd_ald0 dL_law_266 (by decide) ?_
  refine gd_ild3 dL_law_267 ?_
  refine gd_ic2 dL_law_268 ?_
  refine gd_iadd dL_law_269 ?_
  refine gd_xald dL_law_270 (by omega) (by repeat' (first | with_reducible rfl | apply ni_add | apply ni_mul)) (by omega) ?_
  refine gd_kV2i dL_law_271 ct_10_13 rc_0 ⟨Nat.le_of_ble_eq_true rfl, Nat.le_of_ble_eq_true rfl⟩ (Nat.le_of_ble_eq_true rfl) (Nat.le_of_ble_eq_true rfl) (g1) (fun k95 kL => ?_)
  have hs1 : scL h1 = scL h := by unfold scL; rw [kL]
  refine gd_ald2 dL_law_274 (by decide) ?_
  refine gd_ald0 dL_law_275 (by decide) ?_
  refine gd_ild3 dL_law_276 ?_
  refine gd_ic1 dL_law_277 ?_
  refine gd_iadd dL_law_278 ?_
  refine gd_xald dL_law_279 (by omega) (by repeat' (first | with_reducible rfl | apply ni_add | apply ni_mul)) (by omega) ?_
  rw [k95]
  refine gd_ald0 dL_law_280 (by decide) ?_
  refine gd_ild3 dL_law_281 ?_
  refine gd_ic2 dL_law_282 ?_
  refine gd_iadd dL_law_283 ?_
  refine gd_xald dL_law_284 (by omega) (by repeat' (first | with_reducible rfl | apply ni_add | apply ni_mul)) (by omega) ?_
  rw [k95]
  refine gd_cV2i dL_law_285 ct_10_17 rc_72 ⟨Nat.le_of_ble_eq_true rfl, Nat.le_of_ble_eq_true rfl⟩ (Nat.le_of_ble_eq_true rfl) (Nat.le_of_ble_eq_true rfl) (g2) ?_
  refine gd_icmp_eq_t 1807 dL_law_288 (by decide) (rfl) ?_
  exact gg
set_option maxHeartbeats 1000000 in
theorem lw_c1 {h : Hp} {k : Nat} (i : Inv h) (hk : k + 6 ≤ scL h) (ih : ∀ h2, Inv h2 → scL h2 = scL h → ∃ h', Gd mL_law 1807 [.ref 95, .ref 0, .ref 72, .int (nI k)] [] h2 (some (.int (nI 1)), h')) : ∃ h', Gd mL_law 293 [.ref 95, .ref 0, .ref 72, .int (nI k)] [] h (some (.int (nI 1)), h') := by
  have hl := i.l
  obtain ⟨v, h1, h2, g1, g2, i2, e1, e2⟩ := Pas.int rfl rfl (p_town i (h.1 95 (k + 1)))
  obtain ⟨h', gg⟩ := ih h2 i2 (by unfold scL; rw [e2])
  refine ⟨h', ?_⟩
  refine gd_ald1 dL_law_293 (by decide) ?_
  refine gd_ald0 dL_law_294 (by decide) ?_
  refine gd_ild3 dL_law_295 ?_
  refine gd_ic1 dL_law_296 ?_
  refine gd_iadd dL_law_297 ?_
  refine gd_xald dL_law_298 (by omega) (by repeat' (first | with_reducible rfl | apply ni_add | apply ni_mul)) (by omega) ?_
  refine gd_kV1i dL_law_299 ct_10_18 rc_0 ⟨Nat.le_of_ble_eq_true rfl, Nat.le_of_ble_eq_true rfl⟩ (Nat.le_of_ble_eq_true rfl) (Nat.le_of_ble_eq_true rfl) (g1) (fun k95 kL => ?_)
  have hs1 : scL h1 = scL h := by unfold scL; rw [kL]
  refine gd_ald2 dL_law_302 (by decide) ?_
  refine gd_ald0 dL_law_303 (by decide) ?_
  refine gd_ild3 dL_law_304 ?_
  refine gd_ic1 dL_law_305 ?_
  refine gd_iadd dL_law_306 ?_
  refine gd_xald dL_law_307 (by omega) (by repeat' (first | with_reducible rfl | apply ni_add | apply ni_mul)) (by omega) ?_
  rw [k95]
  refine gd_cV1i dL_law_308 ct_10_22 rc_72 ⟨Nat.le_of_ble_eq_true rfl, Nat.le_of_ble_eq_true rfl⟩ (Nat.le_of_ble_eq_true rfl) (Nat.le_of_ble_eq_true rfl) (g2) ?_
  refine gd_icmp_eq_t 1807 dL_law_311 (by decide) (rfl) ?_
  exact gg
set_option maxHeartbeats 1000000 in
theorem lw_c2 {h : Hp} {k : Nat} (i : Inv h) (hk : k + 6 ≤ scL h) (ih : ∀ h2, Inv h2 → scL h2 = scL h → ∃ h', Gd mL_law 1807 [.ref 95, .ref 0, .ref 72, .int (nI k)] [] h2 (some (.int (nI 1)), h')) : ∃ h', Gd mL_law 316 [.ref 95, .ref 0, .ref 72, .int (nI k)] [] h (some (.int (nI 1)), h') := by
  have hl := i.l
  obtain ⟨v, h1, h2, g1, g2, i2, e1, e2⟩ := Pas.int rfl rfl (p_houses i (h.1 95 (k + 1)) (h.1 95 (k + 2)) (h.1 95 (k + 3)))
  obtain ⟨h', gg⟩ := ih h2 i2 (by unfold scL; rw [e2])
  refine ⟨h', ?_⟩
  refine gd_ald1 dL_law_316 (by decide) ?_
  refine gd_ald0 dL_law_317 (by decide) ?_
  refine gd_ild3 dL_law_318 ?_
  refine gd_ic1 dL_law_319 ?_
  refine gd_iadd dL_law_320 ?_
  refine gd_xald dL_law_321 (by omega) (by repeat' (first | with_reducible rfl | apply ni_add | apply ni_mul)) (by omega) ?_
  refine gd_ald0 dL_law_322 (by decide) ?_
  refine gd_ild3 dL_law_323 ?_
  refine gd_ic2 dL_law_324 ?_
  refine gd_iadd dL_law_325 ?_
  refine gd_xald dL_law_326 (by omega) (by repeat' (first | with_reducible rfl | apply ni_add | apply ni_mul)) (by omega) ?_
  refine gd_ald0 dL_law_327 (by decide) ?_
  refine gd_ild3 dL_law_328 ?_
  refine gd_ic3 dL_law_329 ?_
  refine gd_iadd dL_law_330 ?_
  refine gd_xald dL_law_331 (by omega) (by repeat' (first | with_reducible rfl | apply ni_add | apply ni_mul)) (by omega) ?_
  refine gd_kV3i dL_law_332 ct_10_23 rc_0 ⟨Nat.le_of_ble_eq_true rfl, Nat.le_of_ble_eq_true rfl⟩ (Nat.le_of_ble_eq_true rfl) (Nat.le_of_ble_eq_true rfl) (g1) (fun k95 kL => ?_)
  have hs1 : scL h1 = scL h := by unfold scL; rw [kL]
  refine gd_ald2 dL_law_335 (by decide) ?_
  refine gd_ald0 dL_law_336 (by decide) ?_
  refine gd_ild3 dL_law_337 ?_
  refine gd_ic1 dL_law_338 ?_
  refine gd_iadd dL_law_339 ?_
  refine gd_xald dL_law_340 (by omega) (by repeat' (first | with_reducible rfl | apply ni_add | apply ni_mul)) (by omega) ?_
  rw [k95]
  refine gd_ald0 dL_law_341 (by decide) ?_
  refine gd_ild3 dL_law_342 ?_
  refine gd_ic2 dL_law_343 ?_
  refine gd_iadd dL_law_344 ?_
  refine gd_xald dL_law_345 (by omega) (by repeat' (first | with_reducible rfl | apply ni_add | apply ni_mul)) (by omega) ?_
  rw [k95]
  refine gd_ald0 dL_law_346 (by decide) ?_
  refine gd_ild3 dL_law_347 ?_
  refine gd_ic3 dL_law_348 ?_
  refine gd_iadd dL_law_349 ?_
  refine gd_xald dL_law_350 (by omega) (by repeat' (first | with_reducible rfl | apply ni_add | apply ni_mul)) (by omega) ?_
  rw [k95]
  refine gd_cV3i dL_law_351 ct_10_27 rc_72 ⟨Nat.le_of_ble_eq_true rfl, Nat.le_of_ble_eq_true rfl⟩ (Nat.le_of_ble_eq_true rfl) (Nat.le_of_ble_eq_true rfl) (g2) ?_
  refine gd_icmp_eq_t 1807 dL_law_354 (by decide) (rfl) ?_
  exact gg
set_option maxHeartbeats 1000000 in
theorem lw_c3 {h : Hp} {k : Nat} (i : Inv h) (hk : k + 6 ≤ scL h) (ih : ∀ h2, Inv h2 → scL h2 = scL h → ∃ h', Gd mL_law 1807 [.ref 95, .ref 0, .ref 72, .int (nI k)] [] h2 (some (.int (nI 1)), h')) : ∃ h', Gd mL_law 359 [.ref 95, .ref 0, .ref 72, .int (nI k)] [] h (some (.int (nI 1)), h') := by
  have hl := i.l
  obtain ⟨v, h1, h2, g1, g2, i2, e1, e2⟩ := Pas.int rfl rfl (p_built i (h.1 95 (k + 1)) (h.1 95 (k + 2)))
  obtain ⟨h', gg⟩ := ih h2 i2 (by unfold scL; rw [e2])
  refine ⟨h', ?_⟩
  refine gd_ald1 dL_law_359 (by decide) ?_
  refine gd_ald0 dL_law_360 (by decide) ?_
  refine gd_ild3 dL_law_361 ?_
  refine gd_ic1 dL_law_362 ?_
  refine gd_iadd dL_law_363 ?_
  refine gd_xald dL_law_364 (by omega) (by repeat' (first | with_reducible rfl | apply ni_add | apply ni_mul)) (by omega) ?_
  refine gd_ald0 dL_law_365 (by decide) ?_
  refine gd_ild3 dL_law_366 ?_
  refine gd_ic2 dL_law_367 ?_
  refine gd_iadd dL_law_368 ?_
  refine gd_xald dL_law_369 (by omega) (by repeat' (first | with_reducible rfl | apply ni_add | apply ni_mul)) (by omega) ?_
  refine gd_kV2i dL_law_370 ct_10_28 rc_0 ⟨Nat.le_of_ble_eq_true rfl, Nat.le_of_ble_eq_true rfl⟩ (Nat.le_of_ble_eq_true rfl) (Nat.le_of_ble_eq_true rfl) (g1) (fun k95 kL => ?_)
  have hs1 : scL h1 = scL h := by unfold scL; rw [kL]
  refine gd_ald2 dL_law_373 (by decide) ?_
  refine gd_ald0 dL_law_374 (by decide) ?_
  refine gd_ild3 dL_law_375 ?_
  refine gd_ic1 dL_law_376 ?_
  refine gd_iadd dL_law_377 ?_
  refine gd_xald dL_law_378 (by omega) (by repeat' (first | with_reducible rfl | apply ni_add | apply ni_mul)) (by omega) ?_
  rw [k95]
  refine gd_ald0 dL_law_379 (by decide) ?_
  refine gd_ild3 dL_law_380 ?_
  refine gd_ic2 dL_law_381 ?_
  refine gd_iadd dL_law_382 ?_
  refine gd_xald dL_law_383 (by omega) (by repeat' (first | with_reducible rfl | apply ni_add | apply ni_mul)) (by omega) ?_
  rw [k95]
  refine gd_cV2i dL_law_384 ct_10_31 rc_72 ⟨Nat.le_of_ble_eq_true rfl, Nat.le_of_ble_eq_true rfl⟩ (Nat.le_of_ble_eq_true rfl) (Nat.le_of_ble_eq_true rfl) (g2) ?_
  refine gd_icmp_eq_t 1807 dL_law_387 (by decide) (rfl) ?_
  exact gg
set_option maxHeartbeats 1000000 in
theorem lw_c4 {h : Hp} {k : Nat} (i : Inv h) (hk : k + 6 ≤ scL h) (ih : ∀ h2, Inv h2 → scL h2 = scL h → ∃ h', Gd mL_law 1807 [.ref 95, .ref 0, .ref 72, .int (nI k)] [] h2 (some (.int (nI 1)), h')) : ∃ h', Gd mL_law 392 [.ref 95, .ref 0, .ref 72, .int (nI k)] [] h (some (.int (nI 1)), h') := by
  have hl := i.l
  obtain ⟨v, h1, h2, g1, g2, i2, e1, e2⟩ := Pas.int rfl rfl (p_of i (h.1 95 (k + 1)) (h.1 95 (k + 2)))
  obtain ⟨h', gg⟩ := ih h2 i2 (by unfold scL; rw [e2])
  refine ⟨h', ?_⟩
  refine gd_ald1 dL_law_392 (by decide) ?_
  refine gd_ald0 dL_law_393 (by decide) ?_
  refine gd_ild3 dL_law_394 ?_
  refine gd_ic1 dL_law_395 ?_
  refine gd_iadd dL_law_396 ?_
  refine gd_xald dL_law_397 (by omega) (by repeat' (first | with_reducible rfl | apply ni_add | apply ni_mul)) (by omega) ?_
  refine gd_ald0 dL_law_398 (by decide) ?_
  refine gd_ild3 dL_law_399 ?_
  refine gd_ic2 dL_law_400 ?_
  refine gd_iadd dL_law_401 ?_
  refine gd_xald dL_law_402 (by omega) (by repeat' (first | with_reducible rfl | apply ni_add | apply ni_mul)) (by omega) ?_
  refine gd_kV2i dL_law_403 ct_10_32 rc_0 ⟨Nat.le_of_ble_eq_true rfl, Nat.le_of_ble_eq_true rfl⟩ (Nat.le_of_ble_eq_true rfl) (Nat.le_of_ble_eq_true rfl) (g1) (fun k95 kL => ?_)
  have hs1 : scL h1 = scL h := by unfold scL; rw [kL]
  refine gd_ald2 dL_law_406 (by decide) ?_
  refine gd_ald0 dL_law_407 (by decide) ?_
  refine gd_ild3 dL_law_408 ?_
  refine gd_ic1 dL_law_409 ?_
  refine gd_iadd dL_law_410 ?_
  refine gd_xald dL_law_411 (by omega) (by repeat' (first | with_reducible rfl | apply ni_add | apply ni_mul)) (by omega) ?_
  rw [k95]
  refine gd_ald0 dL_law_412 (by decide) ?_
  refine gd_ild3 dL_law_413 ?_
  refine gd_ic2 dL_law_414 ?_
  refine gd_iadd dL_law_415 ?_
  refine gd_xald dL_law_416 (by omega) (by repeat' (first | with_reducible rfl | apply ni_add | apply ni_mul)) (by omega) ?_
  rw [k95]
  refine gd_cV2i dL_law_417 ct_10_35 rc_72 ⟨Nat.le_of_ble_eq_true rfl, Nat.le_of_ble_eq_true rfl⟩ (Nat.le_of_ble_eq_true rfl) (Nat.le_of_ble_eq_true rfl) (g2) ?_
  refine gd_icmp_eq_t 1807 dL_law_420 (by decide) (rfl) ?_
  exact gg
set_option maxHeartbeats 1000000 in
theorem lw_c5 {h : Hp} {k : Nat} (i : Inv h) (hk : k + 6 ≤ scL h) (ih : ∀ h2, Inv h2 → scL h2 = scL h → ∃ h', Gd mL_law 1807 [.ref 95, .ref 0, .ref 72, .int (nI k)] [] h2 (some (.int (nI 1)), h')) : ∃ h', Gd mL_law 425 [.ref 95, .ref 0, .ref 72, .int (nI k)] [] h (some (.int (nI 1)), h') := by
  have hl := i.l
  obtain ⟨v, h1, h2, g1, g2, i2, e1, e2⟩ := Pas.int rfl rfl (p_tick i (h.1 95 (k + 1)))
  obtain ⟨h', gg⟩ := ih h2 i2 (by unfold scL; rw [e2])
  refine ⟨h', ?_⟩
  refine gd_ald1 dL_law_425 (by decide) ?_
  refine gd_ald0 dL_law_426 (by decide) ?_
  refine gd_ild3 dL_law_427 ?_
  refine gd_ic1 dL_law_428 ?_
  refine gd_iadd dL_law_429 ?_
  refine gd_xald dL_law_430 (by omega) (by repeat' (first | with_reducible rfl | apply ni_add | apply ni_mul)) (by omega) ?_
  refine gd_kV1i dL_law_431 ct_10_36 rc_0 ⟨Nat.le_of_ble_eq_true rfl, Nat.le_of_ble_eq_true rfl⟩ (Nat.le_of_ble_eq_true rfl) (Nat.le_of_ble_eq_true rfl) (g1) (fun k95 kL => ?_)
  have hs1 : scL h1 = scL h := by unfold scL; rw [kL]
  refine gd_ald2 dL_law_434 (by decide) ?_
  refine gd_ald0 dL_law_435 (by decide) ?_
  refine gd_ild3 dL_law_436 ?_
  refine gd_ic1 dL_law_437 ?_
  refine gd_iadd dL_law_438 ?_
  refine gd_xald dL_law_439 (by omega) (by repeat' (first | with_reducible rfl | apply ni_add | apply ni_mul)) (by omega) ?_
  rw [k95]
  refine gd_cV1i dL_law_440 ct_10_39 rc_72 ⟨Nat.le_of_ble_eq_true rfl, Nat.le_of_ble_eq_true rfl⟩ (Nat.le_of_ble_eq_true rfl) (Nat.le_of_ble_eq_true rfl) (g2) ?_
  refine gd_icmp_eq_t 1807 dL_law_443 (by decide) (rfl) ?_
  exact gg
set_option maxHeartbeats 1000000 in
theorem lw_c6 {h : Hp} {k : Nat} (i : Inv h) (hk : k + 6 ≤ scL h) (ih : ∀ h2, Inv h2 → scL h2 = scL h → ∃ h', Gd mL_law 1807 [.ref 95, .ref 0, .ref 72, .int (nI k)] [] h2 (some (.int (nI 1)), h')) : ∃ h', Gd mL_law 448 [.ref 95, .ref 0, .ref 72, .int (nI k)] [] h (some (.int (nI 1)), h') := by
  have hl := i.l
  obtain ⟨v, h1, h2, g1, g2, i2, e1, e2⟩ := Pas.int rfl rfl (p_letter i (h.1 95 (k + 1)) (h.1 95 (k + 2)) (h.1 95 (k + 3)) (h.1 95 (k + 4)) (h.1 95 (k + 5)))
  obtain ⟨h', gg⟩ := ih h2 i2 (by unfold scL; rw [e2])
  refine ⟨h', ?_⟩
  refine gd_ald1 dL_law_448 (by decide) ?_
  refine gd_ald0 dL_law_449 (by decide) ?_
  refine gd_ild3 dL_law_450 ?_
  refine gd_ic1 dL_law_451 ?_
  refine gd_iadd dL_law_452 ?_
  refine gd_xald dL_law_453 (by omega) (by repeat' (first | with_reducible rfl | apply ni_add | apply ni_mul)) (by omega) ?_
  refine gd_ald0 dL_law_454 (by decide) ?_
  refine gd_ild3 dL_law_455 ?_
  refine gd_ic2 dL_law_456 ?_
  refine gd_iadd dL_law_457 ?_
  refine gd_xald dL_law_458 (by omega) (by repeat' (first | with_reducible rfl | apply ni_add | apply ni_mul)) (by omega) ?_
  refine gd_ald0 dL_law_459 (by decide) ?_
  refine gd_ild3 dL_law_460 ?_
  refine gd_ic3 dL_law_461 ?_
  refine gd_iadd dL_law_462 ?_
  refine gd_xald dL_law_463 (by omega) (by repeat' (first | with_reducible rfl | apply ni_add | apply ni_mul)) (by omega) ?_
  refine gd_ald0 dL_law_464 (by decide) ?_
  refine gd_ild3 dL_law_465 ?_
  refine gd_ic4 dL_law_466 ?_
  refine gd_iadd dL_law_467 ?_
  refine gd_xald dL_law_468 (by omega) (by repeat' (first | with_reducible rfl | apply ni_add | apply ni_mul)) (by omega) ?_
  refine gd_ald0 dL_law_469 (by decide) ?_
  refine gd_ild3 dL_law_470 ?_
  refine gd_ic5 dL_law_471 ?_
  refine gd_iadd dL_law_472 ?_
  refine gd_xald dL_law_473 (by omega) (by repeat' (first | with_reducible rfl | apply ni_add | apply ni_mul)) (by omega) ?_
  refine gd_kV5i dL_law_474 ct_10_40 rc_0 ⟨Nat.le_of_ble_eq_true rfl, Nat.le_of_ble_eq_true rfl⟩ (Nat.le_of_ble_eq_true rfl) (Nat.le_of_ble_eq_true rfl) (g1) (fun k95 kL => ?_)
  have hs1 : scL h1 = scL h := by unfold scL; rw [kL]
  refine gd_ald2 dL_law_477 (by decide) ?_
  refine gd_ald0 dL_law_478 (by decide) ?_
  refine gd_ild3 dL_law_479 ?_
  refine gd_ic1 dL_law_480 ?_
  refine gd_iadd dL_law_481 ?_
  refine gd_xald dL_law_482 (by omega) (by repeat' (first | with_reducible rfl | apply ni_add | apply ni_mul)) (by omega) ?_
  rw [k95]
  refine gd_ald0 dL_law_483 (by decide) ?_
  refine gd_ild3 dL_law_484 ?_
  refine gd_ic2 dL_law_485 ?_
  refine gd_iadd dL_law_486 ?_
  refine gd_xald dL_law_487 (by omega) (by repeat' (first | with_reducible rfl | apply ni_add | apply ni_mul)) (by omega) ?_
  rw [k95]
  refine gd_ald0 dL_law_488 (by decide) ?_
  refine gd_ild3 dL_law_489 ?_
  refine gd_ic3 dL_law_490 ?_
  refine gd_iadd dL_law_491 ?_
  refine gd_xald dL_law_492 (by omega) (by repeat' (first | with_reducible rfl | apply ni_add | apply ni_mul)) (by omega) ?_
  rw [k95]
  refine gd_ald0 dL_law_493 (by decide) ?_
  refine gd_ild3 dL_law_494 ?_
  refine gd_ic4 dL_law_495 ?_
  refine gd_iadd dL_law_496 ?_
  refine gd_xald dL_law_497 (by omega) (by repeat' (first | with_reducible rfl | apply ni_add | apply ni_mul)) (by omega) ?_
  rw [k95]
  refine gd_ald0 dL_law_498 (by decide) ?_
  refine gd_ild3 dL_law_499 ?_
  refine gd_ic5 dL_law_500 ?_
  refine gd_iadd dL_law_501 ?_
  refine gd_xald dL_law_502 (by omega) (by repeat' (first | with_reducible rfl | apply ni_add | apply ni_mul)) (by omega) ?_
  rw [k95]
  refine gd_cV5i dL_law_503 ct_10_44 rc_72 ⟨Nat.le_of_ble_eq_true rfl, Nat.le_of_ble_eq_true rfl⟩ (Nat.le_of_ble_eq_true rfl) (Nat.le_of_ble_eq_true rfl) (g2) ?_
  refine gd_icmp_eq_t 1807 dL_law_506 (by decide) (rfl) ?_
  exact gg
set_option maxHeartbeats 1000000 in
theorem lw_c7 {h : Hp} {k : Nat} (i : Inv h) (hk : k + 6 ≤ scL h) (ih : ∀ h2, Inv h2 → scL h2 = scL h → ∃ h', Gd mL_law 1807 [.ref 95, .ref 0, .ref 72, .int (nI k)] [] h2 (some (.int (nI 1)), h')) : ∃ h', Gd mL_law 511 [.ref 95, .ref 0, .ref 72, .int (nI k)] [] h (some (.int (nI 1)), h') := by
  have hl := i.l
  obtain ⟨v, h1, h2, g1, g2, i2, e1, e2⟩ := Pas.int rfl rfl (p_as i (h.1 95 (k + 1)) (h.1 95 (k + 2)))
  obtain ⟨h', gg⟩ := ih h2 i2 (by unfold scL; rw [e2])
  refine ⟨h', ?_⟩
  refine gd_ald1 dL_law_511 (by decide) ?_
  refine gd_ald0 dL_law_512 (by decide) ?_
  refine gd_ild3 dL_law_513 ?_
  refine gd_ic1 dL_law_514 ?_
  refine gd_iadd dL_law_515 ?_
  refine gd_xald dL_law_516 (by omega) (by repeat' (first | with_reducible rfl | apply ni_add | apply ni_mul)) (by omega) ?_
  refine gd_ald0 dL_law_517 (by decide) ?_
  refine gd_ild3 dL_law_518 ?_
  refine gd_ic2 dL_law_519 ?_
  refine gd_iadd dL_law_520 ?_
  refine gd_xald dL_law_521 (by omega) (by repeat' (first | with_reducible rfl | apply ni_add | apply ni_mul)) (by omega) ?_
  refine gd_kV2i dL_law_522 ct_10_45 rc_0 ⟨Nat.le_of_ble_eq_true rfl, Nat.le_of_ble_eq_true rfl⟩ (Nat.le_of_ble_eq_true rfl) (Nat.le_of_ble_eq_true rfl) (g1) (fun k95 kL => ?_)
  have hs1 : scL h1 = scL h := by unfold scL; rw [kL]
  refine gd_ald2 dL_law_525 (by decide) ?_
  refine gd_ald0 dL_law_526 (by decide) ?_
  refine gd_ild3 dL_law_527 ?_
  refine gd_ic1 dL_law_528 ?_
  refine gd_iadd dL_law_529 ?_
  refine gd_xald dL_law_530 (by omega) (by repeat' (first | with_reducible rfl | apply ni_add | apply ni_mul)) (by omega) ?_
  rw [k95]
  refine gd_ald0 dL_law_531 (by decide) ?_
  refine gd_ild3 dL_law_532 ?_
  refine gd_ic2 dL_law_533 ?_
  refine gd_iadd dL_law_534 ?_
  refine gd_xald dL_law_535 (by omega) (by repeat' (first | with_reducible rfl | apply ni_add | apply ni_mul)) (by omega) ?_
  rw [k95]
  refine gd_cV2i dL_law_536 ct_10_48 rc_72 ⟨Nat.le_of_ble_eq_true rfl, Nat.le_of_ble_eq_true rfl⟩ (Nat.le_of_ble_eq_true rfl) (Nat.le_of_ble_eq_true rfl) (g2) ?_
  refine gd_icmp_eq_t 1807 dL_law_539 (by decide) (rfl) ?_
  exact gg
set_option maxHeartbeats 1000000 in
theorem lw_c8 {h : Hp} {k : Nat} (i : Inv h) (hk : k + 6 ≤ scL h) (ih : ∀ h2, Inv h2 → scL h2 = scL h → ∃ h', Gd mL_law 1807 [.ref 95, .ref 0, .ref 72, .int (nI k)] [] h2 (some (.int (nI 1)), h')) : ∃ h', Gd mL_law 544 [.ref 95, .ref 0, .ref 72, .int (nI k)] [] h (some (.int (nI 1)), h') := by
  have hl := i.l
  obtain ⟨v, h1, h2, g1, g2, i2, e1, e2⟩ := Pas.int rfl rfl (p_told i (h.1 95 (k + 1)) (h.1 95 (k + 2)))
  obtain ⟨h', gg⟩ := ih h2 i2 (by unfold scL; rw [e2])
  refine ⟨h', ?_⟩
  refine gd_ald1 dL_law_544 (by decide) ?_
  refine gd_ald0 dL_law_545 (by decide) ?_
  refine gd_ild3 dL_law_546 ?_
  refine gd_ic1 dL_law_547 ?_
  refine gd_iadd dL_law_548 ?_
  refine gd_xald dL_law_549 (by omega) (by repeat' (first | with_reducible rfl | apply ni_add | apply ni_mul)) (by omega) ?_
  refine gd_ald0 dL_law_550 (by decide) ?_
  refine gd_ild3 dL_law_551 ?_
  refine gd_ic2 dL_law_552 ?_
  refine gd_iadd dL_law_553 ?_
  refine gd_xald dL_law_554 (by omega) (by repeat' (first | with_reducible rfl | apply ni_add | apply ni_mul)) (by omega) ?_
  refine gd_kV2i dL_law_555 ct_10_49 rc_0 ⟨Nat.le_of_ble_eq_true rfl, Nat.le_of_ble_eq_true rfl⟩ (Nat.le_of_ble_eq_true rfl) (Nat.le_of_ble_eq_true rfl) (g1) (fun k95 kL => ?_)
  have hs1 : scL h1 = scL h := by unfold scL; rw [kL]
  refine gd_ald2 dL_law_558 (by decide) ?_
  refine gd_ald0 dL_law_559 (by decide) ?_
  refine gd_ild3 dL_law_560 ?_
  refine gd_ic1 dL_law_561 ?_
  refine gd_iadd dL_law_562 ?_
  refine gd_xald dL_law_563 (by omega) (by repeat' (first | with_reducible rfl | apply ni_add | apply ni_mul)) (by omega) ?_
  rw [k95]
  refine gd_ald0 dL_law_564 (by decide) ?_
  refine gd_ild3 dL_law_565 ?_
  refine gd_ic2 dL_law_566 ?_
  refine gd_iadd dL_law_567 ?_
  refine gd_xald dL_law_568 (by omega) (by repeat' (first | with_reducible rfl | apply ni_add | apply ni_mul)) (by omega) ?_
  rw [k95]
  refine gd_cV2i dL_law_569 ct_10_52 rc_72 ⟨Nat.le_of_ble_eq_true rfl, Nat.le_of_ble_eq_true rfl⟩ (Nat.le_of_ble_eq_true rfl) (Nat.le_of_ble_eq_true rfl) (g2) ?_
  refine gd_icmp_eq_t 1807 dL_law_572 (by decide) (rfl) ?_
  exact gg
set_option maxHeartbeats 1000000 in
theorem lw_c9 {h : Hp} {k : Nat} (i : Inv h) (hk : k + 6 ≤ scL h) (ih : ∀ h2, Inv h2 → scL h2 = scL h → ∃ h', Gd mL_law 1807 [.ref 95, .ref 0, .ref 72, .int (nI k)] [] h2 (some (.int (nI 1)), h')) : ∃ h', Gd mL_law 577 [.ref 95, .ref 0, .ref 72, .int (nI k)] [] h (some (.int (nI 1)), h') := by
  have hl := i.l
  by_cases z : h.1 95 (k + 2) = 0
  · obtain ⟨v, h1, h2, g1, g2, i2, e1, e2⟩ := Pas.int rfl rfl (p_lose i (h.1 95 (k + 1)) (nI 0) (Or.inl rfl))
    obtain ⟨h', gg⟩ := ih h2 i2 (by unfold scL; rw [e2])
    refine ⟨h', ?_⟩
    refine gd_ald1 dL_law_577 (by decide) ?_
    refine gd_ald0 dL_law_578 (by decide) ?_
    refine gd_ild3 dL_law_579 ?_
    refine gd_ic1 dL_law_580 ?_
    refine gd_iadd dL_law_581 ?_
    refine gd_xald dL_law_582 (by omega) (by repeat' (first | with_reducible rfl | apply ni_add | apply ni_mul)) (by omega) ?_
    refine gd_ald0 dL_law_583 (by decide) ?_
    refine gd_ild3 dL_law_584 ?_
    refine gd_ic2 dL_law_585 ?_
    refine gd_iadd dL_law_586 ?_
    refine gd_xald dL_law_587 (by omega) (by repeat' (first | with_reducible rfl | apply ni_add | apply ni_mul)) (by omega) ?_
    refine gd_if_eq_t 595 dL_law_588 (by decide) (z) ?_
    refine gd_ic0 dL_law_595 ?_
    refine gd_kV2i dL_law_596 ct_10_53 rc_0 ⟨Nat.le_of_ble_eq_true rfl, Nat.le_of_ble_eq_true rfl⟩ (Nat.le_of_ble_eq_true rfl) (Nat.le_of_ble_eq_true rfl) (g1) (fun k95 kL => ?_)
    have hs1 : scL h1 = scL h := by unfold scL; rw [kL]
    refine gd_ald2 dL_law_599 (by decide) ?_
    refine gd_ald0 dL_law_600 (by decide) ?_
    refine gd_ild3 dL_law_601 ?_
    refine gd_ic1 dL_law_602 ?_
    refine gd_iadd dL_law_603 ?_
    refine gd_xald dL_law_604 (by omega) (by repeat' (first | with_reducible rfl | apply ni_add | apply ni_mul)) (by omega) ?_
    rw [k95]
    refine gd_ald0 dL_law_605 (by decide) ?_
    refine gd_ild3 dL_law_606 ?_
    refine gd_ic2 dL_law_607 ?_
    refine gd_iadd dL_law_608 ?_
    refine gd_xald dL_law_609 (by omega) (by repeat' (first | with_reducible rfl | apply ni_add | apply ni_mul)) (by omega) ?_
    rw [k95]
    refine gd_if_eq_t 617 dL_law_610 (by decide) (z) ?_
    refine gd_ic0 dL_law_617 ?_
    refine gd_cV2i dL_law_618 ct_10_57 rc_72 ⟨Nat.le_of_ble_eq_true rfl, Nat.le_of_ble_eq_true rfl⟩ (Nat.le_of_ble_eq_true rfl) (Nat.le_of_ble_eq_true rfl) (g2) ?_
    refine gd_icmp_eq_t 1807 dL_law_621 (by decide) (rfl) ?_
    exact gg
  · obtain ⟨v, h1, h2, g1, g2, i2, e1, e2⟩ := Pas.int rfl rfl (p_lose i (h.1 95 (k + 1)) (nI 1) (Or.inr rfl))
    obtain ⟨h', gg⟩ := ih h2 i2 (by unfold scL; rw [e2])
    refine ⟨h', ?_⟩
    refine gd_ald1 dL_law_577 (by decide) ?_
    refine gd_ald0 dL_law_578 (by decide) ?_
    refine gd_ild3 dL_law_579 ?_
    refine gd_ic1 dL_law_580 ?_
    refine gd_iadd dL_law_581 ?_
    refine gd_xald dL_law_582 (by omega) (by repeat' (first | with_reducible rfl | apply ni_add | apply ni_mul)) (by omega) ?_
    refine gd_ald0 dL_law_583 (by decide) ?_
    refine gd_ild3 dL_law_584 ?_
    refine gd_ic2 dL_law_585 ?_
    refine gd_iadd dL_law_586 ?_
    refine gd_xald dL_law_587 (by omega) (by repeat' (first | with_reducible rfl | apply ni_add | apply ni_mul)) (by omega) ?_
    refine gd_if_eq_f 595 dL_law_588 (by decide) (z) ?_
    refine gd_ic1 dL_law_591 ?_
    refine gd_goto 596 dL_law_592 (by decide) ?_
    refine gd_kV2i dL_law_596 ct_10_53 rc_0 ⟨Nat.le_of_ble_eq_true rfl, Nat.le_of_ble_eq_true rfl⟩ (Nat.le_of_ble_eq_true rfl) (Nat.le_of_ble_eq_true rfl) (g1) (fun k95 kL => ?_)
    have hs1 : scL h1 = scL h := by unfold scL; rw [kL]
    refine gd_ald2 dL_law_599 (by decide) ?_
    refine gd_ald0 dL_law_600 (by decide) ?_
    refine gd_ild3 dL_law_601 ?_
    refine gd_ic1 dL_law_602 ?_
    refine gd_iadd dL_law_603 ?_
    refine gd_xald dL_law_604 (by omega) (by repeat' (first | with_reducible rfl | apply ni_add | apply ni_mul)) (by omega) ?_
    rw [k95]
    refine gd_ald0 dL_law_605 (by decide) ?_
    refine gd_ild3 dL_law_606 ?_
    refine gd_ic2 dL_law_607 ?_
    refine gd_iadd dL_law_608 ?_
    refine gd_xald dL_law_609 (by omega) (by repeat' (first | with_reducible rfl | apply ni_add | apply ni_mul)) (by omega) ?_
    rw [k95]
    refine gd_if_eq_f 617 dL_law_610 (by decide) (z) ?_
    refine gd_ic1 dL_law_613 ?_
    refine gd_goto 618 dL_law_614 (by decide) ?_
    refine gd_cV2i dL_law_618 ct_10_57 rc_72 ⟨Nat.le_of_ble_eq_true rfl, Nat.le_of_ble_eq_true rfl⟩ (Nat.le_of_ble_eq_true rfl) (Nat.le_of_ble_eq_true rfl) (g2) ?_
    refine gd_icmp_eq_t 1807 dL_law_621 (by decide) (rfl) ?_
    exact gg
set_option maxHeartbeats 1000000 in
theorem lw_c10 {h : Hp} {k : Nat} (i : Inv h) (hk : k + 6 ≤ scL h) (ih : ∀ h2, Inv h2 → scL h2 = scL h → ∃ h', Gd mL_law 1807 [.ref 95, .ref 0, .ref 72, .int (nI k)] [] h2 (some (.int (nI 1)), h')) : ∃ h', Gd mL_law 626 [.ref 95, .ref 0, .ref 72, .int (nI k)] [] h (some (.int (nI 1)), h') := by
  have hl := i.l
  obtain ⟨v, h1, h2, g1, g2, i2, e1, e2⟩ := Pas.int rfl rfl (p_reread i (h.1 95 (k + 1)) (h.1 95 (k + 2)))
  obtain ⟨h', gg⟩ := ih h2 i2 (by unfold scL; rw [e2])
  refine ⟨h', ?_⟩
  refine gd_ald1 dL_law_626 (by decide) ?_
  refine gd_ald0 dL_law_627 (by decide) ?_
  refine gd_ild3 dL_law_628 ?_
  refine gd_ic1 dL_law_629 ?_
  refine gd_iadd dL_law_630 ?_
  refine gd_xald dL_law_631 (by omega) (by repeat' (first | with_reducible rfl | apply ni_add | apply ni_mul)) (by omega) ?_
  refine gd_ald0 dL_law_632 (by decide) ?_
  refine gd_ild3 dL_law_633 ?_
  refine gd_ic2 dL_law_634 ?_
  refine gd_iadd dL_law_635 ?_
  refine gd_xald dL_law_636 (by omega) (by repeat' (first | with_reducible rfl | apply ni_add | apply ni_mul)) (by omega) ?_
  refine gd_kV2i dL_law_637 ct_10_58 rc_0 ⟨Nat.le_of_ble_eq_true rfl, Nat.le_of_ble_eq_true rfl⟩ (Nat.le_of_ble_eq_true rfl) (Nat.le_of_ble_eq_true rfl) (g1) (fun k95 kL => ?_)
  have hs1 : scL h1 = scL h := by unfold scL; rw [kL]
  refine gd_ald2 dL_law_640 (by decide) ?_
  refine gd_ald0 dL_law_641 (by decide) ?_
  refine gd_ild3 dL_law_642 ?_
  refine gd_ic1 dL_law_643 ?_
  refine gd_iadd dL_law_644 ?_
  refine gd_xald dL_law_645 (by omega) (by repeat' (first | with_reducible rfl | apply ni_add | apply ni_mul)) (by omega) ?_
  rw [k95]
  refine gd_ald0 dL_law_646 (by decide) ?_
  refine gd_ild3 dL_law_647 ?_
  refine gd_ic2 dL_law_648 ?_
  refine gd_iadd dL_law_649 ?_
  refine gd_xald dL_law_650 (by omega) (by repeat' (first | with_reducible rfl | apply ni_add | apply ni_mul)) (by omega) ?_
  rw [k95]
  refine gd_cV2i dL_law_651 ct_10_61 rc_72 ⟨Nat.le_of_ble_eq_true rfl, Nat.le_of_ble_eq_true rfl⟩ (Nat.le_of_ble_eq_true rfl) (Nat.le_of_ble_eq_true rfl) (g2) ?_
  refine gd_icmp_eq_t 1807 dL_law_654 (by decide) (rfl) ?_
  exact gg
set_option maxHeartbeats 1000000 in
theorem lw_c11 {h : Hp} {k : Nat} (i : Inv h) (hk : k + 6 ≤ scL h) (ih : ∀ h2, Inv h2 → scL h2 = scL h → ∃ h', Gd mL_law 1807 [.ref 95, .ref 0, .ref 72, .int (nI k)] [] h2 (some (.int (nI 1)), h')) : ∃ h', Gd mL_law 659 [.ref 95, .ref 0, .ref 72, .int (nI k)] [] h (some (.int (nI 1)), h') := by
  have hl := i.l
  obtain ⟨v, h1, h2, g1, g2, i2, e1, e2⟩ := Pas.int rfl rfl (p_counts i (h.1 95 (k + 1)))
  obtain ⟨h', gg⟩ := ih h2 i2 (by unfold scL; rw [e2])
  refine ⟨h', ?_⟩
  refine gd_ald1 dL_law_659 (by decide) ?_
  refine gd_ald0 dL_law_660 (by decide) ?_
  refine gd_ild3 dL_law_661 ?_
  refine gd_ic1 dL_law_662 ?_
  refine gd_iadd dL_law_663 ?_
  refine gd_xald dL_law_664 (by omega) (by repeat' (first | with_reducible rfl | apply ni_add | apply ni_mul)) (by omega) ?_
  refine gd_kV1i dL_law_665 ct_10_62 rc_0 ⟨Nat.le_of_ble_eq_true rfl, Nat.le_of_ble_eq_true rfl⟩ (Nat.le_of_ble_eq_true rfl) (Nat.le_of_ble_eq_true rfl) (g1) (fun k95 kL => ?_)
  have hs1 : scL h1 = scL h := by unfold scL; rw [kL]
  refine gd_ald2 dL_law_668 (by decide) ?_
  refine gd_ald0 dL_law_669 (by decide) ?_
  refine gd_ild3 dL_law_670 ?_
  refine gd_ic1 dL_law_671 ?_
  refine gd_iadd dL_law_672 ?_
  refine gd_xald dL_law_673 (by omega) (by repeat' (first | with_reducible rfl | apply ni_add | apply ni_mul)) (by omega) ?_
  rw [k95]
  refine gd_cV1i dL_law_674 ct_10_65 rc_72 ⟨Nat.le_of_ble_eq_true rfl, Nat.le_of_ble_eq_true rfl⟩ (Nat.le_of_ble_eq_true rfl) (Nat.le_of_ble_eq_true rfl) (g2) ?_
  refine gd_icmp_eq_t 1807 dL_law_677 (by decide) (rfl) ?_
  exact gg
set_option maxHeartbeats 1000000 in
theorem lw_c12 {h : Hp} {k : Nat} (i : Inv h) (hk : k + 6 ≤ scL h) (ih : ∀ h2, Inv h2 → scL h2 = scL h → ∃ h', Gd mL_law 1807 [.ref 95, .ref 0, .ref 72, .int (nI k)] [] h2 (some (.int (nI 1)), h')) : ∃ h', Gd mL_law 682 [.ref 95, .ref 0, .ref 72, .int (nI k)] [] h (some (.int (nI 1)), h') := by
  have hl := i.l
  obtain ⟨v, h1, h2, g1, g2, i2, e1, e2⟩ := Pas.int rfl rfl (p_lets i (h.1 95 (k + 1)))
  obtain ⟨h', gg⟩ := ih h2 i2 (by unfold scL; rw [e2])
  refine ⟨h', ?_⟩
  refine gd_ald1 dL_law_682 (by decide) ?_
  refine gd_ald0 dL_law_683 (by decide) ?_
  refine gd_ild3 dL_law_684 ?_
  refine gd_ic1 dL_law_685 ?_
  refine gd_iadd dL_law_686 ?_
  refine gd_xald dL_law_687 (by omega) (by repeat' (first | with_reducible rfl | apply ni_add | apply ni_mul)) (by omega) ?_
  refine gd_kV1i dL_law_688 ct_10_66 rc_0 ⟨Nat.le_of_ble_eq_true rfl, Nat.le_of_ble_eq_true rfl⟩ (Nat.le_of_ble_eq_true rfl) (Nat.le_of_ble_eq_true rfl) (g1) (fun k95 kL => ?_)
  have hs1 : scL h1 = scL h := by unfold scL; rw [kL]
  refine gd_ald2 dL_law_691 (by decide) ?_
  refine gd_ald0 dL_law_692 (by decide) ?_
  refine gd_ild3 dL_law_693 ?_
  refine gd_ic1 dL_law_694 ?_
  refine gd_iadd dL_law_695 ?_
  refine gd_xald dL_law_696 (by omega) (by repeat' (first | with_reducible rfl | apply ni_add | apply ni_mul)) (by omega) ?_
  rw [k95]
  refine gd_cV1i dL_law_697 ct_10_69 rc_72 ⟨Nat.le_of_ble_eq_true rfl, Nat.le_of_ble_eq_true rfl⟩ (Nat.le_of_ble_eq_true rfl) (Nat.le_of_ble_eq_true rfl) (g2) ?_
  refine gd_icmp_eq_t 1807 dL_law_700 (by decide) (rfl) ?_
  exact gg
set_option maxHeartbeats 1000000 in
theorem lw_c13 {h : Hp} {k : Nat} (i : Inv h) (hk : k + 6 ≤ scL h) (ih : ∀ h2, Inv h2 → scL h2 = scL h → ∃ h', Gd mL_law 1807 [.ref 95, .ref 0, .ref 72, .int (nI k)] [] h2 (some (.int (nI 1)), h')) : ∃ h', Gd mL_law 705 [.ref 95, .ref 0, .ref 72, .int (nI k)] [] h (some (.int (nI 1)), h') := by
  have hl := i.l
  obtain ⟨v, h1, h2, g1, g2, i2, e1, e2⟩ := Pas.int rfl rfl (p_root i (h.1 95 (k + 1)))
  obtain ⟨h', gg⟩ := ih h2 i2 (by unfold scL; rw [e2])
  refine ⟨h', ?_⟩
  refine gd_ald1 dL_law_705 (by decide) ?_
  refine gd_ald0 dL_law_706 (by decide) ?_
  refine gd_ild3 dL_law_707 ?_
  refine gd_ic1 dL_law_708 ?_
  refine gd_iadd dL_law_709 ?_
  refine gd_xald dL_law_710 (by omega) (by repeat' (first | with_reducible rfl | apply ni_add | apply ni_mul)) (by omega) ?_
  refine gd_kV1i dL_law_711 ct_10_70 rc_0 ⟨Nat.le_of_ble_eq_true rfl, Nat.le_of_ble_eq_true rfl⟩ (Nat.le_of_ble_eq_true rfl) (Nat.le_of_ble_eq_true rfl) (g1) (fun k95 kL => ?_)
  have hs1 : scL h1 = scL h := by unfold scL; rw [kL]
  refine gd_ald2 dL_law_714 (by decide) ?_
  refine gd_ald0 dL_law_715 (by decide) ?_
  refine gd_ild3 dL_law_716 ?_
  refine gd_ic1 dL_law_717 ?_
  refine gd_iadd dL_law_718 ?_
  refine gd_xald dL_law_719 (by omega) (by repeat' (first | with_reducible rfl | apply ni_add | apply ni_mul)) (by omega) ?_
  rw [k95]
  refine gd_cV1i dL_law_720 ct_10_73 rc_72 ⟨Nat.le_of_ble_eq_true rfl, Nat.le_of_ble_eq_true rfl⟩ (Nat.le_of_ble_eq_true rfl) (Nat.le_of_ble_eq_true rfl) (g2) ?_
  refine gd_icmp_eq_t 1807 dL_law_723 (by decide) (rfl) ?_
  exact gg
set_option maxHeartbeats 1000000 in
theorem lw_c14 {h : Hp} {k : Nat} (i : Inv h) (hk : k + 6 ≤ scL h) (ih : ∀ h2, Inv h2 → scL h2 = scL h → ∃ h', Gd mL_law 1807 [.ref 95, .ref 0, .ref 72, .int (nI k)] [] h2 (some (.int (nI 1)), h')) : ∃ h', Gd mL_law 728 [.ref 95, .ref 0, .ref 72, .int (nI k)] [] h (some (.int (nI 1)), h') := by
  have hl := i.l
  obtain ⟨v, h1, h2, g1, g2, i2, e1, e2⟩ := Pas.int rfl rfl (p_tree i (h.1 95 (k + 1)))
  obtain ⟨h', gg⟩ := ih h2 i2 (by unfold scL; rw [e2])
  refine ⟨h', ?_⟩
  refine gd_ald1 dL_law_728 (by decide) ?_
  refine gd_ald0 dL_law_729 (by decide) ?_
  refine gd_ild3 dL_law_730 ?_
  refine gd_ic1 dL_law_731 ?_
  refine gd_iadd dL_law_732 ?_
  refine gd_xald dL_law_733 (by omega) (by repeat' (first | with_reducible rfl | apply ni_add | apply ni_mul)) (by omega) ?_
  refine gd_kV1i dL_law_734 ct_10_74 rc_0 ⟨Nat.le_of_ble_eq_true rfl, Nat.le_of_ble_eq_true rfl⟩ (Nat.le_of_ble_eq_true rfl) (Nat.le_of_ble_eq_true rfl) (g1) (fun k95 kL => ?_)
  have hs1 : scL h1 = scL h := by unfold scL; rw [kL]
  refine gd_ald2 dL_law_737 (by decide) ?_
  refine gd_ald0 dL_law_738 (by decide) ?_
  refine gd_ild3 dL_law_739 ?_
  refine gd_ic1 dL_law_740 ?_
  refine gd_iadd dL_law_741 ?_
  refine gd_xald dL_law_742 (by omega) (by repeat' (first | with_reducible rfl | apply ni_add | apply ni_mul)) (by omega) ?_
  rw [k95]
  refine gd_cV1i dL_law_743 ct_10_77 rc_72 ⟨Nat.le_of_ble_eq_true rfl, Nat.le_of_ble_eq_true rfl⟩ (Nat.le_of_ble_eq_true rfl) (Nat.le_of_ble_eq_true rfl) (g2) ?_
  refine gd_icmp_eq_t 1807 dL_law_746 (by decide) (rfl) ?_
  exact gg
set_option maxHeartbeats 1000000 in
theorem lw_c15 {h : Hp} {k : Nat} (i : Inv h) (hk : k + 6 ≤ scL h) (ih : ∀ h2, Inv h2 → scL h2 = scL h → ∃ h', Gd mL_law 1807 [.ref 95, .ref 0, .ref 72, .int (nI k)] [] h2 (some (.int (nI 1)), h')) : ∃ h', Gd mL_law 751 [.ref 95, .ref 0, .ref 72, .int (nI k)] [] h (some (.int (nI 1)), h') := by
  have hl := i.l
  obtain ⟨v, h1, h2, g1, g2, i2, e1, e2⟩ := Pas.int rfl rfl (p_days i (h.1 95 (k + 1)))
  obtain ⟨h', gg⟩ := ih h2 i2 (by unfold scL; rw [e2])
  refine ⟨h', ?_⟩
  refine gd_ald1 dL_law_751 (by decide) ?_
  refine gd_ald0 dL_law_752 (by decide) ?_
  refine gd_ild3 dL_law_753 ?_
  refine gd_ic1 dL_law_754 ?_
  refine gd_iadd dL_law_755 ?_
  refine gd_xald dL_law_756 (by omega) (by repeat' (first | with_reducible rfl | apply ni_add | apply ni_mul)) (by omega) ?_
  refine gd_kV1i dL_law_757 ct_10_78 rc_0 ⟨Nat.le_of_ble_eq_true rfl, Nat.le_of_ble_eq_true rfl⟩ (Nat.le_of_ble_eq_true rfl) (Nat.le_of_ble_eq_true rfl) (g1) (fun k95 kL => ?_)
  have hs1 : scL h1 = scL h := by unfold scL; rw [kL]
  refine gd_ald2 dL_law_760 (by decide) ?_
  refine gd_ald0 dL_law_761 (by decide) ?_
  refine gd_ild3 dL_law_762 ?_
  refine gd_ic1 dL_law_763 ?_
  refine gd_iadd dL_law_764 ?_
  refine gd_xald dL_law_765 (by omega) (by repeat' (first | with_reducible rfl | apply ni_add | apply ni_mul)) (by omega) ?_
  rw [k95]
  refine gd_cV1i dL_law_766 ct_10_81 rc_72 ⟨Nat.le_of_ble_eq_true rfl, Nat.le_of_ble_eq_true rfl⟩ (Nat.le_of_ble_eq_true rfl) (Nat.le_of_ble_eq_true rfl) (g2) ?_
  refine gd_icmp_eq_t 1807 dL_law_769 (by decide) (rfl) ?_
  exact gg
set_option maxHeartbeats 1000000 in
theorem lw_c16 {h : Hp} {k : Nat} (i : Inv h) (hk : k + 6 ≤ scL h) (ih : ∀ h2, Inv h2 → scL h2 = scL h → ∃ h', Gd mL_law 1807 [.ref 95, .ref 0, .ref 72, .int (nI k)] [] h2 (some (.int (nI 1)), h')) : ∃ h', Gd mL_law 774 [.ref 95, .ref 0, .ref 72, .int (nI k)] [] h (some (.int (nI 1)), h') := by
  have hl := i.l
  obtain ⟨v, h1, h2, g1, g2, i2, e1, e2⟩ := Pas.int rfl rfl (p_day i (h.1 95 (k + 1)) (h.1 95 (k + 2)))
  obtain ⟨h', gg⟩ := ih h2 i2 (by unfold scL; rw [e2])
  refine ⟨h', ?_⟩
  refine gd_ald1 dL_law_774 (by decide) ?_
  refine gd_ald0 dL_law_775 (by decide) ?_
  refine gd_ild3 dL_law_776 ?_
  refine gd_ic1 dL_law_777 ?_
  refine gd_iadd dL_law_778 ?_
  refine gd_xald dL_law_779 (by omega) (by repeat' (first | with_reducible rfl | apply ni_add | apply ni_mul)) (by omega) ?_
  refine gd_ald0 dL_law_780 (by decide) ?_
  refine gd_ild3 dL_law_781 ?_
  refine gd_ic2 dL_law_782 ?_
  refine gd_iadd dL_law_783 ?_
  refine gd_xald dL_law_784 (by omega) (by repeat' (first | with_reducible rfl | apply ni_add | apply ni_mul)) (by omega) ?_
  refine gd_kV2i dL_law_785 ct_10_82 rc_0 ⟨Nat.le_of_ble_eq_true rfl, Nat.le_of_ble_eq_true rfl⟩ (Nat.le_of_ble_eq_true rfl) (Nat.le_of_ble_eq_true rfl) (g1) (fun k95 kL => ?_)
  have hs1 : scL h1 = scL h := by unfold scL; rw [kL]
  refine gd_ald2 dL_law_788 (by decide) ?_
  refine gd_ald0 dL_law_789 (by decide) ?_
  refine gd_ild3 dL_law_790 ?_
  refine gd_ic1 dL_law_791 ?_
  refine gd_iadd dL_law_792 ?_
  refine gd_xald dL_law_793 (by omega) (by repeat' (first | with_reducible rfl | apply ni_add | apply ni_mul)) (by omega) ?_
  rw [k95]
  refine gd_ald0 dL_law_794 (by decide) ?_
  refine gd_ild3 dL_law_795 ?_
  refine gd_ic2 dL_law_796 ?_
  refine gd_iadd dL_law_797 ?_
  refine gd_xald dL_law_798 (by omega) (by repeat' (first | with_reducible rfl | apply ni_add | apply ni_mul)) (by omega) ?_
  rw [k95]
  refine gd_cV2i dL_law_799 ct_10_85 rc_72 ⟨Nat.le_of_ble_eq_true rfl, Nat.le_of_ble_eq_true rfl⟩ (Nat.le_of_ble_eq_true rfl) (Nat.le_of_ble_eq_true rfl) (g2) ?_
  refine gd_icmp_eq_t 1807 dL_law_802 (by decide) (rfl) ?_
  exact gg
set_option maxHeartbeats 1000000 in
theorem lw_c17 {h : Hp} {k : Nat} (i : Inv h) (hk : k + 6 ≤ scL h) (ih : ∀ h2, Inv h2 → scL h2 = scL h → ∃ h', Gd mL_law 1807 [.ref 95, .ref 0, .ref 72, .int (nI k)] [] h2 (some (.int (nI 1)), h')) : ∃ h', Gd mL_law 807 [.ref 95, .ref 0, .ref 72, .int (nI k)] [] h (some (.int (nI 1)), h') := by
  have hl := i.l
  obtain ⟨v, h1, h2, g1, g2, i2, e1, e2⟩ := Pas.int rfl rfl (p_evening i (h.1 95 (k + 1)))
  obtain ⟨h', gg⟩ := ih h2 i2 (by unfold scL; rw [e2])
  refine ⟨h', ?_⟩
  refine gd_ald1 dL_law_807 (by decide) ?_
  refine gd_ald0 dL_law_808 (by decide) ?_
  refine gd_ild3 dL_law_809 ?_
  refine gd_ic1 dL_law_810 ?_
  refine gd_iadd dL_law_811 ?_
  refine gd_xald dL_law_812 (by omega) (by repeat' (first | with_reducible rfl | apply ni_add | apply ni_mul)) (by omega) ?_
  refine gd_kV1i dL_law_813 ct_10_86 rc_0 ⟨Nat.le_of_ble_eq_true rfl, Nat.le_of_ble_eq_true rfl⟩ (Nat.le_of_ble_eq_true rfl) (Nat.le_of_ble_eq_true rfl) (g1) (fun k95 kL => ?_)
  have hs1 : scL h1 = scL h := by unfold scL; rw [kL]
  refine gd_ald2 dL_law_816 (by decide) ?_
  refine gd_ald0 dL_law_817 (by decide) ?_
  refine gd_ild3 dL_law_818 ?_
  refine gd_ic1 dL_law_819 ?_
  refine gd_iadd dL_law_820 ?_
  refine gd_xald dL_law_821 (by omega) (by repeat' (first | with_reducible rfl | apply ni_add | apply ni_mul)) (by omega) ?_
  rw [k95]
  refine gd_cV1i dL_law_822 ct_10_89 rc_72 ⟨Nat.le_of_ble_eq_true rfl, Nat.le_of_ble_eq_true rfl⟩ (Nat.le_of_ble_eq_true rfl) (Nat.le_of_ble_eq_true rfl) (g2) ?_
  refine gd_icmp_eq_t 1807 dL_law_825 (by decide) (rfl) ?_
  exact gg
set_option maxHeartbeats 1000000 in
theorem lw_c18 {h : Hp} {k : Nat} (i : Inv h) (hk : k + 6 ≤ scL h) (ih : ∀ h2, Inv h2 → scL h2 = scL h → ∃ h', Gd mL_law 1807 [.ref 95, .ref 0, .ref 72, .int (nI k)] [] h2 (some (.int (nI 1)), h')) : ∃ h', Gd mL_law 830 [.ref 95, .ref 0, .ref 72, .int (nI k)] [] h (some (.int (nI 1)), h') := by
  have hl := i.l
  obtain ⟨v, h1, h2, g1, g2, i2, e1, e2⟩ := Pas.int rfl rfl (p_feed i (h.1 95 (k + 1)) (h.1 95 (k + 2)))
  obtain ⟨h', gg⟩ := ih h2 i2 (by unfold scL; rw [e2])
  refine ⟨h', ?_⟩
  refine gd_ald1 dL_law_830 (by decide) ?_
  refine gd_ald0 dL_law_831 (by decide) ?_
  refine gd_ild3 dL_law_832 ?_
  refine gd_ic1 dL_law_833 ?_
  refine gd_iadd dL_law_834 ?_
  refine gd_xald dL_law_835 (by omega) (by repeat' (first | with_reducible rfl | apply ni_add | apply ni_mul)) (by omega) ?_
  refine gd_ald0 dL_law_836 (by decide) ?_
  refine gd_ild3 dL_law_837 ?_
  refine gd_ic2 dL_law_838 ?_
  refine gd_iadd dL_law_839 ?_
  refine gd_xald dL_law_840 (by omega) (by repeat' (first | with_reducible rfl | apply ni_add | apply ni_mul)) (by omega) ?_
  refine gd_kV2i dL_law_841 ct_10_90 rc_0 ⟨Nat.le_of_ble_eq_true rfl, Nat.le_of_ble_eq_true rfl⟩ (Nat.le_of_ble_eq_true rfl) (Nat.le_of_ble_eq_true rfl) (g1) (fun k95 kL => ?_)
  have hs1 : scL h1 = scL h := by unfold scL; rw [kL]
  refine gd_ald2 dL_law_844 (by decide) ?_
  refine gd_ald0 dL_law_845 (by decide) ?_
  refine gd_ild3 dL_law_846 ?_
  refine gd_ic1 dL_law_847 ?_
  refine gd_iadd dL_law_848 ?_
  refine gd_xald dL_law_849 (by omega) (by repeat' (first | with_reducible rfl | apply ni_add | apply ni_mul)) (by omega) ?_
  rw [k95]
  refine gd_ald0 dL_law_850 (by decide) ?_
  refine gd_ild3 dL_law_851 ?_
  refine gd_ic2 dL_law_852 ?_
  refine gd_iadd dL_law_853 ?_
  refine gd_xald dL_law_854 (by omega) (by repeat' (first | with_reducible rfl | apply ni_add | apply ni_mul)) (by omega) ?_
  rw [k95]
  refine gd_cV2i dL_law_855 ct_10_93 rc_72 ⟨Nat.le_of_ble_eq_true rfl, Nat.le_of_ble_eq_true rfl⟩ (Nat.le_of_ble_eq_true rfl) (Nat.le_of_ble_eq_true rfl) (g2) ?_
  refine gd_icmp_eq_t 1807 dL_law_858 (by decide) (rfl) ?_
  exact gg
set_option maxHeartbeats 1000000 in
theorem lw_c19 {h : Hp} {k : Nat} (i : Inv h) (hk : k + 6 ≤ scL h) (ih : ∀ h2, Inv h2 → scL h2 = scL h → ∃ h', Gd mL_law 1807 [.ref 95, .ref 0, .ref 72, .int (nI k)] [] h2 (some (.int (nI 1)), h')) : ∃ h', Gd mL_law 863 [.ref 95, .ref 0, .ref 72, .int (nI k)] [] h (some (.int (nI 1)), h') := by
  have hl := i.l
  obtain ⟨v, h1, h2, g1, g2, i2, e1, e2⟩ := Pas.int rfl rfl (p_wipe i )
  obtain ⟨h', gg⟩ := ih h2 i2 (by unfold scL; rw [e2])
  refine ⟨h', ?_⟩
  refine gd_ald1 dL_law_863 (by decide) ?_
  refine gd_kV0i dL_law_864 ct_10_94 rc_0 ⟨Nat.le_of_ble_eq_true rfl, Nat.le_of_ble_eq_true rfl⟩ (Nat.le_of_ble_eq_true rfl) (Nat.le_of_ble_eq_true rfl) (g1) (fun k95 kL => ?_)
  have hs1 : scL h1 = scL h := by unfold scL; rw [kL]
  refine gd_ald2 dL_law_867 (by decide) ?_
  refine gd_cV0i dL_law_868 ct_10_98 rc_72 ⟨Nat.le_of_ble_eq_true rfl, Nat.le_of_ble_eq_true rfl⟩ (Nat.le_of_ble_eq_true rfl) (Nat.le_of_ble_eq_true rfl) (g2) ?_
  refine gd_icmp_eq_t 1807 dL_law_871 (by decide) (rfl) ?_
  exact gg
set_option maxHeartbeats 1000000 in
theorem lw_c20 {h : Hp} {k : Nat} (i : Inv h) (hk : k + 6 ≤ scL h) (ih : ∀ h2, Inv h2 → scL h2 = scL h → ∃ h', Gd mL_law 1807 [.ref 95, .ref 0, .ref 72, .int (nI k)] [] h2 (some (.int (nI 1)), h')) : ∃ h', Gd mL_law 876 [.ref 95, .ref 0, .ref 72, .int (nI k)] [] h (some (.int (nI 1)), h') := by
  have hl := i.l
  obtain ⟨v, h1, h2, g1, g2, i2, e1, e2⟩ := Pas.int rfl rfl (p_text i (h.1 95 (k + 1)))
  obtain ⟨h', gg⟩ := ih h2 i2 (by unfold scL; rw [e2])
  refine ⟨h', ?_⟩
  refine gd_ald1 dL_law_876 (by decide) ?_
  refine gd_ald0 dL_law_877 (by decide) ?_
  refine gd_ild3 dL_law_878 ?_
  refine gd_ic1 dL_law_879 ?_
  refine gd_iadd dL_law_880 ?_
  refine gd_xald dL_law_881 (by omega) (by repeat' (first | with_reducible rfl | apply ni_add | apply ni_mul)) (by omega) ?_
  refine gd_kV1i dL_law_882 ct_10_99 rc_0 ⟨Nat.le_of_ble_eq_true rfl, Nat.le_of_ble_eq_true rfl⟩ (Nat.le_of_ble_eq_true rfl) (Nat.le_of_ble_eq_true rfl) (g1) (fun k95 kL => ?_)
  have hs1 : scL h1 = scL h := by unfold scL; rw [kL]
  refine gd_ald2 dL_law_885 (by decide) ?_
  refine gd_ald0 dL_law_886 (by decide) ?_
  refine gd_ild3 dL_law_887 ?_
  refine gd_ic1 dL_law_888 ?_
  refine gd_iadd dL_law_889 ?_
  refine gd_xald dL_law_890 (by omega) (by repeat' (first | with_reducible rfl | apply ni_add | apply ni_mul)) (by omega) ?_
  rw [k95]
  refine gd_cV1i dL_law_891 ct_10_102 rc_72 ⟨Nat.le_of_ble_eq_true rfl, Nat.le_of_ble_eq_true rfl⟩ (Nat.le_of_ble_eq_true rfl) (Nat.le_of_ble_eq_true rfl) (g2) ?_
  refine gd_icmp_eq_t 1807 dL_law_894 (by decide) (rfl) ?_
  exact gg
set_option maxHeartbeats 1000000 in
theorem lw_c21 {h : Hp} {k : Nat} (i : Inv h) (hk : k + 6 ≤ scL h) (ih : ∀ h2, Inv h2 → scL h2 = scL h → ∃ h', Gd mL_law 1807 [.ref 95, .ref 0, .ref 72, .int (nI k)] [] h2 (some (.int (nI 1)), h')) : ∃ h', Gd mL_law 899 [.ref 95, .ref 0, .ref 72, .int (nI k)] [] h (some (.int (nI 1)), h') := by
  have hl := i.l
  obtain ⟨v, h1, h2, g1, g2, i2, e1, e2⟩ := Pas.int rfl rfl (p_means i (h.1 95 (k + 1)))
  obtain ⟨h', gg⟩ := ih h2 i2 (by unfold scL; rw [e2])
  refine ⟨h', ?_⟩
  refine gd_ald1 dL_law_899 (by decide) ?_
  refine gd_ald0 dL_law_900 (by decide) ?_
  refine gd_ild3 dL_law_901 ?_
  refine gd_ic1 dL_law_902 ?_
  refine gd_iadd dL_law_903 ?_
  refine gd_xald dL_law_904 (by omega) (by repeat' (first | with_reducible rfl | apply ni_add | apply ni_mul)) (by omega) ?_
  refine gd_kV1i dL_law_905 ct_10_103 rc_0 ⟨Nat.le_of_ble_eq_true rfl, Nat.le_of_ble_eq_true rfl⟩ (Nat.le_of_ble_eq_true rfl) (Nat.le_of_ble_eq_true rfl) (g1) (fun k95 kL => ?_)
  have hs1 : scL h1 = scL h := by unfold scL; rw [kL]
  refine gd_ald2 dL_law_908 (by decide) ?_
  refine gd_ald0 dL_law_909 (by decide) ?_
  refine gd_ild3 dL_law_910 ?_
  refine gd_ic1 dL_law_911 ?_
  refine gd_iadd dL_law_912 ?_
  refine gd_xald dL_law_913 (by omega) (by repeat' (first | with_reducible rfl | apply ni_add | apply ni_mul)) (by omega) ?_
  rw [k95]
  refine gd_cV1i dL_law_914 ct_10_106 rc_72 ⟨Nat.le_of_ble_eq_true rfl, Nat.le_of_ble_eq_true rfl⟩ (Nat.le_of_ble_eq_true rfl) (Nat.le_of_ble_eq_true rfl) (g2) ?_
  refine gd_icmp_eq_t 1807 dL_law_917 (by decide) (rfl) ?_
  exact gg
set_option maxHeartbeats 1000000 in
theorem lw_c22 {h : Hp} {k : Nat} (i : Inv h) (hk : k + 6 ≤ scL h) (ih : ∀ h2, Inv h2 → scL h2 = scL h → ∃ h', Gd mL_law 1807 [.ref 95, .ref 0, .ref 72, .int (nI k)] [] h2 (some (.int (nI 1)), h')) : ∃ h', Gd mL_law 922 [.ref 95, .ref 0, .ref 72, .int (nI k)] [] h (some (.int (nI 1)), h') := by
  have hl := i.l
  obtain ⟨v, h1, h2, g1, g2, i2, e1, e2⟩ := Pas.int rfl rfl (p_law i (h.1 95 (k + 1)))
  obtain ⟨h', gg⟩ := ih h2 i2 (by unfold scL; rw [e2])
  refine ⟨h', ?_⟩
  refine gd_ald1 dL_law_922 (by decide) ?_
  refine gd_ald0 dL_law_923 (by decide) ?_
  refine gd_ild3 dL_law_924 ?_
  refine gd_ic1 dL_law_925 ?_
  refine gd_iadd dL_law_926 ?_
  refine gd_xald dL_law_927 (by omega) (by repeat' (first | with_reducible rfl | apply ni_add | apply ni_mul)) (by omega) ?_
  refine gd_kV1i dL_law_928 ct_10_107 rc_0 ⟨Nat.le_of_ble_eq_true rfl, Nat.le_of_ble_eq_true rfl⟩ (Nat.le_of_ble_eq_true rfl) (Nat.le_of_ble_eq_true rfl) (g1) (fun k95 kL => ?_)
  have hs1 : scL h1 = scL h := by unfold scL; rw [kL]
  refine gd_ald2 dL_law_931 (by decide) ?_
  refine gd_ald0 dL_law_932 (by decide) ?_
  refine gd_ild3 dL_law_933 ?_
  refine gd_ic1 dL_law_934 ?_
  refine gd_iadd dL_law_935 ?_
  refine gd_xald dL_law_936 (by omega) (by repeat' (first | with_reducible rfl | apply ni_add | apply ni_mul)) (by omega) ?_
  rw [k95]
  refine gd_cV1i dL_law_937 ct_10_110 rc_72 ⟨Nat.le_of_ble_eq_true rfl, Nat.le_of_ble_eq_true rfl⟩ (Nat.le_of_ble_eq_true rfl) (Nat.le_of_ble_eq_true rfl) (g2) ?_
  refine gd_icmp_eq_t 1807 dL_law_940 (by decide) (rfl) ?_
  exact gg
set_option maxHeartbeats 1000000 in
theorem lw_c23 {h : Hp} {k : Nat} (i : Inv h) (hk : k + 6 ≤ scL h) (ih : ∀ h2, Inv h2 → scL h2 = scL h → ∃ h', Gd mL_law 1807 [.ref 95, .ref 0, .ref 72, .int (nI k)] [] h2 (some (.int (nI 1)), h')) : ∃ h', Gd mL_law 945 [.ref 95, .ref 0, .ref 72, .int (nI k)] [] h (some (.int (nI 1)), h') := by
  have hl := i.l
  obtain ⟨v, h1, h2, g1, g2, i2, e1, e2⟩ := Pas.int rfl rfl (p_why i (h.1 95 (k + 1)))
  obtain ⟨h', gg⟩ := ih h2 i2 (by unfold scL; rw [e2])
  refine ⟨h', ?_⟩
  refine gd_ald1 dL_law_945 (by decide) ?_
  refine gd_ald0 dL_law_946 (by decide) ?_
  refine gd_ild3 dL_law_947 ?_
  refine gd_ic1 dL_law_948 ?_
  refine gd_iadd dL_law_949 ?_
  refine gd_xald dL_law_950 (by omega) (by repeat' (first | with_reducible rfl | apply ni_add | apply ni_mul)) (by omega) ?_
  refine gd_kV1i dL_law_951 ct_10_111 rc_0 ⟨Nat.le_of_ble_eq_true rfl, Nat.le_of_ble_eq_true rfl⟩ (Nat.le_of_ble_eq_true rfl) (Nat.le_of_ble_eq_true rfl) (g1) (fun k95 kL => ?_)
  have hs1 : scL h1 = scL h := by unfold scL; rw [kL]
  refine gd_ald2 dL_law_954 (by decide) ?_
  refine gd_ald0 dL_law_955 (by decide) ?_
  refine gd_ild3 dL_law_956 ?_
  refine gd_ic1 dL_law_957 ?_
  refine gd_iadd dL_law_958 ?_
  refine gd_xald dL_law_959 (by omega) (by repeat' (first | with_reducible rfl | apply ni_add | apply ni_mul)) (by omega) ?_
  rw [k95]
  refine gd_cV1i dL_law_960 ct_10_114 rc_72 ⟨Nat.le_of_ble_eq_true rfl, Nat.le_of_ble_eq_true rfl⟩ (Nat.le_of_ble_eq_true rfl) (Nat.le_of_ble_eq_true rfl) (g2) ?_
  refine gd_icmp_eq_t 1807 dL_law_963 (by decide) (rfl) ?_
  exact gg
set_option maxHeartbeats 1000000 in
theorem lw_c24 {h : Hp} {k : Nat} (i : Inv h) (hk : k + 6 ≤ scL h) (ih : ∀ h2, Inv h2 → scL h2 = scL h → ∃ h', Gd mL_law 1807 [.ref 95, .ref 0, .ref 72, .int (nI k)] [] h2 (some (.int (nI 1)), h')) : ∃ h', Gd mL_law 968 [.ref 95, .ref 0, .ref 72, .int (nI k)] [] h (some (.int (nI 1)), h') := by
  have hl := i.l
  obtain ⟨v, h1, h2, g1, g2, i2, e1, e2⟩ := Pas.int rfl rfl (p_span i (h.1 95 (k + 1)))
  obtain ⟨h', gg⟩ := ih h2 i2 (by unfold scL; rw [e2])
  refine ⟨h', ?_⟩
  refine gd_ald1 dL_law_968 (by decide) ?_
  refine gd_ald0 dL_law_969 (by decide) ?_
  refine gd_ild3 dL_law_970 ?_
  refine gd_ic1 dL_law_971 ?_
  refine gd_iadd dL_law_972 ?_
  refine gd_xald dL_law_973 (by omega) (by repeat' (first | with_reducible rfl | apply ni_add | apply ni_mul)) (by omega) ?_
  refine gd_kV1i dL_law_974 ct_10_115 rc_0 ⟨Nat.le_of_ble_eq_true rfl, Nat.le_of_ble_eq_true rfl⟩ (Nat.le_of_ble_eq_true rfl) (Nat.le_of_ble_eq_true rfl) (g1) (fun k95 kL => ?_)
  have hs1 : scL h1 = scL h := by unfold scL; rw [kL]
  refine gd_ald2 dL_law_977 (by decide) ?_
  refine gd_ald0 dL_law_978 (by decide) ?_
  refine gd_ild3 dL_law_979 ?_
  refine gd_ic1 dL_law_980 ?_
  refine gd_iadd dL_law_981 ?_
  refine gd_xald dL_law_982 (by omega) (by repeat' (first | with_reducible rfl | apply ni_add | apply ni_mul)) (by omega) ?_
  rw [k95]
  refine gd_cV1i dL_law_983 ct_10_118 rc_72 ⟨Nat.le_of_ble_eq_true rfl, Nat.le_of_ble_eq_true rfl⟩ (Nat.le_of_ble_eq_true rfl) (Nat.le_of_ble_eq_true rfl) (g2) ?_
  refine gd_icmp_eq_t 1807 dL_law_986 (by decide) (rfl) ?_
  exact gg
set_option maxHeartbeats 1000000 in
theorem lw_c25 {h : Hp} {k : Nat} (i : Inv h) (hk : k + 6 ≤ scL h) (ih : ∀ h2, Inv h2 → scL h2 = scL h → ∃ h', Gd mL_law 1807 [.ref 95, .ref 0, .ref 72, .int (nI k)] [] h2 (some (.int (nI 1)), h')) : ∃ h', Gd mL_law 991 [.ref 95, .ref 0, .ref 72, .int (nI k)] [] h (some (.int (nI 1)), h') := by
  have hl := i.l
  obtain ⟨v, h1, h2, g1, g2, i2, e1, e2⟩ := Pas.int rfl rfl (p_beside i (h.1 95 (k + 1)))
  obtain ⟨h', gg⟩ := ih h2 i2 (by unfold scL; rw [e2])
  refine ⟨h', ?_⟩
  refine gd_ald1 dL_law_991 (by decide) ?_
  refine gd_ald0 dL_law_992 (by decide) ?_
  refine gd_ild3 dL_law_993 ?_
  refine gd_ic1 dL_law_994 ?_
  refine gd_iadd dL_law_995 ?_
  refine gd_xald dL_law_996 (by omega) (by repeat' (first | with_reducible rfl | apply ni_add | apply ni_mul)) (by omega) ?_
  refine gd_kV1i dL_law_997 ct_10_119 rc_0 ⟨Nat.le_of_ble_eq_true rfl, Nat.le_of_ble_eq_true rfl⟩ (Nat.le_of_ble_eq_true rfl) (Nat.le_of_ble_eq_true rfl) (g1) (fun k95 kL => ?_)
  have hs1 : scL h1 = scL h := by unfold scL; rw [kL]
  refine gd_ald2 dL_law_1000 (by decide) ?_
  refine gd_ald0 dL_law_1001 (by decide) ?_
  refine gd_ild3 dL_law_1002 ?_
  refine gd_ic1 dL_law_1003 ?_
  refine gd_iadd dL_law_1004 ?_
  refine gd_xald dL_law_1005 (by omega) (by repeat' (first | with_reducible rfl | apply ni_add | apply ni_mul)) (by omega) ?_
  rw [k95]
  refine gd_cV1i dL_law_1006 ct_10_122 rc_72 ⟨Nat.le_of_ble_eq_true rfl, Nat.le_of_ble_eq_true rfl⟩ (Nat.le_of_ble_eq_true rfl) (Nat.le_of_ble_eq_true rfl) (g2) ?_
  refine gd_icmp_eq_t 1807 dL_law_1009 (by decide) (rfl) ?_
  exact gg
set_option maxHeartbeats 1000000 in
theorem lw_c26 {h : Hp} {k : Nat} (i : Inv h) (hk : k + 6 ≤ scL h) (ih : ∀ h2, Inv h2 → scL h2 = scL h → ∃ h', Gd mL_law 1807 [.ref 95, .ref 0, .ref 72, .int (nI k)] [] h2 (some (.int (nI 1)), h')) : ∃ h', Gd mL_law 1014 [.ref 95, .ref 0, .ref 72, .int (nI k)] [] h (some (.int (nI 1)), h') := by
  have hl := i.l
  obtain ⟨v, h1, h2, g1, g2, i2, e1, e2⟩ := Pas.int rfl rfl (p_silent i )
  obtain ⟨h', gg⟩ := ih h2 i2 (by unfold scL; rw [e2])
  refine ⟨h', ?_⟩
  refine gd_ald1 dL_law_1014 (by decide) ?_
  refine gd_kV0i dL_law_1015 ct_10_123 rc_0 ⟨Nat.le_of_ble_eq_true rfl, Nat.le_of_ble_eq_true rfl⟩ (Nat.le_of_ble_eq_true rfl) (Nat.le_of_ble_eq_true rfl) (g1) (fun k95 kL => ?_)
  have hs1 : scL h1 = scL h := by unfold scL; rw [kL]
  refine gd_ald2 dL_law_1018 (by decide) ?_
  refine gd_cV0i dL_law_1019 ct_10_126 rc_72 ⟨Nat.le_of_ble_eq_true rfl, Nat.le_of_ble_eq_true rfl⟩ (Nat.le_of_ble_eq_true rfl) (Nat.le_of_ble_eq_true rfl) (g2) ?_
  refine gd_icmp_eq_t 1807 dL_law_1022 (by decide) (rfl) ?_
  exact gg
set_option maxHeartbeats 1000000 in
theorem lw_c27 {h : Hp} {k : Nat} (i : Inv h) (hk : k + 6 ≤ scL h) (ih : ∀ h2, Inv h2 → scL h2 = scL h → ∃ h', Gd mL_law 1807 [.ref 95, .ref 0, .ref 72, .int (nI k)] [] h2 (some (.int (nI 1)), h')) : ∃ h', Gd mL_law 1027 [.ref 95, .ref 0, .ref 72, .int (nI k)] [] h (some (.int (nI 1)), h') := by
  have hl := i.l
  obtain ⟨v, h1, h2, g1, g2, i2, e1, e2⟩ := Pas.int rfl rfl (p_step i (h.1 95 (k + 1)) (h.1 95 (k + 2)))
  obtain ⟨h', gg⟩ := ih h2 i2 (by unfold scL; rw [e2])
  refine ⟨h', ?_⟩
  refine gd_ald1 dL_law_1027 (by decide) ?_
  refine gd_ald0 dL_law_1028 (by decide) ?_
  refine gd_ild3 dL_law_1029 ?_
  refine gd_ic1 dL_law_1030 ?_
  refine gd_iadd dL_law_1031 ?_
  refine gd_xald dL_law_1032 (by omega) (by repeat' (first | with_reducible rfl | apply ni_add | apply ni_mul)) (by omega) ?_
  refine gd_ald0 dL_law_1033 (by decide) ?_
  refine gd_ild3 dL_law_1034 ?_
  refine gd_ic2 dL_law_1035 ?_
  refine gd_iadd dL_law_1036 ?_
  refine gd_xald dL_law_1037 (by omega) (by repeat' (first | with_reducible rfl | apply ni_add | apply ni_mul)) (by omega) ?_
  refine gd_kV2i dL_law_1038 ct_10_127 rc_0 ⟨Nat.le_of_ble_eq_true rfl, Nat.le_of_ble_eq_true rfl⟩ (Nat.le_of_ble_eq_true rfl) (Nat.le_of_ble_eq_true rfl) (g1) (fun k95 kL => ?_)
  have hs1 : scL h1 = scL h := by unfold scL; rw [kL]
  refine gd_ald2 dL_law_1041 (by decide) ?_
  refine gd_ald0 dL_law_1042 (by decide) ?_
  refine gd_ild3 dL_law_1043 ?_
  refine gd_ic1 dL_law_1044 ?_
  refine gd_iadd dL_law_1045 ?_
  refine gd_xald dL_law_1046 (by omega) (by repeat' (first | with_reducible rfl | apply ni_add | apply ni_mul)) (by omega) ?_
  rw [k95]
  refine gd_ald0 dL_law_1047 (by decide) ?_
  refine gd_ild3 dL_law_1048 ?_
  refine gd_ic2 dL_law_1049 ?_
  refine gd_iadd dL_law_1050 ?_
  refine gd_xald dL_law_1051 (by omega) (by repeat' (first | with_reducible rfl | apply ni_add | apply ni_mul)) (by omega) ?_
  rw [k95]
  refine gd_cV2i dL_law_1052 ct_10_130 rc_72 ⟨Nat.le_of_ble_eq_true rfl, Nat.le_of_ble_eq_true rfl⟩ (Nat.le_of_ble_eq_true rfl) (Nat.le_of_ble_eq_true rfl) (g2) ?_
  refine gd_icmp_eq_t 1807 dL_law_1055 (by decide) (rfl) ?_
  exact gg
set_option maxHeartbeats 1000000 in
theorem lw_c28 {h : Hp} {k : Nat} (i : Inv h) (hk : k + 6 ≤ scL h) (ih : ∀ h2, Inv h2 → scL h2 = scL h → ∃ h', Gd mL_law 1807 [.ref 95, .ref 0, .ref 72, .int (nI k)] [] h2 (some (.int (nI 1)), h')) : ∃ h', Gd mL_law 1060 [.ref 95, .ref 0, .ref 72, .int (nI k)] [] h (some (.int (nI 1)), h') := by
  have hl := i.l
  obtain ⟨v, h1, h2, g1, g2, i2, e1, e2⟩ := Pas.int rfl rfl (p_miss i (h.1 95 (k + 1)) (h.1 95 (k + 2)))
  obtain ⟨h', gg⟩ := ih h2 i2 (by unfold scL; rw [e2])
  refine ⟨h', ?_⟩
  refine gd_ald1 dL_law_1060 (by decide) ?_
  refine gd_ald0 dL_law_1061 (by decide) ?_
  refine gd_ild3 dL_law_1062 ?_
  refine gd_ic1 dL_law_1063 ?_
  refine gd_iadd dL_law_1064 ?_
  refine gd_xald dL_law_1065 (by omega) (by repeat' (first | with_reducible rfl | apply ni_add | apply ni_mul)) (by omega) ?_
  refine gd_ald0 dL_law_1066 (by decide) ?_
  refine gd_ild3 dL_law_1067 ?_
  refine gd_ic2 dL_law_1068 ?_
  refine gd_iadd dL_law_1069 ?_
  refine gd_xald dL_law_1070 (by omega) (by repeat' (first | with_reducible rfl | apply ni_add | apply ni_mul)) (by omega) ?_
  refine gd_kV2i dL_law_1071 ct_10_131 rc_0 ⟨Nat.le_of_ble_eq_true rfl, Nat.le_of_ble_eq_true rfl⟩ (Nat.le_of_ble_eq_true rfl) (Nat.le_of_ble_eq_true rfl) (g1) (fun k95 kL => ?_)
  have hs1 : scL h1 = scL h := by unfold scL; rw [kL]
  refine gd_ald2 dL_law_1074 (by decide) ?_
  refine gd_ald0 dL_law_1075 (by decide) ?_
  refine gd_ild3 dL_law_1076 ?_
  refine gd_ic1 dL_law_1077 ?_
  refine gd_iadd dL_law_1078 ?_
  refine gd_xald dL_law_1079 (by omega) (by repeat' (first | with_reducible rfl | apply ni_add | apply ni_mul)) (by omega) ?_
  rw [k95]
  refine gd_ald0 dL_law_1080 (by decide) ?_
  refine gd_ild3 dL_law_1081 ?_
  refine gd_ic2 dL_law_1082 ?_
  refine gd_iadd dL_law_1083 ?_
  refine gd_xald dL_law_1084 (by omega) (by repeat' (first | with_reducible rfl | apply ni_add | apply ni_mul)) (by omega) ?_
  rw [k95]
  refine gd_cV2i dL_law_1085 ct_10_134 rc_72 ⟨Nat.le_of_ble_eq_true rfl, Nat.le_of_ble_eq_true rfl⟩ (Nat.le_of_ble_eq_true rfl) (Nat.le_of_ble_eq_true rfl) (g2) ?_
  refine gd_icmp_eq_t 1807 dL_law_1088 (by decide) (rfl) ?_
  exact gg
set_option maxHeartbeats 1000000 in
theorem lw_c29 {h : Hp} {k : Nat} (i : Inv h) (hk : k + 6 ≤ scL h) (ih : ∀ h2, Inv h2 → scL h2 = scL h → ∃ h', Gd mL_law 1807 [.ref 95, .ref 0, .ref 72, .int (nI k)] [] h2 (some (.int (nI 1)), h')) : ∃ h', Gd mL_law 1093 [.ref 95, .ref 0, .ref 72, .int (nI k)] [] h (some (.int (nI 1)), h') := by
  have hl := i.l
  obtain ⟨v, h1, h2, g1, g2, i2, e1, e2⟩ := Pas.int rfl rfl (p_two i (h.1 95 (k + 1)) (h.1 95 (k + 2)))
  obtain ⟨h', gg⟩ := ih h2 i2 (by unfold scL; rw [e2])
  refine ⟨h', ?_⟩
  refine gd_ald1 dL_law_1093 (by decide) ?_
  refine gd_ald0 dL_law_1094 (by decide) ?_
  refine gd_ild3 dL_law_1095 ?_
  refine gd_ic1 dL_law_1096 ?_
  refine gd_iadd dL_law_1097 ?_
  refine gd_xald dL_law_1098 (by omega) (by repeat' (first | with_reducible rfl | apply ni_add | apply ni_mul)) (by omega) ?_
  refine gd_ald0 dL_law_1099 (by decide) ?_
  refine gd_ild3 dL_law_1100 ?_
  refine gd_ic2 dL_law_1101 ?_
  refine gd_iadd dL_law_1102 ?_
  refine gd_xald dL_law_1103 (by omega) (by repeat' (first | with_reducible rfl | apply ni_add | apply ni_mul)) (by omega) ?_
  refine gd_kV2i dL_law_1104 ct_10_135 rc_0 ⟨Nat.le_of_ble_eq_true rfl, Nat.le_of_ble_eq_true rfl⟩ (Nat.le_of_ble_eq_true rfl) (Nat.le_of_ble_eq_true rfl) (g1) (fun k95 kL => ?_)
  have hs1 : scL h1 = scL h := by unfold scL; rw [kL]
  refine gd_ald2 dL_law_1107 (by decide) ?_
  refine gd_ald0 dL_law_1108 (by decide) ?_
  refine gd_ild3 dL_law_1109 ?_
  refine gd_ic1 dL_law_1110 ?_
  refine gd_iadd dL_law_1111 ?_
  refine gd_xald dL_law_1112 (by omega) (by repeat' (first | with_reducible rfl | apply ni_add | apply ni_mul)) (by omega) ?_
  rw [k95]
  refine gd_ald0 dL_law_1113 (by decide) ?_
  refine gd_ild3 dL_law_1114 ?_
  refine gd_ic2 dL_law_1115 ?_
  refine gd_iadd dL_law_1116 ?_
  refine gd_xald dL_law_1117 (by omega) (by repeat' (first | with_reducible rfl | apply ni_add | apply ni_mul)) (by omega) ?_
  rw [k95]
  refine gd_cV2i dL_law_1118 ct_10_138 rc_72 ⟨Nat.le_of_ble_eq_true rfl, Nat.le_of_ble_eq_true rfl⟩ (Nat.le_of_ble_eq_true rfl) (Nat.le_of_ble_eq_true rfl) (g2) ?_
  refine gd_icmp_eq_t 1807 dL_law_1121 (by decide) (rfl) ?_
  exact gg
set_option maxHeartbeats 1000000 in
theorem lw_c30 {h : Hp} {k : Nat} (i : Inv h) (hk : k + 6 ≤ scL h) (ih : ∀ h2, Inv h2 → scL h2 = scL h → ∃ h', Gd mL_law 1807 [.ref 95, .ref 0, .ref 72, .int (nI k)] [] h2 (some (.int (nI 1)), h')) : ∃ h', Gd mL_law 1126 [.ref 95, .ref 0, .ref 72, .int (nI k)] [] h (some (.int (nI 1)), h') := by
  have hl := i.l
  obtain ⟨v, h1, h2, g1, g2, i2, e1, e2⟩ := Pas.int rfl rfl (p_split i (h.1 95 (k + 1)) (h.1 95 (k + 2)))
  obtain ⟨h', gg⟩ := ih h2 i2 (by unfold scL; rw [e2])
  refine ⟨h', ?_⟩
  refine gd_ald1 dL_law_1126 (by decide) ?_
  refine gd_ald0 dL_law_1127 (by decide) ?_
  refine gd_ild3 dL_law_1128 ?_
  refine gd_ic1 dL_law_1129 ?_
  refine gd_iadd dL_law_1130 ?_
  refine gd_xald dL_law_1131 (by omega) (by repeat' (first | with_reducible rfl | apply ni_add | apply ni_mul)) (by omega) ?_
  refine gd_ald0 dL_law_1132 (by decide) ?_
  refine gd_ild3 dL_law_1133 ?_
  refine gd_ic2 dL_law_1134 ?_
  refine gd_iadd dL_law_1135 ?_
  refine gd_xald dL_law_1136 (by omega) (by repeat' (first | with_reducible rfl | apply ni_add | apply ni_mul)) (by omega) ?_
  refine gd_kV2i dL_law_1137 ct_10_139 rc_0 ⟨Nat.le_of_ble_eq_true rfl, Nat.le_of_ble_eq_true rfl⟩ (Nat.le_of_ble_eq_true rfl) (Nat.le_of_ble_eq_true rfl) (g1) (fun k95 kL => ?_)
  have hs1 : scL h1 = scL h := by unfold scL; rw [kL]
  refine gd_ald2 dL_law_1140 (by decide) ?_
  refine gd_ald0 dL_law_1141 (by decide) ?_
  refine gd_ild3 dL_law_1142 ?_
  refine gd_ic1 dL_law_1143 ?_
  refine gd_iadd dL_law_1144 ?_
  refine gd_xald dL_law_1145 (by omega) (by repeat' (first | with_reducible rfl | apply ni_add | apply ni_mul)) (by omega) ?_
  rw [k95]
  refine gd_ald0 dL_law_1146 (by decide) ?_
  refine gd_ild3 dL_law_1147 ?_
  refine gd_ic2 dL_law_1148 ?_
  refine gd_iadd dL_law_1149 ?_
  refine gd_xald dL_law_1150 (by omega) (by repeat' (first | with_reducible rfl | apply ni_add | apply ni_mul)) (by omega) ?_
  rw [k95]
  refine gd_cV2i dL_law_1151 ct_10_142 rc_72 ⟨Nat.le_of_ble_eq_true rfl, Nat.le_of_ble_eq_true rfl⟩ (Nat.le_of_ble_eq_true rfl) (Nat.le_of_ble_eq_true rfl) (g2) ?_
  refine gd_icmp_eq_t 1807 dL_law_1154 (by decide) (rfl) ?_
  exact gg
set_option maxHeartbeats 1000000 in
theorem lw_c31 {h : Hp} {k : Nat} (i : Inv h) (hk : k + 6 ≤ scL h) (ih : ∀ h2, Inv h2 → scL h2 = scL h → ∃ h', Gd mL_law 1807 [.ref 95, .ref 0, .ref 72, .int (nI k)] [] h2 (some (.int (nI 1)), h')) : ∃ h', Gd mL_law 1159 [.ref 95, .ref 0, .ref 72, .int (nI k)] [] h (some (.int (nI 1)), h') := by
  have hl := i.l
  obtain ⟨v, h1, h2, g1, g2, i2, e1, e2⟩ := Pas.int rfl rfl (p_pair i (h.1 95 (k + 1)))
  obtain ⟨h', gg⟩ := ih h2 i2 (by unfold scL; rw [e2])
  refine ⟨h', ?_⟩
  refine gd_ald1 dL_law_1159 (by decide) ?_
  refine gd_ald0 dL_law_1160 (by decide) ?_
  refine gd_ild3 dL_law_1161 ?_
  refine gd_ic1 dL_law_1162 ?_
  refine gd_iadd dL_law_1163 ?_
  refine gd_xald dL_law_1164 (by omega) (by repeat' (first | with_reducible rfl | apply ni_add | apply ni_mul)) (by omega) ?_
  refine gd_kV1i dL_law_1165 ct_10_143 rc_0 ⟨Nat.le_of_ble_eq_true rfl, Nat.le_of_ble_eq_true rfl⟩ (Nat.le_of_ble_eq_true rfl) (Nat.le_of_ble_eq_true rfl) (g1) (fun k95 kL => ?_)
  have hs1 : scL h1 = scL h := by unfold scL; rw [kL]
  refine gd_ald2 dL_law_1168 (by decide) ?_
  refine gd_ald0 dL_law_1169 (by decide) ?_
  refine gd_ild3 dL_law_1170 ?_
  refine gd_ic1 dL_law_1171 ?_
  refine gd_iadd dL_law_1172 ?_
  refine gd_xald dL_law_1173 (by omega) (by repeat' (first | with_reducible rfl | apply ni_add | apply ni_mul)) (by omega) ?_
  rw [k95]
  refine gd_cV1i dL_law_1174 ct_10_146 rc_72 ⟨Nat.le_of_ble_eq_true rfl, Nat.le_of_ble_eq_true rfl⟩ (Nat.le_of_ble_eq_true rfl) (Nat.le_of_ble_eq_true rfl) (g2) ?_
  refine gd_icmp_eq_t 1807 dL_law_1177 (by decide) (rfl) ?_
  exact gg
set_option maxHeartbeats 1000000 in
theorem lw_c32 {h : Hp} {k : Nat} (i : Inv h) (hk : k + 6 ≤ scL h) (ih : ∀ h2, Inv h2 → scL h2 = scL h → ∃ h', Gd mL_law 1807 [.ref 95, .ref 0, .ref 72, .int (nI k)] [] h2 (some (.int (nI 1)), h')) : ∃ h', Gd mL_law 1182 [.ref 95, .ref 0, .ref 72, .int (nI k)] [] h (some (.int (nI 1)), h') := by
  have hl := i.l
  obtain ⟨v, h1, h2, g1, g2, i2, e1, e2⟩ := Pas.int rfl rfl (p_night i (h.1 95 (k + 1)))
  obtain ⟨h', gg⟩ := ih h2 i2 (by unfold scL; rw [e2])
  refine ⟨h', ?_⟩
  refine gd_ald1 dL_law_1182 (by decide) ?_
  refine gd_ald0 dL_law_1183 (by decide) ?_
  refine gd_ild3 dL_law_1184 ?_
  refine gd_ic1 dL_law_1185 ?_
  refine gd_iadd dL_law_1186 ?_
  refine gd_xald dL_law_1187 (by omega) (by repeat' (first | with_reducible rfl | apply ni_add | apply ni_mul)) (by omega) ?_
  refine gd_kV1i dL_law_1188 ct_10_147 rc_0 ⟨Nat.le_of_ble_eq_true rfl, Nat.le_of_ble_eq_true rfl⟩ (Nat.le_of_ble_eq_true rfl) (Nat.le_of_ble_eq_true rfl) (g1) (fun k95 kL => ?_)
  have hs1 : scL h1 = scL h := by unfold scL; rw [kL]
  refine gd_ald2 dL_law_1191 (by decide) ?_
  refine gd_ald0 dL_law_1192 (by decide) ?_
  refine gd_ild3 dL_law_1193 ?_
  refine gd_ic1 dL_law_1194 ?_
  refine gd_iadd dL_law_1195 ?_
  refine gd_xald dL_law_1196 (by omega) (by repeat' (first | with_reducible rfl | apply ni_add | apply ni_mul)) (by omega) ?_
  rw [k95]
  refine gd_cV1i dL_law_1197 ct_10_150 rc_72 ⟨Nat.le_of_ble_eq_true rfl, Nat.le_of_ble_eq_true rfl⟩ (Nat.le_of_ble_eq_true rfl) (Nat.le_of_ble_eq_true rfl) (g2) ?_
  refine gd_icmp_eq_t 1807 dL_law_1200 (by decide) (rfl) ?_
  exact gg
set_option maxHeartbeats 1000000 in
theorem lw_c33 {h : Hp} {k : Nat} (i : Inv h) (hk : k + 6 ≤ scL h) (ih : ∀ h2, Inv h2 → scL h2 = scL h → ∃ h', Gd mL_law 1807 [.ref 95, .ref 0, .ref 72, .int (nI k)] [] h2 (some (.int (nI 1)), h')) : ∃ h', Gd mL_law 1205 [.ref 95, .ref 0, .ref 72, .int (nI k)] [] h (some (.int (nI 1)), h') := by
  have hl := i.l
  obtain ⟨v, h1, h2, g1, g2, i2, e1, e2⟩ := Pas.int rfl rfl (p_fits i (h.1 95 (k + 1)))
  obtain ⟨h', gg⟩ := ih h2 i2 (by unfold scL; rw [e2])
  refine ⟨h', ?_⟩
  refine gd_ald1 dL_law_1205 (by decide) ?_
  refine gd_ald0 dL_law_1206 (by decide) ?_
  refine gd_ild3 dL_law_1207 ?_
  refine gd_ic1 dL_law_1208 ?_
  refine gd_iadd dL_law_1209 ?_
  refine gd_xald dL_law_1210 (by omega) (by repeat' (first | with_reducible rfl | apply ni_add | apply ni_mul)) (by omega) ?_
  refine gd_kV1i dL_law_1211 ct_10_151 rc_0 ⟨Nat.le_of_ble_eq_true rfl, Nat.le_of_ble_eq_true rfl⟩ (Nat.le_of_ble_eq_true rfl) (Nat.le_of_ble_eq_true rfl) (g1) (fun k95 kL => ?_)
  have hs1 : scL h1 = scL h := by unfold scL; rw [kL]
  refine gd_ald2 dL_law_1214 (by decide) ?_
  refine gd_ald0 dL_law_1215 (by decide) ?_
  refine gd_ild3 dL_law_1216 ?_
  refine gd_ic1 dL_law_1217 ?_
  refine gd_iadd dL_law_1218 ?_
  refine gd_xald dL_law_1219 (by omega) (by repeat' (first | with_reducible rfl | apply ni_add | apply ni_mul)) (by omega) ?_
  rw [k95]
  refine gd_cV1i dL_law_1220 ct_10_154 rc_72 ⟨Nat.le_of_ble_eq_true rfl, Nat.le_of_ble_eq_true rfl⟩ (Nat.le_of_ble_eq_true rfl) (Nat.le_of_ble_eq_true rfl) (g2) ?_
  refine gd_icmp_eq_t 1807 dL_law_1223 (by decide) (rfl) ?_
  exact gg
set_option maxHeartbeats 1000000 in
theorem lw_c34 {h : Hp} {k : Nat} (i : Inv h) (hk : k + 6 ≤ scL h) (ih : ∀ h2, Inv h2 → scL h2 = scL h → ∃ h', Gd mL_law 1807 [.ref 95, .ref 0, .ref 72, .int (nI k)] [] h2 (some (.int (nI 1)), h')) : ∃ h', Gd mL_law 1228 [.ref 95, .ref 0, .ref 72, .int (nI k)] [] h (some (.int (nI 1)), h') := by
  have hl := i.l
  obtain ⟨v, h1, h2, g1, g2, i2, e1, e2⟩ := Pas.int rfl rfl (p_falls i (h.1 95 (k + 1)) (h.1 95 (k + 2)) (h.1 95 (k + 3)))
  obtain ⟨h', gg⟩ := ih h2 i2 (by unfold scL; rw [e2])
  refine ⟨h', ?_⟩
  refine gd_ald1 dL_law_1228 (by decide) ?_
  refine gd_ald0 dL_law_1229 (by decide) ?_
  refine gd_ild3 dL_law_1230 ?_
  refine gd_ic1 dL_law_1231 ?_
  refine gd_iadd dL_law_1232 ?_
  refine gd_xald dL_law_1233 (by omega) (by repeat' (first | with_reducible rfl | apply ni_add | apply ni_mul)) (by omega) ?_
  refine gd_ald0 dL_law_1234 (by decide) ?_
  refine gd_ild3 dL_law_1235 ?_
  refine gd_ic2 dL_law_1236 ?_
  refine gd_iadd dL_law_1237 ?_
  refine gd_xald dL_law_1238 (by omega) (by repeat' (first | with_reducible rfl | apply ni_add | apply ni_mul)) (by omega) ?_
  refine gd_ald0 dL_law_1239 (by decide) ?_
  refine gd_ild3 dL_law_1240 ?_
  refine gd_ic3 dL_law_1241 ?_
  refine gd_iadd dL_law_1242 ?_
  refine gd_xald dL_law_1243 (by omega) (by repeat' (first | with_reducible rfl | apply ni_add | apply ni_mul)) (by omega) ?_
  refine gd_kV3i dL_law_1244 ct_10_155 rc_0 ⟨Nat.le_of_ble_eq_true rfl, Nat.le_of_ble_eq_true rfl⟩ (Nat.le_of_ble_eq_true rfl) (Nat.le_of_ble_eq_true rfl) (g1) (fun k95 kL => ?_)
  have hs1 : scL h1 = scL h := by unfold scL; rw [kL]
  refine gd_ald2 dL_law_1247 (by decide) ?_
  refine gd_ald0 dL_law_1248 (by decide) ?_
  refine gd_ild3 dL_law_1249 ?_
  refine gd_ic1 dL_law_1250 ?_
  refine gd_iadd dL_law_1251 ?_
  refine gd_xald dL_law_1252 (by omega) (by repeat' (first | with_reducible rfl | apply ni_add | apply ni_mul)) (by omega) ?_
  rw [k95]
  refine gd_ald0 dL_law_1253 (by decide) ?_
  refine gd_ild3 dL_law_1254 ?_
  refine gd_ic2 dL_law_1255 ?_
  refine gd_iadd dL_law_1256 ?_
  refine gd_xald dL_law_1257 (by omega) (by repeat' (first | with_reducible rfl | apply ni_add | apply ni_mul)) (by omega) ?_
  rw [k95]
  refine gd_ald0 dL_law_1258 (by decide) ?_
  refine gd_ild3 dL_law_1259 ?_
  refine gd_ic3 dL_law_1260 ?_
  refine gd_iadd dL_law_1261 ?_
  refine gd_xald dL_law_1262 (by omega) (by repeat' (first | with_reducible rfl | apply ni_add | apply ni_mul)) (by omega) ?_
  rw [k95]
  refine gd_cV3i dL_law_1263 ct_10_158 rc_72 ⟨Nat.le_of_ble_eq_true rfl, Nat.le_of_ble_eq_true rfl⟩ (Nat.le_of_ble_eq_true rfl) (Nat.le_of_ble_eq_true rfl) (g2) ?_
  refine gd_icmp_eq_t 1807 dL_law_1266 (by decide) (rfl) ?_
  exact gg
set_option maxHeartbeats 1000000 in
theorem lw_c35 {h : Hp} {k : Nat} (i : Inv h) (hk : k + 6 ≤ scL h) (ih : ∀ h2, Inv h2 → scL h2 = scL h → ∃ h', Gd mL_law 1807 [.ref 95, .ref 0, .ref 72, .int (nI k)] [] h2 (some (.int (nI 1)), h')) : ∃ h', Gd mL_law 1271 [.ref 95, .ref 0, .ref 72, .int (nI k)] [] h (some (.int (nI 1)), h') := by
  have hl := i.l
  obtain ⟨v, h1, h2, g1, g2, i2, e1, e2⟩ := Pas.int rfl rfl (p_weight i (h.1 95 (k + 1)))
  obtain ⟨h', gg⟩ := ih h2 i2 (by unfold scL; rw [e2])
  refine ⟨h', ?_⟩
  refine gd_ald1 dL_law_1271 (by decide) ?_
  refine gd_ald0 dL_law_1272 (by decide) ?_
  refine gd_ild3 dL_law_1273 ?_
  refine gd_ic1 dL_law_1274 ?_
  refine gd_iadd dL_law_1275 ?_
  refine gd_xald dL_law_1276 (by omega) (by repeat' (first | with_reducible rfl | apply ni_add | apply ni_mul)) (by omega) ?_
  refine gd_kV1i dL_law_1277 ct_10_159 rc_0 ⟨Nat.le_of_ble_eq_true rfl, Nat.le_of_ble_eq_true rfl⟩ (Nat.le_of_ble_eq_true rfl) (Nat.le_of_ble_eq_true rfl) (g1) (fun k95 kL => ?_)
  have hs1 : scL h1 = scL h := by unfold scL; rw [kL]
  refine gd_ald2 dL_law_1280 (by decide) ?_
  refine gd_ald0 dL_law_1281 (by decide) ?_
  refine gd_ild3 dL_law_1282 ?_
  refine gd_ic1 dL_law_1283 ?_
  refine gd_iadd dL_law_1284 ?_
  refine gd_xald dL_law_1285 (by omega) (by repeat' (first | with_reducible rfl | apply ni_add | apply ni_mul)) (by omega) ?_
  rw [k95]
  refine gd_cV1i dL_law_1286 ct_10_162 rc_72 ⟨Nat.le_of_ble_eq_true rfl, Nat.le_of_ble_eq_true rfl⟩ (Nat.le_of_ble_eq_true rfl) (Nat.le_of_ble_eq_true rfl) (g2) ?_
  refine gd_icmp_eq_t 1807 dL_law_1289 (by decide) (rfl) ?_
  exact gg
set_option maxHeartbeats 1000000 in
theorem lw_c36 {h : Hp} {k : Nat} (i : Inv h) (hk : k + 6 ≤ scL h) (ih : ∀ h2, Inv h2 → scL h2 = scL h → ∃ h', Gd mL_law 1807 [.ref 95, .ref 0, .ref 72, .int (nI k)] [] h2 (some (.int (nI 1)), h')) : ∃ h', Gd mL_law 1294 [.ref 95, .ref 0, .ref 72, .int (nI k)] [] h (some (.int (nI 1)), h') := by
  have hl := i.l
  obtain ⟨r, h1, h2, g1, g2, i2, e1, e2, v, rfl⟩ := q_odds i (h.1 95 (k + 1)) (h.1 95 (k + 2))
  obtain ⟨h', gg⟩ := ih h2 i2 (by unfold scL; rw [e2])
  refine ⟨h', ?_⟩
  refine gd_ald1 dL_law_1294 (by decide) ?_
  refine gd_ald0 dL_law_1295 (by decide) ?_
  refine gd_ild3 dL_law_1296 ?_
  refine gd_ic1 dL_law_1297 ?_
  refine gd_iadd dL_law_1298 ?_
  refine gd_xald dL_law_1299 (by omega) (by repeat' (first | with_reducible rfl | apply ni_add | apply ni_mul)) (by omega) ?_
  refine gd_ald0 dL_law_1300 (by decide) ?_
  refine gd_ild3 dL_law_1301 ?_
  refine gd_ic2 dL_law_1302 ?_
  refine gd_iadd dL_law_1303 ?_
  refine gd_xald dL_law_1304 (by omega) (by repeat' (first | with_reducible rfl | apply ni_add | apply ni_mul)) (by omega) ?_
  refine gd_kV2l dL_law_1305 ct_10_163 rc_0 ⟨Nat.le_of_ble_eq_true rfl, Nat.le_of_ble_eq_true rfl⟩ (Nat.le_of_ble_eq_true rfl) (Nat.le_of_ble_eq_true rfl) (g1) (fun k95 kL => ?_)
  have hs1 : scL h1 = scL h := by unfold scL; rw [kL]
  refine gd_ald2 dL_law_1308 (by decide) ?_
  refine gd_ald0 dL_law_1309 (by decide) ?_
  refine gd_ild3 dL_law_1310 ?_
  refine gd_ic1 dL_law_1311 ?_
  refine gd_iadd dL_law_1312 ?_
  refine gd_xald dL_law_1313 (by omega) (by repeat' (first | with_reducible rfl | apply ni_add | apply ni_mul)) (by omega) ?_
  rw [k95]
  refine gd_ald0 dL_law_1314 (by decide) ?_
  refine gd_ild3 dL_law_1315 ?_
  refine gd_ic2 dL_law_1316 ?_
  refine gd_iadd dL_law_1317 ?_
  refine gd_xald dL_law_1318 (by omega) (by repeat' (first | with_reducible rfl | apply ni_add | apply ni_mul)) (by omega) ?_
  rw [k95]
  refine gd_cV2l dL_law_1319 ct_10_167 rc_72 ⟨Nat.le_of_ble_eq_true rfl, Nat.le_of_ble_eq_true rfl⟩ (Nat.le_of_ble_eq_true rfl) (Nat.le_of_ble_eq_true rfl) (g2) ?_
  refine gd_lcmp dL_law_1322 ?_
  refine gd_if_eq_t 1807 dL_law_1323 (by decide) ((lg_cmp_eq _ _).mpr rfl) ?_
  exact gg
set_option maxHeartbeats 1000000 in
theorem lw_c37 {h : Hp} {k : Nat} (i : Inv h) (hk : k + 6 ≤ scL h) (ih : ∀ h2, Inv h2 → scL h2 = scL h → ∃ h', Gd mL_law 1807 [.ref 95, .ref 0, .ref 72, .int (nI k)] [] h2 (some (.int (nI 1)), h')) : ∃ h', Gd mL_law 1328 [.ref 95, .ref 0, .ref 72, .int (nI k)] [] h (some (.int (nI 1)), h') := by
  have hl := i.l
  obtain ⟨v, h1, h2, g1, g2, i2, e1, e2⟩ := Pas.int rfl rfl (p_best i (h.1 95 (k + 1)))
  obtain ⟨h', gg⟩ := ih h2 i2 (by unfold scL; rw [e2])
  refine ⟨h', ?_⟩
  refine gd_ald1 dL_law_1328 (by decide) ?_
  refine gd_ald0 dL_law_1329 (by decide) ?_
  refine gd_ild3 dL_law_1330 ?_
  refine gd_ic1 dL_law_1331 ?_
  refine gd_iadd dL_law_1332 ?_
  refine gd_xald dL_law_1333 (by omega) (by repeat' (first | with_reducible rfl | apply ni_add | apply ni_mul)) (by omega) ?_
  refine gd_kV1i dL_law_1334 ct_10_168 rc_0 ⟨Nat.le_of_ble_eq_true rfl, Nat.le_of_ble_eq_true rfl⟩ (Nat.le_of_ble_eq_true rfl) (Nat.le_of_ble_eq_true rfl) (g1) (fun k95 kL => ?_)
  have hs1 : scL h1 = scL h := by unfold scL; rw [kL]
  refine gd_ald2 dL_law_1337 (by decide) ?_
  refine gd_ald0 dL_law_1338 (by decide) ?_
  refine gd_ild3 dL_law_1339 ?_
  refine gd_ic1 dL_law_1340 ?_
  refine gd_iadd dL_law_1341 ?_
  refine gd_xald dL_law_1342 (by omega) (by repeat' (first | with_reducible rfl | apply ni_add | apply ni_mul)) (by omega) ?_
  rw [k95]
  refine gd_cV1i dL_law_1343 ct_10_171 rc_72 ⟨Nat.le_of_ble_eq_true rfl, Nat.le_of_ble_eq_true rfl⟩ (Nat.le_of_ble_eq_true rfl) (Nat.le_of_ble_eq_true rfl) (g2) ?_
  refine gd_icmp_eq_t 1807 dL_law_1346 (by decide) (rfl) ?_
  exact gg
set_option maxHeartbeats 1000000 in
theorem lw_c38 {h : Hp} {k : Nat} (i : Inv h) (hk : k + 6 ≤ scL h) (ih : ∀ h2, Inv h2 → scL h2 = scL h → ∃ h', Gd mL_law 1807 [.ref 95, .ref 0, .ref 72, .int (nI k)] [] h2 (some (.int (nI 1)), h')) : ∃ h', Gd mL_law 1351 [.ref 95, .ref 0, .ref 72, .int (nI k)] [] h (some (.int (nI 1)), h') := by
  have hl := i.l
  obtain ⟨v, h1, h2, g1, g2, i2, e1, e2⟩ := Pas.int rfl rfl (p_narrow i (h.1 95 (k + 1)) (h.1 95 (k + 2)))
  obtain ⟨h', gg⟩ := ih h2 i2 (by unfold scL; rw [e2])
  refine ⟨h', ?_⟩
  refine gd_ald1 dL_law_1351 (by decide) ?_
  refine gd_ald0 dL_law_1352 (by decide) ?_
  refine gd_ild3 dL_law_1353 ?_
  refine gd_ic1 dL_law_1354 ?_
  refine gd_iadd dL_law_1355 ?_
  refine gd_xald dL_law_1356 (by omega) (by repeat' (first | with_reducible rfl | apply ni_add | apply ni_mul)) (by omega) ?_
  refine gd_ald0 dL_law_1357 (by decide) ?_
  refine gd_ild3 dL_law_1358 ?_
  refine gd_ic2 dL_law_1359 ?_
  refine gd_iadd dL_law_1360 ?_
  refine gd_xald dL_law_1361 (by omega) (by repeat' (first | with_reducible rfl | apply ni_add | apply ni_mul)) (by omega) ?_
  refine gd_kV2i dL_law_1362 ct_10_172 rc_0 ⟨Nat.le_of_ble_eq_true rfl, Nat.le_of_ble_eq_true rfl⟩ (Nat.le_of_ble_eq_true rfl) (Nat.le_of_ble_eq_true rfl) (g1) (fun k95 kL => ?_)
  have hs1 : scL h1 = scL h := by unfold scL; rw [kL]
  refine gd_ald2 dL_law_1365 (by decide) ?_
  refine gd_ald0 dL_law_1366 (by decide) ?_
  refine gd_ild3 dL_law_1367 ?_
  refine gd_ic1 dL_law_1368 ?_
  refine gd_iadd dL_law_1369 ?_
  refine gd_xald dL_law_1370 (by omega) (by repeat' (first | with_reducible rfl | apply ni_add | apply ni_mul)) (by omega) ?_
  rw [k95]
  refine gd_ald0 dL_law_1371 (by decide) ?_
  refine gd_ild3 dL_law_1372 ?_
  refine gd_ic2 dL_law_1373 ?_
  refine gd_iadd dL_law_1374 ?_
  refine gd_xald dL_law_1375 (by omega) (by repeat' (first | with_reducible rfl | apply ni_add | apply ni_mul)) (by omega) ?_
  rw [k95]
  refine gd_cV2i dL_law_1376 ct_10_175 rc_72 ⟨Nat.le_of_ble_eq_true rfl, Nat.le_of_ble_eq_true rfl⟩ (Nat.le_of_ble_eq_true rfl) (Nat.le_of_ble_eq_true rfl) (g2) ?_
  refine gd_icmp_eq_t 1807 dL_law_1379 (by decide) (rfl) ?_
  exact gg
set_option maxHeartbeats 1000000 in
theorem lw_c39 {h : Hp} {k : Nat} (i : Inv h) (hk : k + 6 ≤ scL h) (ih : ∀ h2, Inv h2 → scL h2 = scL h → ∃ h', Gd mL_law 1807 [.ref 95, .ref 0, .ref 72, .int (nI k)] [] h2 (some (.int (nI 1)), h')) : ∃ h', Gd mL_law 1384 [.ref 95, .ref 0, .ref 72, .int (nI k)] [] h (some (.int (nI 1)), h') := by
  have hl := i.l
  obtain ⟨v, h1, h2, g1, g2, i2, e1, e2⟩ := Pas.int rfl rfl (p_judge i (h.1 95 (k + 1)) (h.1 95 (k + 2)))
  obtain ⟨h', gg⟩ := ih h2 i2 (by unfold scL; rw [e2])
  refine ⟨h', ?_⟩
  refine gd_ald1 dL_law_1384 (by decide) ?_
  refine gd_ald0 dL_law_1385 (by decide) ?_
  refine gd_ild3 dL_law_1386 ?_
  refine gd_ic1 dL_law_1387 ?_
  refine gd_iadd dL_law_1388 ?_
  refine gd_xald dL_law_1389 (by omega) (by repeat' (first | with_reducible rfl | apply ni_add | apply ni_mul)) (by omega) ?_
  refine gd_ald0 dL_law_1390 (by decide) ?_
  refine gd_ild3 dL_law_1391 ?_
  refine gd_ic2 dL_law_1392 ?_
  refine gd_iadd dL_law_1393 ?_
  refine gd_xald dL_law_1394 (by omega) (by repeat' (first | with_reducible rfl | apply ni_add | apply ni_mul)) (by omega) ?_
  refine gd_kV2i dL_law_1395 ct_10_176 rc_0 ⟨Nat.le_of_ble_eq_true rfl, Nat.le_of_ble_eq_true rfl⟩ (Nat.le_of_ble_eq_true rfl) (Nat.le_of_ble_eq_true rfl) (g1) (fun k95 kL => ?_)
  have hs1 : scL h1 = scL h := by unfold scL; rw [kL]
  refine gd_ald2 dL_law_1398 (by decide) ?_
  refine gd_ald0 dL_law_1399 (by decide) ?_
  refine gd_ild3 dL_law_1400 ?_
  refine gd_ic1 dL_law_1401 ?_
  refine gd_iadd dL_law_1402 ?_
  refine gd_xald dL_law_1403 (by omega) (by repeat' (first | with_reducible rfl | apply ni_add | apply ni_mul)) (by omega) ?_
  rw [k95]
  refine gd_ald0 dL_law_1404 (by decide) ?_
  refine gd_ild3 dL_law_1405 ?_
  refine gd_ic2 dL_law_1406 ?_
  refine gd_iadd dL_law_1407 ?_
  refine gd_xald dL_law_1408 (by omega) (by repeat' (first | with_reducible rfl | apply ni_add | apply ni_mul)) (by omega) ?_
  rw [k95]
  refine gd_cV2i dL_law_1409 ct_10_179 rc_72 ⟨Nat.le_of_ble_eq_true rfl, Nat.le_of_ble_eq_true rfl⟩ (Nat.le_of_ble_eq_true rfl) (Nat.le_of_ble_eq_true rfl) (g2) ?_
  refine gd_icmp_eq_t 1807 dL_law_1412 (by decide) (rfl) ?_
  exact gg
set_option maxHeartbeats 1000000 in
theorem lw_c40 {h : Hp} {k : Nat} (i : Inv h) (hk : k + 6 ≤ scL h) (ih : ∀ h2, Inv h2 → scL h2 = scL h → ∃ h', Gd mL_law 1807 [.ref 95, .ref 0, .ref 72, .int (nI k)] [] h2 (some (.int (nI 1)), h')) : ∃ h', Gd mL_law 1417 [.ref 95, .ref 0, .ref 72, .int (nI k)] [] h (some (.int (nI 1)), h') := by
  have hl := i.l
  obtain ⟨v, h1, h2, g1, g2, i2, e1, e2⟩ := Pas.int rfl rfl (p_next i (h.1 95 (k + 1)))
  obtain ⟨h', gg⟩ := ih h2 i2 (by unfold scL; rw [e2])
  refine ⟨h', ?_⟩
  refine gd_ald1 dL_law_1417 (by decide) ?_
  refine gd_ald0 dL_law_1418 (by decide) ?_
  refine gd_ild3 dL_law_1419 ?_
  refine gd_ic1 dL_law_1420 ?_
  refine gd_iadd dL_law_1421 ?_
  refine gd_xald dL_law_1422 (by omega) (by repeat' (first | with_reducible rfl | apply ni_add | apply ni_mul)) (by omega) ?_
  refine gd_kV1i dL_law_1423 ct_10_180 rc_0 ⟨Nat.le_of_ble_eq_true rfl, Nat.le_of_ble_eq_true rfl⟩ (Nat.le_of_ble_eq_true rfl) (Nat.le_of_ble_eq_true rfl) (g1) (fun k95 kL => ?_)
  have hs1 : scL h1 = scL h := by unfold scL; rw [kL]
  refine gd_ald2 dL_law_1426 (by decide) ?_
  refine gd_ald0 dL_law_1427 (by decide) ?_
  refine gd_ild3 dL_law_1428 ?_
  refine gd_ic1 dL_law_1429 ?_
  refine gd_iadd dL_law_1430 ?_
  refine gd_xald dL_law_1431 (by omega) (by repeat' (first | with_reducible rfl | apply ni_add | apply ni_mul)) (by omega) ?_
  rw [k95]
  refine gd_cV1i dL_law_1432 ct_10_183 rc_72 ⟨Nat.le_of_ble_eq_true rfl, Nat.le_of_ble_eq_true rfl⟩ (Nat.le_of_ble_eq_true rfl) (Nat.le_of_ble_eq_true rfl) (g2) ?_
  refine gd_icmp_eq_t 1807 dL_law_1435 (by decide) (rfl) ?_
  exact gg
set_option maxHeartbeats 1000000 in
theorem lw_c41 {h : Hp} {k : Nat} (i : Inv h) (hk : k + 6 ≤ scL h) (ih : ∀ h2, Inv h2 → scL h2 = scL h → ∃ h', Gd mL_law 1807 [.ref 95, .ref 0, .ref 72, .int (nI k)] [] h2 (some (.int (nI 1)), h')) : ∃ h', Gd mL_law 1440 [.ref 95, .ref 0, .ref 72, .int (nI k)] [] h (some (.int (nI 1)), h') := by
  have hl := i.l
  obtain ⟨v, h1, h2, g1, g2, i2, e1, e2⟩ := Pas.int rfl rfl (p_without i (h.1 95 (k + 1)) (h.1 95 (k + 2)))
  obtain ⟨h', gg⟩ := ih h2 i2 (by unfold scL; rw [e2])
  refine ⟨h', ?_⟩
  refine gd_ald1 dL_law_1440 (by decide) ?_
  refine gd_ald0 dL_law_1441 (by decide) ?_
  refine gd_ild3 dL_law_1442 ?_
  refine gd_ic1 dL_law_1443 ?_
  refine gd_iadd dL_law_1444 ?_
  refine gd_xald dL_law_1445 (by omega) (by repeat' (first | with_reducible rfl | apply ni_add | apply ni_mul)) (by omega) ?_
  refine gd_ald0 dL_law_1446 (by decide) ?_
  refine gd_ild3 dL_law_1447 ?_
  refine gd_ic2 dL_law_1448 ?_
  refine gd_iadd dL_law_1449 ?_
  refine gd_xald dL_law_1450 (by omega) (by repeat' (first | with_reducible rfl | apply ni_add | apply ni_mul)) (by omega) ?_
  refine gd_kV2i dL_law_1451 ct_10_184 rc_0 ⟨Nat.le_of_ble_eq_true rfl, Nat.le_of_ble_eq_true rfl⟩ (Nat.le_of_ble_eq_true rfl) (Nat.le_of_ble_eq_true rfl) (g1) (fun k95 kL => ?_)
  have hs1 : scL h1 = scL h := by unfold scL; rw [kL]
  refine gd_ald2 dL_law_1454 (by decide) ?_
  refine gd_ald0 dL_law_1455 (by decide) ?_
  refine gd_ild3 dL_law_1456 ?_
  refine gd_ic1 dL_law_1457 ?_
  refine gd_iadd dL_law_1458 ?_
  refine gd_xald dL_law_1459 (by omega) (by repeat' (first | with_reducible rfl | apply ni_add | apply ni_mul)) (by omega) ?_
  rw [k95]
  refine gd_ald0 dL_law_1460 (by decide) ?_
  refine gd_ild3 dL_law_1461 ?_
  refine gd_ic2 dL_law_1462 ?_
  refine gd_iadd dL_law_1463 ?_
  refine gd_xald dL_law_1464 (by omega) (by repeat' (first | with_reducible rfl | apply ni_add | apply ni_mul)) (by omega) ?_
  rw [k95]
  refine gd_cV2i dL_law_1465 ct_10_187 rc_72 ⟨Nat.le_of_ble_eq_true rfl, Nat.le_of_ble_eq_true rfl⟩ (Nat.le_of_ble_eq_true rfl) (Nat.le_of_ble_eq_true rfl) (g2) ?_
  refine gd_icmp_eq_t 1807 dL_law_1468 (by decide) (rfl) ?_
  exact gg
set_option maxHeartbeats 1000000 in
theorem lw_c42 {h : Hp} {k : Nat} (i : Inv h) (hk : k + 6 ≤ scL h) (ih : ∀ h2, Inv h2 → scL h2 = scL h → ∃ h', Gd mL_law 1807 [.ref 95, .ref 0, .ref 72, .int (nI k)] [] h2 (some (.int (nI 1)), h')) : ∃ h', Gd mL_law 1473 [.ref 95, .ref 0, .ref 72, .int (nI k)] [] h (some (.int (nI 1)), h') := by
  have hl := i.l
  obtain ⟨v, h1, h2, g1, g2, i2, e1, e2⟩ := Pas.int rfl rfl (p_note i (h.1 95 (k + 1)))
  obtain ⟨h', gg⟩ := ih h2 i2 (by unfold scL; rw [e2])
  refine ⟨h', ?_⟩
  refine gd_ald1 dL_law_1473 (by decide) ?_
  refine gd_ald0 dL_law_1474 (by decide) ?_
  refine gd_ild3 dL_law_1475 ?_
  refine gd_ic1 dL_law_1476 ?_
  refine gd_iadd dL_law_1477 ?_
  refine gd_xald dL_law_1478 (by omega) (by repeat' (first | with_reducible rfl | apply ni_add | apply ni_mul)) (by omega) ?_
  refine gd_kV1i dL_law_1479 ct_10_188 rc_0 ⟨Nat.le_of_ble_eq_true rfl, Nat.le_of_ble_eq_true rfl⟩ (Nat.le_of_ble_eq_true rfl) (Nat.le_of_ble_eq_true rfl) (g1) (fun k95 kL => ?_)
  have hs1 : scL h1 = scL h := by unfold scL; rw [kL]
  refine gd_ald2 dL_law_1482 (by decide) ?_
  refine gd_ald0 dL_law_1483 (by decide) ?_
  refine gd_ild3 dL_law_1484 ?_
  refine gd_ic1 dL_law_1485 ?_
  refine gd_iadd dL_law_1486 ?_
  refine gd_xald dL_law_1487 (by omega) (by repeat' (first | with_reducible rfl | apply ni_add | apply ni_mul)) (by omega) ?_
  rw [k95]
  refine gd_cV1i dL_law_1488 ct_10_191 rc_72 ⟨Nat.le_of_ble_eq_true rfl, Nat.le_of_ble_eq_true rfl⟩ (Nat.le_of_ble_eq_true rfl) (Nat.le_of_ble_eq_true rfl) (g2) ?_
  refine gd_icmp_eq_t 1807 dL_law_1491 (by decide) (rfl) ?_
  exact gg
set_option maxHeartbeats 1000000 in
theorem lw_c43 {h : Hp} {k : Nat} (i : Inv h) (hk : k + 6 ≤ scL h) (ih : ∀ h2, Inv h2 → scL h2 = scL h → ∃ h', Gd mL_law 1807 [.ref 95, .ref 0, .ref 72, .int (nI k)] [] h2 (some (.int (nI 1)), h')) : ∃ h', Gd mL_law 1496 [.ref 95, .ref 0, .ref 72, .int (nI k)] [] h (some (.int (nI 1)), h') := by
  have hl := i.l
  obtain ⟨v, h1, h2, g1, g2, i2, e1, e2⟩ := Pas.int rfl rfl (p_noted i (h.1 95 (k + 1)) (h.1 95 (k + 2)))
  obtain ⟨h', gg⟩ := ih h2 i2 (by unfold scL; rw [e2])
  refine ⟨h', ?_⟩
  refine gd_ald1 dL_law_1496 (by decide) ?_
  refine gd_ald0 dL_law_1497 (by decide) ?_
  refine gd_ild3 dL_law_1498 ?_
  refine gd_ic1 dL_law_1499 ?_
  refine gd_iadd dL_law_1500 ?_
  refine gd_xald dL_law_1501 (by omega) (by repeat' (first | with_reducible rfl | apply ni_add | apply ni_mul)) (by omega) ?_
  refine gd_ald0 dL_law_1502 (by decide) ?_
  refine gd_ild3 dL_law_1503 ?_
  refine gd_ic2 dL_law_1504 ?_
  refine gd_iadd dL_law_1505 ?_
  refine gd_xald dL_law_1506 (by omega) (by repeat' (first | with_reducible rfl | apply ni_add | apply ni_mul)) (by omega) ?_
  refine gd_kV2i dL_law_1507 ct_10_192 rc_0 ⟨Nat.le_of_ble_eq_true rfl, Nat.le_of_ble_eq_true rfl⟩ (Nat.le_of_ble_eq_true rfl) (Nat.le_of_ble_eq_true rfl) (g1) (fun k95 kL => ?_)
  have hs1 : scL h1 = scL h := by unfold scL; rw [kL]
  refine gd_ald2 dL_law_1510 (by decide) ?_
  refine gd_ald0 dL_law_1511 (by decide) ?_
  refine gd_ild3 dL_law_1512 ?_
  refine gd_ic1 dL_law_1513 ?_
  refine gd_iadd dL_law_1514 ?_
  refine gd_xald dL_law_1515 (by omega) (by repeat' (first | with_reducible rfl | apply ni_add | apply ni_mul)) (by omega) ?_
  rw [k95]
  refine gd_ald0 dL_law_1516 (by decide) ?_
  refine gd_ild3 dL_law_1517 ?_
  refine gd_ic2 dL_law_1518 ?_
  refine gd_iadd dL_law_1519 ?_
  refine gd_xald dL_law_1520 (by omega) (by repeat' (first | with_reducible rfl | apply ni_add | apply ni_mul)) (by omega) ?_
  rw [k95]
  refine gd_cV2i dL_law_1521 ct_10_195 rc_72 ⟨Nat.le_of_ble_eq_true rfl, Nat.le_of_ble_eq_true rfl⟩ (Nat.le_of_ble_eq_true rfl) (Nat.le_of_ble_eq_true rfl) (g2) ?_
  refine gd_icmp_eq_t 1807 dL_law_1524 (by decide) (rfl) ?_
  exact gg
set_option maxHeartbeats 1000000 in
theorem lw_c44 {h : Hp} {k : Nat} (i : Inv h) (hk : k + 6 ≤ scL h) (ih : ∀ h2, Inv h2 → scL h2 = scL h → ∃ h', Gd mL_law 1807 [.ref 95, .ref 0, .ref 72, .int (nI k)] [] h2 (some (.int (nI 1)), h')) : ∃ h', Gd mL_law 1529 [.ref 95, .ref 0, .ref 72, .int (nI k)] [] h (some (.int (nI 1)), h') := by
  have hl := i.l
  obtain ⟨v, h1, h2, g1, g2, i2, e1, e2⟩ := Pas.int rfl rfl (p_news i )
  obtain ⟨h', gg⟩ := ih h2 i2 (by unfold scL; rw [e2])
  refine ⟨h', ?_⟩
  refine gd_ald1 dL_law_1529 (by decide) ?_
  refine gd_kV0i dL_law_1530 ct_10_196 rc_0 ⟨Nat.le_of_ble_eq_true rfl, Nat.le_of_ble_eq_true rfl⟩ (Nat.le_of_ble_eq_true rfl) (Nat.le_of_ble_eq_true rfl) (g1) (fun k95 kL => ?_)
  have hs1 : scL h1 = scL h := by unfold scL; rw [kL]
  refine gd_ald2 dL_law_1533 (by decide) ?_
  refine gd_cV0i dL_law_1534 ct_10_199 rc_72 ⟨Nat.le_of_ble_eq_true rfl, Nat.le_of_ble_eq_true rfl⟩ (Nat.le_of_ble_eq_true rfl) (Nat.le_of_ble_eq_true rfl) (g2) ?_
  refine gd_icmp_eq_t 1807 dL_law_1537 (by decide) (rfl) ?_
  exact gg
set_option maxHeartbeats 1000000 in
theorem lw_c45 {h : Hp} {k : Nat} (i : Inv h) (hk : k + 6 ≤ scL h) (ih : ∀ h2, Inv h2 → scL h2 = scL h → ∃ h', Gd mL_law 1807 [.ref 95, .ref 0, .ref 72, .int (nI k)] [] h2 (some (.int (nI 1)), h')) : ∃ h', Gd mL_law 1542 [.ref 95, .ref 0, .ref 72, .int (nI k)] [] h (some (.int (nI 1)), h') := by
  have hl := i.l
  obtain ⟨v, h1, h2, g1, g2, i2, e1, e2⟩ := Pas.int rfl rfl (p_sheet i (h.1 95 (k + 1)) (h.1 95 (k + 2)) (h.1 95 (k + 3)))
  obtain ⟨h', gg⟩ := ih h2 i2 (by unfold scL; rw [e2])
  refine ⟨h', ?_⟩
  refine gd_ald1 dL_law_1542 (by decide) ?_
  refine gd_ald0 dL_law_1543 (by decide) ?_
  refine gd_ild3 dL_law_1544 ?_
  refine gd_ic1 dL_law_1545 ?_
  refine gd_iadd dL_law_1546 ?_
  refine gd_xald dL_law_1547 (by omega) (by repeat' (first | with_reducible rfl | apply ni_add | apply ni_mul)) (by omega) ?_
  refine gd_ald0 dL_law_1548 (by decide) ?_
  refine gd_ild3 dL_law_1549 ?_
  refine gd_ic2 dL_law_1550 ?_
  refine gd_iadd dL_law_1551 ?_
  refine gd_xald dL_law_1552 (by omega) (by repeat' (first | with_reducible rfl | apply ni_add | apply ni_mul)) (by omega) ?_
  refine gd_ald0 dL_law_1553 (by decide) ?_
  refine gd_ild3 dL_law_1554 ?_
  refine gd_ic3 dL_law_1555 ?_
  refine gd_iadd dL_law_1556 ?_
  refine gd_xald dL_law_1557 (by omega) (by repeat' (first | with_reducible rfl | apply ni_add | apply ni_mul)) (by omega) ?_
  refine gd_kV3i dL_law_1558 ct_10_200 rc_0 ⟨Nat.le_of_ble_eq_true rfl, Nat.le_of_ble_eq_true rfl⟩ (Nat.le_of_ble_eq_true rfl) (Nat.le_of_ble_eq_true rfl) (g1) (fun k95 kL => ?_)
  have hs1 : scL h1 = scL h := by unfold scL; rw [kL]
  refine gd_ald2 dL_law_1561 (by decide) ?_
  refine gd_ald0 dL_law_1562 (by decide) ?_
  refine gd_ild3 dL_law_1563 ?_
  refine gd_ic1 dL_law_1564 ?_
  refine gd_iadd dL_law_1565 ?_
  refine gd_xald dL_law_1566 (by omega) (by repeat' (first | with_reducible rfl | apply ni_add | apply ni_mul)) (by omega) ?_
  rw [k95]
  refine gd_ald0 dL_law_1567 (by decide) ?_
  refine gd_ild3 dL_law_1568 ?_
  refine gd_ic2 dL_law_1569 ?_
  refine gd_iadd dL_law_1570 ?_
  refine gd_xald dL_law_1571 (by omega) (by repeat' (first | with_reducible rfl | apply ni_add | apply ni_mul)) (by omega) ?_
  rw [k95]
  refine gd_ald0 dL_law_1572 (by decide) ?_
  refine gd_ild3 dL_law_1573 ?_
  refine gd_ic3 dL_law_1574 ?_
  refine gd_iadd dL_law_1575 ?_
  refine gd_xald dL_law_1576 (by omega) (by repeat' (first | with_reducible rfl | apply ni_add | apply ni_mul)) (by omega) ?_
  rw [k95]
  refine gd_cV3i dL_law_1577 ct_10_203 rc_72 ⟨Nat.le_of_ble_eq_true rfl, Nat.le_of_ble_eq_true rfl⟩ (Nat.le_of_ble_eq_true rfl) (Nat.le_of_ble_eq_true rfl) (g2) ?_
  refine gd_icmp_eq_t 1807 dL_law_1580 (by decide) (rfl) ?_
  exact gg
set_option maxHeartbeats 1000000 in
theorem lw_c46 {h : Hp} {k : Nat} (i : Inv h) (hk : k + 6 ≤ scL h) (ih : ∀ h2, Inv h2 → scL h2 = scL h → ∃ h', Gd mL_law 1807 [.ref 95, .ref 0, .ref 72, .int (nI k)] [] h2 (some (.int (nI 1)), h')) : ∃ h', Gd mL_law 1585 [.ref 95, .ref 0, .ref 72, .int (nI k)] [] h (some (.int (nI 1)), h') := by
  have hl := i.l
  obtain ⟨r, h1, h2, g1, g2, i2, e1, e2, v, rfl⟩ := q_write i (h.1 95 (k + 1)) (h.1 95 (k + 2)) ((h.1 95 (k + 3)).toInt64 <<< ((nI 32).toInt64 &&& 63) ||| (h.1 95 (k + 4)).toInt64 &&& lN 4294967295)
  obtain ⟨h', gg⟩ := ih h2 i2 (by unfold scL; rw [e2])
  refine ⟨h', ?_⟩
  refine gd_ald1 dL_law_1585 (by decide) ?_
  refine gd_ald0 dL_law_1586 (by decide) ?_
  refine gd_ild3 dL_law_1587 ?_
  refine gd_ic1 dL_law_1588 ?_
  refine gd_iadd dL_law_1589 ?_
  refine gd_xald dL_law_1590 (by omega) (by repeat' (first | with_reducible rfl | apply ni_add | apply ni_mul)) (by omega) ?_
  refine gd_ald0 dL_law_1591 (by decide) ?_
  refine gd_ild3 dL_law_1592 ?_
  refine gd_ic2 dL_law_1593 ?_
  refine gd_iadd dL_law_1594 ?_
  refine gd_xald dL_law_1595 (by omega) (by repeat' (first | with_reducible rfl | apply ni_add | apply ni_mul)) (by omega) ?_
  refine gd_ald0 dL_law_1596 (by decide) ?_
  refine gd_ild3 dL_law_1597 ?_
  refine gd_ic3 dL_law_1598 ?_
  refine gd_iadd dL_law_1599 ?_
  refine gd_xald dL_law_1600 (by omega) (by repeat' (first | with_reducible rfl | apply ni_add | apply ni_mul)) (by omega) ?_
  refine gd_i2l dL_law_1601 ?_
  refine gd_bipush (v := nI 32) dL_law_1602 (by decide) ?_
  refine gd_lshl dL_law_1604 ?_
  refine gd_ald0 dL_law_1605 (by decide) ?_
  refine gd_ild3 dL_law_1606 ?_
  refine gd_ic4 dL_law_1607 ?_
  refine gd_iadd dL_law_1608 ?_
  refine gd_xald dL_law_1609 (by omega) (by repeat' (first | with_reducible rfl | apply ni_add | apply ni_mul)) (by omega) ?_
  refine gd_i2l dL_law_1610 ?_
  refine gd_ldc2 dL_law_1611 l2_10_204 ?_
  refine gd_land dL_law_1614 ?_
  refine gd_lor dL_law_1615 ?_
  refine gd_kV3l dL_law_1616 ct_10_206 rc_0 ⟨Nat.le_of_ble_eq_true rfl, Nat.le_of_ble_eq_true rfl⟩ (Nat.le_of_ble_eq_true rfl) (Nat.le_of_ble_eq_true rfl) (g1) (fun k95 kL => ?_)
  have hs1 : scL h1 = scL h := by unfold scL; rw [kL]
  refine gd_ald2 dL_law_1619 (by decide) ?_
  refine gd_ald0 dL_law_1620 (by decide) ?_
  refine gd_ild3 dL_law_1621 ?_
  refine gd_ic1 dL_law_1622 ?_
  refine gd_iadd dL_law_1623 ?_
  refine gd_xald dL_law_1624 (by omega) (by repeat' (first | with_reducible rfl | apply ni_add | apply ni_mul)) (by omega) ?_
  rw [k95]
  refine gd_ald0 dL_law_1625 (by decide) ?_
  refine gd_ild3 dL_law_1626 ?_
  refine gd_ic2 dL_law_1627 ?_
  refine gd_iadd dL_law_1628 ?_
  refine gd_xald dL_law_1629 (by omega) (by repeat' (first | with_reducible rfl | apply ni_add | apply ni_mul)) (by omega) ?_
  rw [k95]
  refine gd_ald0 dL_law_1630 (by decide) ?_
  refine gd_ild3 dL_law_1631 ?_
  refine gd_ic3 dL_law_1632 ?_
  refine gd_iadd dL_law_1633 ?_
  refine gd_xald dL_law_1634 (by omega) (by repeat' (first | with_reducible rfl | apply ni_add | apply ni_mul)) (by omega) ?_
  rw [k95]
  refine gd_i2l dL_law_1635 ?_
  refine gd_bipush (v := nI 32) dL_law_1636 (by decide) ?_
  refine gd_lshl dL_law_1638 ?_
  refine gd_ald0 dL_law_1639 (by decide) ?_
  refine gd_ild3 dL_law_1640 ?_
  refine gd_ic4 dL_law_1641 ?_
  refine gd_iadd dL_law_1642 ?_
  refine gd_xald dL_law_1643 (by omega) (by repeat' (first | with_reducible rfl | apply ni_add | apply ni_mul)) (by omega) ?_
  rw [k95]
  refine gd_i2l dL_law_1644 ?_
  refine gd_ldc2 dL_law_1645 l2_10_204 ?_
  refine gd_land dL_law_1648 ?_
  refine gd_lor dL_law_1649 ?_
  refine gd_cV3l dL_law_1650 ct_10_210 rc_72 ⟨Nat.le_of_ble_eq_true rfl, Nat.le_of_ble_eq_true rfl⟩ (Nat.le_of_ble_eq_true rfl) (Nat.le_of_ble_eq_true rfl) (g2) ?_
  refine gd_lcmp dL_law_1653 ?_
  refine gd_if_eq_t 1807 dL_law_1654 (by decide) ((lg_cmp_eq _ _).mpr rfl) ?_
  exact gg
set_option maxHeartbeats 1000000 in
theorem lw_c47 {h : Hp} {k : Nat} (i : Inv h) (hk : k + 6 ≤ scL h) (ih : ∀ h2, Inv h2 → scL h2 = scL h → ∃ h', Gd mL_law 1807 [.ref 95, .ref 0, .ref 72, .int (nI k)] [] h2 (some (.int (nI 1)), h')) : ∃ h', Gd mL_law 1659 [.ref 95, .ref 0, .ref 72, .int (nI k)] [] h (some (.int (nI 1)), h') := by
  have hl := i.l
  obtain ⟨v, h1, h2, g1, g2, i2, e1, e2⟩ := Pas.int rfl rfl (p_copy i (h.1 95 (k + 1)) (h.1 95 (k + 2)) (h.1 95 (k + 3)) (h.1 95 (k + 4)) (h.1 95 (k + 5)))
  obtain ⟨h', gg⟩ := ih h2 i2 (by unfold scL; rw [e2])
  refine ⟨h', ?_⟩
  refine gd_ald1 dL_law_1659 (by decide) ?_
  refine gd_ald0 dL_law_1660 (by decide) ?_
  refine gd_ild3 dL_law_1661 ?_
  refine gd_ic1 dL_law_1662 ?_
  refine gd_iadd dL_law_1663 ?_
  refine gd_xald dL_law_1664 (by omega) (by repeat' (first | with_reducible rfl | apply ni_add | apply ni_mul)) (by omega) ?_
  refine gd_ald0 dL_law_1665 (by decide) ?_
  refine gd_ild3 dL_law_1666 ?_
  refine gd_ic2 dL_law_1667 ?_
  refine gd_iadd dL_law_1668 ?_
  refine gd_xald dL_law_1669 (by omega) (by repeat' (first | with_reducible rfl | apply ni_add | apply ni_mul)) (by omega) ?_
  refine gd_ald0 dL_law_1670 (by decide) ?_
  refine gd_ild3 dL_law_1671 ?_
  refine gd_ic3 dL_law_1672 ?_
  refine gd_iadd dL_law_1673 ?_
  refine gd_xald dL_law_1674 (by omega) (by repeat' (first | with_reducible rfl | apply ni_add | apply ni_mul)) (by omega) ?_
  refine gd_ald0 dL_law_1675 (by decide) ?_
  refine gd_ild3 dL_law_1676 ?_
  refine gd_ic4 dL_law_1677 ?_
  refine gd_iadd dL_law_1678 ?_
  refine gd_xald dL_law_1679 (by omega) (by repeat' (first | with_reducible rfl | apply ni_add | apply ni_mul)) (by omega) ?_
  refine gd_ald0 dL_law_1680 (by decide) ?_
  refine gd_ild3 dL_law_1681 ?_
  refine gd_ic5 dL_law_1682 ?_
  refine gd_iadd dL_law_1683 ?_
  refine gd_xald dL_law_1684 (by omega) (by repeat' (first | with_reducible rfl | apply ni_add | apply ni_mul)) (by omega) ?_
  refine gd_kV5i dL_law_1685 ct_10_211 rc_0 ⟨Nat.le_of_ble_eq_true rfl, Nat.le_of_ble_eq_true rfl⟩ (Nat.le_of_ble_eq_true rfl) (Nat.le_of_ble_eq_true rfl) (g1) (fun k95 kL => ?_)
  have hs1 : scL h1 = scL h := by unfold scL; rw [kL]
  refine gd_ald2 dL_law_1688 (by decide) ?_
  refine gd_ald0 dL_law_1689 (by decide) ?_
  refine gd_ild3 dL_law_1690 ?_
  refine gd_ic1 dL_law_1691 ?_
  refine gd_iadd dL_law_1692 ?_
  refine gd_xald dL_law_1693 (by omega) (by repeat' (first | with_reducible rfl | apply ni_add | apply ni_mul)) (by omega) ?_
  rw [k95]
  refine gd_ald0 dL_law_1694 (by decide) ?_
  refine gd_ild3 dL_law_1695 ?_
  refine gd_ic2 dL_law_1696 ?_
  refine gd_iadd dL_law_1697 ?_
  refine gd_xald dL_law_1698 (by omega) (by repeat' (first | with_reducible rfl | apply ni_add | apply ni_mul)) (by omega) ?_
  rw [k95]
  refine gd_ald0 dL_law_1699 (by decide) ?_
  refine gd_ild3 dL_law_1700 ?_
  refine gd_ic3 dL_law_1701 ?_
  refine gd_iadd dL_law_1702 ?_
  refine gd_xald dL_law_1703 (by omega) (by repeat' (first | with_reducible rfl | apply ni_add | apply ni_mul)) (by omega) ?_
  rw [k95]
  refine gd_ald0 dL_law_1704 (by decide) ?_
  refine gd_ild3 dL_law_1705 ?_
  refine gd_ic4 dL_law_1706 ?_
  refine gd_iadd dL_law_1707 ?_
  refine gd_xald dL_law_1708 (by omega) (by repeat' (first | with_reducible rfl | apply ni_add | apply ni_mul)) (by omega) ?_
  rw [k95]
  refine gd_ald0 dL_law_1709 (by decide) ?_
  refine gd_ild3 dL_law_1710 ?_
  refine gd_ic5 dL_law_1711 ?_
  refine gd_iadd dL_law_1712 ?_
  refine gd_xald dL_law_1713 (by omega) (by repeat' (first | with_reducible rfl | apply ni_add | apply ni_mul)) (by omega) ?_
  rw [k95]
  refine gd_cV5i dL_law_1714 ct_10_214 rc_72 ⟨Nat.le_of_ble_eq_true rfl, Nat.le_of_ble_eq_true rfl⟩ (Nat.le_of_ble_eq_true rfl) (Nat.le_of_ble_eq_true rfl) (g2) ?_
  refine gd_icmp_eq_t 1807 dL_law_1717 (by decide) (rfl) ?_
  exact gg
set_option maxHeartbeats 1000000 in
theorem lw_c48 {h : Hp} {k : Nat} (i : Inv h) (hk : k + 6 ≤ scL h) (ih : ∀ h2, Inv h2 → scL h2 = scL h → ∃ h', Gd mL_law 1807 [.ref 95, .ref 0, .ref 72, .int (nI k)] [] h2 (some (.int (nI 1)), h')) : ∃ h', Gd mL_law 1722 [.ref 95, .ref 0, .ref 72, .int (nI k)] [] h (some (.int (nI 1)), h') := by
  have hl := i.l
  obtain ⟨v, h1, h2, g1, g2, i2, e1, e2⟩ := Pas.int rfl rfl (p_image i )
  obtain ⟨h', gg⟩ := ih h2 i2 (by unfold scL; rw [e2])
  refine ⟨h', ?_⟩
  refine gd_ald1 dL_law_1722 (by decide) ?_
  refine gd_kV0i dL_law_1723 ct_10_215 rc_0 ⟨Nat.le_of_ble_eq_true rfl, Nat.le_of_ble_eq_true rfl⟩ (Nat.le_of_ble_eq_true rfl) (Nat.le_of_ble_eq_true rfl) (g1) (fun k95 kL => ?_)
  have hs1 : scL h1 = scL h := by unfold scL; rw [kL]
  refine gd_ald2 dL_law_1726 (by decide) ?_
  refine gd_cV0i dL_law_1727 ct_10_218 rc_72 ⟨Nat.le_of_ble_eq_true rfl, Nat.le_of_ble_eq_true rfl⟩ (Nat.le_of_ble_eq_true rfl) (Nat.le_of_ble_eq_true rfl) (g2) ?_
  refine gd_icmp_eq_t 1807 dL_law_1730 (by decide) (rfl) ?_
  exact gg
set_option maxHeartbeats 1000000 in
theorem lw_c49 {h : Hp} {k : Nat} (i : Inv h) (hk : k + 6 ≤ scL h) (ih : ∀ h2, Inv h2 → scL h2 = scL h → ∃ h', Gd mL_law 1807 [.ref 95, .ref 0, .ref 72, .int (nI k)] [] h2 (some (.int (nI 1)), h')) : ∃ h', Gd mL_law 1735 [.ref 95, .ref 0, .ref 72, .int (nI k)] [] h (some (.int (nI 1)), h') := by
  have hl := i.l
  obtain ⟨v, h1, h2, g1, g2, i2, e1, e2⟩ := Pas.int rfl rfl (p_undo i )
  obtain ⟨h', gg⟩ := ih h2 i2 (by unfold scL; rw [e2])
  refine ⟨h', ?_⟩
  refine gd_ald1 dL_law_1735 (by decide) ?_
  refine gd_kV0i dL_law_1736 ct_10_219 rc_0 ⟨Nat.le_of_ble_eq_true rfl, Nat.le_of_ble_eq_true rfl⟩ (Nat.le_of_ble_eq_true rfl) (Nat.le_of_ble_eq_true rfl) (g1) (fun k95 kL => ?_)
  have hs1 : scL h1 = scL h := by unfold scL; rw [kL]
  refine gd_ald2 dL_law_1739 (by decide) ?_
  refine gd_cV0i dL_law_1740 ct_10_222 rc_72 ⟨Nat.le_of_ble_eq_true rfl, Nat.le_of_ble_eq_true rfl⟩ (Nat.le_of_ble_eq_true rfl) (Nat.le_of_ble_eq_true rfl) (g2) ?_
  refine gd_icmp_eq_t 1807 dL_law_1743 (by decide) (rfl) ?_
  exact gg
set_option maxHeartbeats 1000000 in
theorem lw_c50 {h : Hp} {k : Nat} (i : Inv h) (hk : k + 6 ≤ scL h) (ih : ∀ h2, Inv h2 → scL h2 = scL h → ∃ h', Gd mL_law 1807 [.ref 95, .ref 0, .ref 72, .int (nI k)] [] h2 (some (.int (nI 1)), h')) : ∃ h', Gd mL_law 1748 [.ref 95, .ref 0, .ref 72, .int (nI k)] [] h (some (.int (nI 1)), h') := by
  have hl := i.l
  obtain ⟨v, h1, h2, g1, g2, i2, e1, e2⟩ := Pas.int rfl rfl (p_tear i )
  obtain ⟨h', gg⟩ := ih h2 i2 (by unfold scL; rw [e2])
  refine ⟨h', ?_⟩
  refine gd_ald1 dL_law_1748 (by decide) ?_
  refine gd_kV0i dL_law_1749 ct_10_223 rc_0 ⟨Nat.le_of_ble_eq_true rfl, Nat.le_of_ble_eq_true rfl⟩ (Nat.le_of_ble_eq_true rfl) (Nat.le_of_ble_eq_true rfl) (g1) (fun k95 kL => ?_)
  have hs1 : scL h1 = scL h := by unfold scL; rw [kL]
  refine gd_ald2 dL_law_1752 (by decide) ?_
  refine gd_cV0i dL_law_1753 ct_10_226 rc_72 ⟨Nat.le_of_ble_eq_true rfl, Nat.le_of_ble_eq_true rfl⟩ (Nat.le_of_ble_eq_true rfl) (Nat.le_of_ble_eq_true rfl) (g2) ?_
  refine gd_icmp_eq_t 1807 dL_law_1756 (by decide) (rfl) ?_
  exact gg
set_option maxHeartbeats 1000000 in
theorem lw_c51 {h : Hp} {k : Nat} (i : Inv h) (hk : k + 6 ≤ scL h) (ih : ∀ h2, Inv h2 → scL h2 = scL h → ∃ h', Gd mL_law 1807 [.ref 95, .ref 0, .ref 72, .int (nI k)] [] h2 (some (.int (nI 1)), h')) : ∃ h', Gd mL_law 1761 [.ref 95, .ref 0, .ref 72, .int (nI k)] [] h (some (.int (nI 1)), h') := by
  have hl := i.l
  obtain ⟨v, h1, h2, g1, g2, i2, e1, e2⟩ := Pas.int rfl rfl (p_look i (h.1 95 (k + 1)))
  obtain ⟨h', gg⟩ := ih h2 i2 (by unfold scL; rw [e2])
  refine ⟨h', ?_⟩
  refine gd_ald1 dL_law_1761 (by decide) ?_
  refine gd_ald0 dL_law_1762 (by decide) ?_
  refine gd_ild3 dL_law_1763 ?_
  refine gd_ic1 dL_law_1764 ?_
  refine gd_iadd dL_law_1765 ?_
  refine gd_xald dL_law_1766 (by omega) (by repeat' (first | with_reducible rfl | apply ni_add | apply ni_mul)) (by omega) ?_
  refine gd_kV1i dL_law_1767 ct_10_227 rc_0 ⟨Nat.le_of_ble_eq_true rfl, Nat.le_of_ble_eq_true rfl⟩ (Nat.le_of_ble_eq_true rfl) (Nat.le_of_ble_eq_true rfl) (g1) (fun k95 kL => ?_)
  have hs1 : scL h1 = scL h := by unfold scL; rw [kL]
  refine gd_ald2 dL_law_1770 (by decide) ?_
  refine gd_ald0 dL_law_1771 (by decide) ?_
  refine gd_ild3 dL_law_1772 ?_
  refine gd_ic1 dL_law_1773 ?_
  refine gd_iadd dL_law_1774 ?_
  refine gd_xald dL_law_1775 (by omega) (by repeat' (first | with_reducible rfl | apply ni_add | apply ni_mul)) (by omega) ?_
  rw [k95]
  refine gd_cV1i dL_law_1776 ct_10_230 rc_72 ⟨Nat.le_of_ble_eq_true rfl, Nat.le_of_ble_eq_true rfl⟩ (Nat.le_of_ble_eq_true rfl) (Nat.le_of_ble_eq_true rfl) (g2) ?_
  refine gd_icmp_eq_t 1807 dL_law_1779 (by decide) (rfl) ?_
  exact gg
set_option maxHeartbeats 1000000 in
theorem lw_c52 {h : Hp} {k : Nat} (i : Inv h) (hk : k + 6 ≤ scL h) (ih : ∀ h2, Inv h2 → scL h2 = scL h → ∃ h', Gd mL_law 1807 [.ref 95, .ref 0, .ref 72, .int (nI k)] [] h2 (some (.int (nI 1)), h')) : ∃ h', Gd mL_law 1784 [.ref 95, .ref 0, .ref 72, .int (nI k)] [] h (some (.int (nI 1)), h') := by
  have hl := i.l
  obtain ⟨v, h1, h2, g1, g2, i2, e1, e2⟩ := Pas.int rfl rfl (p_status i (h.1 95 (k + 1)))
  obtain ⟨h', gg⟩ := ih h2 i2 (by unfold scL; rw [e2])
  refine ⟨h', ?_⟩
  refine gd_ald1 dL_law_1784 (by decide) ?_
  refine gd_ald0 dL_law_1785 (by decide) ?_
  refine gd_ild3 dL_law_1786 ?_
  refine gd_ic1 dL_law_1787 ?_
  refine gd_iadd dL_law_1788 ?_
  refine gd_xald dL_law_1789 (by omega) (by repeat' (first | with_reducible rfl | apply ni_add | apply ni_mul)) (by omega) ?_
  refine gd_kV1i dL_law_1790 ct_10_231 rc_0 ⟨Nat.le_of_ble_eq_true rfl, Nat.le_of_ble_eq_true rfl⟩ (Nat.le_of_ble_eq_true rfl) (Nat.le_of_ble_eq_true rfl) (g1) (fun k95 kL => ?_)
  have hs1 : scL h1 = scL h := by unfold scL; rw [kL]
  refine gd_ald2 dL_law_1793 (by decide) ?_
  refine gd_ald0 dL_law_1794 (by decide) ?_
  refine gd_ild3 dL_law_1795 ?_
  refine gd_ic1 dL_law_1796 ?_
  refine gd_iadd dL_law_1797 ?_
  refine gd_xald dL_law_1798 (by omega) (by repeat' (first | with_reducible rfl | apply ni_add | apply ni_mul)) (by omega) ?_
  rw [k95]
  refine gd_cV1i dL_law_1799 ct_10_234 rc_72 ⟨Nat.le_of_ble_eq_true rfl, Nat.le_of_ble_eq_true rfl⟩ (Nat.le_of_ble_eq_true rfl) (Nat.le_of_ble_eq_true rfl) (g2) ?_
  refine gd_icmp_eq_t 1807 dL_law_1802 (by decide) (rfl) ?_
  exact gg
theorem and63 (a : Int32) : ∃ c, c < 64 ∧ a &&& nI 63 = nI c := by
  obtain ⟨j, h1, h2⟩ := pk_andE a (m := nI 63) 6 (by decide)
  exact ⟨j, h1, h2⟩
set_option maxHeartbeats 4000000 in
theorem lw_step {h : Hp} {k : Nat} (i : Inv h) (hk : k + 6 ≤ scL h) (ih : ∀ h2, Inv h2 → scL h2 = scL h → ∃ h', Gd mL_law 1807 [.ref 95, .ref 0, .ref 72, .int (nI k)] [] h2 (some (.int (nI 1)), h')) : ∃ h', Gd mL_law 27 [.ref 95, .ref 0, .ref 72, .int (nI k)] [] h (some (.int (nI 1)), h') := by
  have hl := i.l
  obtain ⟨c, c64, ec⟩ := and63 (h.1 95 k)
  by_cases z53 : c < 53
  · rcases (show c = 0 ∨ c = 1 ∨ c = 2 ∨ c = 3 ∨ c = 4 ∨ c = 5 ∨ c = 6 ∨ c = 7 ∨ c = 8 ∨ c = 9 ∨ c = 10 ∨ c = 11 ∨ c = 12 ∨ c = 13 ∨ c = 14 ∨ c = 15 ∨ c = 16 ∨ c = 17 ∨ c = 18 ∨ c = 19 ∨ c = 20 ∨ c = 21 ∨ c = 22 ∨ c = 23 ∨ c = 24 ∨ c = 25 ∨ c = 26 ∨ c = 27 ∨ c = 28 ∨ c = 29 ∨ c = 30 ∨ c = 31 ∨ c = 32 ∨ c = 33 ∨ c = 34 ∨ c = 35 ∨ c = 36 ∨ c = 37 ∨ c = 38 ∨ c = 39 ∨ c = 40 ∨ c = 41 ∨ c = 42 ∨ c = 43 ∨ c = 44 ∨ c = 45 ∨ c = 46 ∨ c = 47 ∨ c = 48 ∨ c = 49 ∨ c = 50 ∨ c = 51 ∨ c = 52 by omega) with z | z | z | z | z | z | z | z | z | z | z | z | z | z | z | z | z | z | z | z | z | z | z | z | z | z | z | z | z | z | z | z | z | z | z | z | z | z | z | z | z | z | z | z | z | z | z | z | z | z | z | z | z
    · obtain ⟨h', gg⟩ := lw_c0 i hk ih
      refine ⟨h', ?_⟩
      subst z
      refine gd_ald0 dL_law_27 (by decide) ?_
      refine gd_ild3 dL_law_28 ?_
      refine gd_xald dL_law_29 (by omega) (by repeat' (first | with_reducible rfl | apply ni_add | apply ni_mul)) (by omega) ?_
      refine gd_bipush (v := nI 63) dL_law_30 (by decide) ?_
      refine gd_iand dL_law_32 ?_
      rw [ec]
      refine gd_tabIn (off := 227) 260 dL_law_33 (by decide) (by decide) (by decide) (by decide) ?_
      exact gg
    · obtain ⟨h', gg⟩ := lw_c1 i hk ih
      refine ⟨h', ?_⟩
      subst z
      refine gd_ald0 dL_law_27 (by decide) ?_
      refine gd_ild3 dL_law_28 ?_
      refine gd_xald dL_law_29 (by omega) (by repeat' (first | with_reducible rfl | apply ni_add | apply ni_mul)) (by omega) ?_
      refine gd_bipush (v := nI 63) dL_law_30 (by decide) ?_
      refine gd_iand dL_law_32 ?_
      rw [ec]
      refine gd_tabIn (off := 260) 293 dL_law_33 (by decide) (by decide) (by decide) (by decide) ?_
      exact gg
    · obtain ⟨h', gg⟩ := lw_c2 i hk ih
      refine ⟨h', ?_⟩
      subst z
      refine gd_ald0 dL_law_27 (by decide) ?_
      refine gd_ild3 dL_law_28 ?_
      refine gd_xald dL_law_29 (by omega) (by repeat' (first | with_reducible rfl | apply ni_add | apply ni_mul)) (by omega) ?_
      refine gd_bipush (v := nI 63) dL_law_30 (by decide) ?_
      refine gd_iand dL_law_32 ?_
      rw [ec]
      refine gd_tabIn (off := 283) 316 dL_law_33 (by decide) (by decide) (by decide) (by decide) ?_
      exact gg
    · obtain ⟨h', gg⟩ := lw_c3 i hk ih
      refine ⟨h', ?_⟩
      subst z
      refine gd_ald0 dL_law_27 (by decide) ?_
      refine gd_ild3 dL_law_28 ?_
      refine gd_xald dL_law_29 (by omega) (by repeat' (first | with_reducible rfl | apply ni_add | apply ni_mul)) (by omega) ?_
      refine gd_bipush (v := nI 63) dL_law_30 (by decide) ?_
      refine gd_iand dL_law_32 ?_
      rw [ec]
      refine gd_tabIn (off := 326) 359 dL_law_33 (by decide) (by decide) (by decide) (by decide) ?_
      exact gg
    · obtain ⟨h', gg⟩ := lw_c4 i hk ih
      refine ⟨h', ?_⟩
      subst z
      refine gd_ald0 dL_law_27 (by decide) ?_
      refine gd_ild3 dL_law_28 ?_
      refine gd_xald dL_law_29 (by omega) (by repeat' (first | with_reducible rfl | apply ni_add | apply ni_mul)) (by omega) ?_
      refine gd_bipush (v := nI 63) dL_law_30 (by decide) ?_
      refine gd_iand dL_law_32 ?_
      rw [ec]
      refine gd_tabIn (off := 359) 392 dL_law_33 (by decide) (by decide) (by decide) (by decide) ?_
      exact gg
    · obtain ⟨h', gg⟩ := lw_c5 i hk ih
      refine ⟨h', ?_⟩
      subst z
      refine gd_ald0 dL_law_27 (by decide) ?_
      refine gd_ild3 dL_law_28 ?_
      refine gd_xald dL_law_29 (by omega) (by repeat' (first | with_reducible rfl | apply ni_add | apply ni_mul)) (by omega) ?_
      refine gd_bipush (v := nI 63) dL_law_30 (by decide) ?_
      refine gd_iand dL_law_32 ?_
      rw [ec]
      refine gd_tabIn (off := 392) 425 dL_law_33 (by decide) (by decide) (by decide) (by decide) ?_
      exact gg
    · obtain ⟨h', gg⟩ := lw_c6 i hk ih
      refine ⟨h', ?_⟩
      subst z
      refine gd_ald0 dL_law_27 (by decide) ?_
      refine gd_ild3 dL_law_28 ?_
      refine gd_xald dL_law_29 (by omega) (by repeat' (first | with_reducible rfl | apply ni_add | apply ni_mul)) (by omega) ?_
      refine gd_bipush (v := nI 63) dL_law_30 (by decide) ?_
      refine gd_iand dL_law_32 ?_
      rw [ec]
      refine gd_tabIn (off := 415) 448 dL_law_33 (by decide) (by decide) (by decide) (by decide) ?_
      exact gg
    · obtain ⟨h', gg⟩ := lw_c7 i hk ih
      refine ⟨h', ?_⟩
      subst z
      refine gd_ald0 dL_law_27 (by decide) ?_
      refine gd_ild3 dL_law_28 ?_
      refine gd_xald dL_law_29 (by omega) (by repeat' (first | with_reducible rfl | apply ni_add | apply ni_mul)) (by omega) ?_
      refine gd_bipush (v := nI 63) dL_law_30 (by decide) ?_
      refine gd_iand dL_law_32 ?_
      rw [ec]
      refine gd_tabIn (off := 478) 511 dL_law_33 (by decide) (by decide) (by decide) (by decide) ?_
      exact gg
    · obtain ⟨h', gg⟩ := lw_c8 i hk ih
      refine ⟨h', ?_⟩
      subst z
      refine gd_ald0 dL_law_27 (by decide) ?_
      refine gd_ild3 dL_law_28 ?_
      refine gd_xald dL_law_29 (by omega) (by repeat' (first | with_reducible rfl | apply ni_add | apply ni_mul)) (by omega) ?_
      refine gd_bipush (v := nI 63) dL_law_30 (by decide) ?_
      refine gd_iand dL_law_32 ?_
      rw [ec]
      refine gd_tabIn (off := 511) 544 dL_law_33 (by decide) (by decide) (by decide) (by decide) ?_
      exact gg
    · obtain ⟨h', gg⟩ := lw_c9 i hk ih
      refine ⟨h', ?_⟩
      subst z
      refine gd_ald0 dL_law_27 (by decide) ?_
      refine gd_ild3 dL_law_28 ?_
      refine gd_xald dL_law_29 (by omega) (by repeat' (first | with_reducible rfl | apply ni_add | apply ni_mul)) (by omega) ?_
      refine gd_bipush (v := nI 63) dL_law_30 (by decide) ?_
      refine gd_iand dL_law_32 ?_
      rw [ec]
      refine gd_tabIn (off := 544) 577 dL_law_33 (by decide) (by decide) (by decide) (by decide) ?_
      exact gg
    · obtain ⟨h', gg⟩ := lw_c10 i hk ih
      refine ⟨h', ?_⟩
      subst z
      refine gd_ald0 dL_law_27 (by decide) ?_
      refine gd_ild3 dL_law_28 ?_
      refine gd_xald dL_law_29 (by omega) (by repeat' (first | with_reducible rfl | apply ni_add | apply ni_mul)) (by omega) ?_
      refine gd_bipush (v := nI 63) dL_law_30 (by decide) ?_
      refine gd_iand dL_law_32 ?_
      rw [ec]
      refine gd_tabIn (off := 593) 626 dL_law_33 (by decide) (by decide) (by decide) (by decide) ?_
      exact gg
    · obtain ⟨h', gg⟩ := lw_c11 i hk ih
      refine ⟨h', ?_⟩
      subst z
      refine gd_ald0 dL_law_27 (by decide) ?_
      refine gd_ild3 dL_law_28 ?_
      refine gd_xald dL_law_29 (by omega) (by repeat' (first | with_reducible rfl | apply ni_add | apply ni_mul)) (by omega) ?_
      refine gd_bipush (v := nI 63) dL_law_30 (by decide) ?_
      refine gd_iand dL_law_32 ?_
      rw [ec]
      refine gd_tabIn (off := 626) 659 dL_law_33 (by decide) (by decide) (by decide) (by decide) ?_
      exact gg
    · obtain ⟨h', gg⟩ := lw_c12 i hk ih
      refine ⟨h', ?_⟩
      subst z
      refine gd_ald0 dL_law_27 (by decide) ?_
      refine gd_ild3 dL_law_28 ?_
      refine gd_xald dL_law_29 (by omega) (by repeat' (first | with_reducible rfl | apply ni_add | apply ni_mul)) (by omega) ?_
      refine gd_bipush (v := nI 63) dL_law_30 (by decide) ?_
      refine gd_iand dL_law_32 ?_
      rw [ec]
      refine gd_tabIn (off := 649) 682 dL_law_33 (by decide) (by decide) (by decide) (by decide) ?_
      exact gg
    · obtain ⟨h', gg⟩ := lw_c13 i hk ih
      refine ⟨h', ?_⟩
      subst z
      refine gd_ald0 dL_law_27 (by decide) ?_
      refine gd_ild3 dL_law_28 ?_
      refine gd_xald dL_law_29 (by omega) (by repeat' (first | with_reducible rfl | apply ni_add | apply ni_mul)) (by omega) ?_
      refine gd_bipush (v := nI 63) dL_law_30 (by decide) ?_
      refine gd_iand dL_law_32 ?_
      rw [ec]
      refine gd_tabIn (off := 672) 705 dL_law_33 (by decide) (by decide) (by decide) (by decide) ?_
      exact gg
    · obtain ⟨h', gg⟩ := lw_c14 i hk ih
      refine ⟨h', ?_⟩
      subst z
      refine gd_ald0 dL_law_27 (by decide) ?_
      refine gd_ild3 dL_law_28 ?_
      refine gd_xald dL_law_29 (by omega) (by repeat' (first | with_reducible rfl | apply ni_add | apply ni_mul)) (by omega) ?_
      refine gd_bipush (v := nI 63) dL_law_30 (by decide) ?_
      refine gd_iand dL_law_32 ?_
      rw [ec]
      refine gd_tabIn (off := 695) 728 dL_law_33 (by decide) (by decide) (by decide) (by decide) ?_
      exact gg
    · obtain ⟨h', gg⟩ := lw_c15 i hk ih
      refine ⟨h', ?_⟩
      subst z
      refine gd_ald0 dL_law_27 (by decide) ?_
      refine gd_ild3 dL_law_28 ?_
      refine gd_xald dL_law_29 (by omega) (by repeat' (first | with_reducible rfl | apply ni_add | apply ni_mul)) (by omega) ?_
      refine gd_bipush (v := nI 63) dL_law_30 (by decide) ?_
      refine gd_iand dL_law_32 ?_
      rw [ec]
      refine gd_tabIn (off := 718) 751 dL_law_33 (by decide) (by decide) (by decide) (by decide) ?_
      exact gg
    · obtain ⟨h', gg⟩ := lw_c16 i hk ih
      refine ⟨h', ?_⟩
      subst z
      refine gd_ald0 dL_law_27 (by decide) ?_
      refine gd_ild3 dL_law_28 ?_
      refine gd_xald dL_law_29 (by omega) (by repeat' (first | with_reducible rfl | apply ni_add | apply ni_mul)) (by omega) ?_
      refine gd_bipush (v := nI 63) dL_law_30 (by decide) ?_
      refine gd_iand dL_law_32 ?_
      rw [ec]
      refine gd_tabIn (off := 741) 774 dL_law_33 (by decide) (by decide) (by decide) (by decide) ?_
      exact gg
    · obtain ⟨h', gg⟩ := lw_c17 i hk ih
      refine ⟨h', ?_⟩
      subst z
      refine gd_ald0 dL_law_27 (by decide) ?_
      refine gd_ild3 dL_law_28 ?_
      refine gd_xald dL_law_29 (by omega) (by repeat' (first | with_reducible rfl | apply ni_add | apply ni_mul)) (by omega) ?_
      refine gd_bipush (v := nI 63) dL_law_30 (by decide) ?_
      refine gd_iand dL_law_32 ?_
      rw [ec]
      refine gd_tabIn (off := 774) 807 dL_law_33 (by decide) (by decide) (by decide) (by decide) ?_
      exact gg
    · obtain ⟨h', gg⟩ := lw_c18 i hk ih
      refine ⟨h', ?_⟩
      subst z
      refine gd_ald0 dL_law_27 (by decide) ?_
      refine gd_ild3 dL_law_28 ?_
      refine gd_xald dL_law_29 (by omega) (by repeat' (first | with_reducible rfl | apply ni_add | apply ni_mul)) (by omega) ?_
      refine gd_bipush (v := nI 63) dL_law_30 (by decide) ?_
      refine gd_iand dL_law_32 ?_
      rw [ec]
      refine gd_tabIn (off := 797) 830 dL_law_33 (by decide) (by decide) (by decide) (by decide) ?_
      exact gg
    · obtain ⟨h', gg⟩ := lw_c19 i hk ih
      refine ⟨h', ?_⟩
      subst z
      refine gd_ald0 dL_law_27 (by decide) ?_
      refine gd_ild3 dL_law_28 ?_
      refine gd_xald dL_law_29 (by omega) (by repeat' (first | with_reducible rfl | apply ni_add | apply ni_mul)) (by omega) ?_
      refine gd_bipush (v := nI 63) dL_law_30 (by decide) ?_
      refine gd_iand dL_law_32 ?_
      rw [ec]
      refine gd_tabIn (off := 830) 863 dL_law_33 (by decide) (by decide) (by decide) (by decide) ?_
      exact gg
    · obtain ⟨h', gg⟩ := lw_c20 i hk ih
      refine ⟨h', ?_⟩
      subst z
      refine gd_ald0 dL_law_27 (by decide) ?_
      refine gd_ild3 dL_law_28 ?_
      refine gd_xald dL_law_29 (by omega) (by repeat' (first | with_reducible rfl | apply ni_add | apply ni_mul)) (by omega) ?_
      refine gd_bipush (v := nI 63) dL_law_30 (by decide) ?_
      refine gd_iand dL_law_32 ?_
      rw [ec]
      refine gd_tabIn (off := 843) 876 dL_law_33 (by decide) (by decide) (by decide) (by decide) ?_
      exact gg
    · obtain ⟨h', gg⟩ := lw_c21 i hk ih
      refine ⟨h', ?_⟩
      subst z
      refine gd_ald0 dL_law_27 (by decide) ?_
      refine gd_ild3 dL_law_28 ?_
      refine gd_xald dL_law_29 (by omega) (by repeat' (first | with_reducible rfl | apply ni_add | apply ni_mul)) (by omega) ?_
      refine gd_bipush (v := nI 63) dL_law_30 (by decide) ?_
      refine gd_iand dL_law_32 ?_
      rw [ec]
      refine gd_tabIn (off := 866) 899 dL_law_33 (by decide) (by decide) (by decide) (by decide) ?_
      exact gg
    · obtain ⟨h', gg⟩ := lw_c22 i hk ih
      refine ⟨h', ?_⟩
      subst z
      refine gd_ald0 dL_law_27 (by decide) ?_
      refine gd_ild3 dL_law_28 ?_
      refine gd_xald dL_law_29 (by omega) (by repeat' (first | with_reducible rfl | apply ni_add | apply ni_mul)) (by omega) ?_
      refine gd_bipush (v := nI 63) dL_law_30 (by decide) ?_
      refine gd_iand dL_law_32 ?_
      rw [ec]
      refine gd_tabIn (off := 889) 922 dL_law_33 (by decide) (by decide) (by decide) (by decide) ?_
      exact gg
    · obtain ⟨h', gg⟩ := lw_c23 i hk ih
      refine ⟨h', ?_⟩
      subst z
      refine gd_ald0 dL_law_27 (by decide) ?_
      refine gd_ild3 dL_law_28 ?_
      refine gd_xald dL_law_29 (by omega) (by repeat' (first | with_reducible rfl | apply ni_add | apply ni_mul)) (by omega) ?_
      refine gd_bipush (v := nI 63) dL_law_30 (by decide) ?_
      refine gd_iand dL_law_32 ?_
      rw [ec]
      refine gd_tabIn (off := 912) 945 dL_law_33 (by decide) (by decide) (by decide) (by decide) ?_
      exact gg
    · obtain ⟨h', gg⟩ := lw_c24 i hk ih
      refine ⟨h', ?_⟩
      subst z
      refine gd_ald0 dL_law_27 (by decide) ?_
      refine gd_ild3 dL_law_28 ?_
      refine gd_xald dL_law_29 (by omega) (by repeat' (first | with_reducible rfl | apply ni_add | apply ni_mul)) (by omega) ?_
      refine gd_bipush (v := nI 63) dL_law_30 (by decide) ?_
      refine gd_iand dL_law_32 ?_
      rw [ec]
      refine gd_tabIn (off := 935) 968 dL_law_33 (by decide) (by decide) (by decide) (by decide) ?_
      exact gg
    · obtain ⟨h', gg⟩ := lw_c25 i hk ih
      refine ⟨h', ?_⟩
      subst z
      refine gd_ald0 dL_law_27 (by decide) ?_
      refine gd_ild3 dL_law_28 ?_
      refine gd_xald dL_law_29 (by omega) (by repeat' (first | with_reducible rfl | apply ni_add | apply ni_mul)) (by omega) ?_
      refine gd_bipush (v := nI 63) dL_law_30 (by decide) ?_
      refine gd_iand dL_law_32 ?_
      rw [ec]
      refine gd_tabIn (off := 958) 991 dL_law_33 (by decide) (by decide) (by decide) (by decide) ?_
      exact gg
    · obtain ⟨h', gg⟩ := lw_c26 i hk ih
      refine ⟨h', ?_⟩
      subst z
      refine gd_ald0 dL_law_27 (by decide) ?_
      refine gd_ild3 dL_law_28 ?_
      refine gd_xald dL_law_29 (by omega) (by repeat' (first | with_reducible rfl | apply ni_add | apply ni_mul)) (by omega) ?_
      refine gd_bipush (v := nI 63) dL_law_30 (by decide) ?_
      refine gd_iand dL_law_32 ?_
      rw [ec]
      refine gd_tabIn (off := 981) 1014 dL_law_33 (by decide) (by decide) (by decide) (by decide) ?_
      exact gg
    · obtain ⟨h', gg⟩ := lw_c27 i hk ih
      refine ⟨h', ?_⟩
      subst z
      refine gd_ald0 dL_law_27 (by decide) ?_
      refine gd_ild3 dL_law_28 ?_
      refine gd_xald dL_law_29 (by omega) (by repeat' (first | with_reducible rfl | apply ni_add | apply ni_mul)) (by omega) ?_
      refine gd_bipush (v := nI 63) dL_law_30 (by decide) ?_
      refine gd_iand dL_law_32 ?_
      rw [ec]
      refine gd_tabIn (off := 994) 1027 dL_law_33 (by decide) (by decide) (by decide) (by decide) ?_
      exact gg
    · obtain ⟨h', gg⟩ := lw_c28 i hk ih
      refine ⟨h', ?_⟩
      subst z
      refine gd_ald0 dL_law_27 (by decide) ?_
      refine gd_ild3 dL_law_28 ?_
      refine gd_xald dL_law_29 (by omega) (by repeat' (first | with_reducible rfl | apply ni_add | apply ni_mul)) (by omega) ?_
      refine gd_bipush (v := nI 63) dL_law_30 (by decide) ?_
      refine gd_iand dL_law_32 ?_
      rw [ec]
      refine gd_tabIn (off := 1027) 1060 dL_law_33 (by decide) (by decide) (by decide) (by decide) ?_
      exact gg
    · obtain ⟨h', gg⟩ := lw_c29 i hk ih
      refine ⟨h', ?_⟩
      subst z
      refine gd_ald0 dL_law_27 (by decide) ?_
      refine gd_ild3 dL_law_28 ?_
      refine gd_xald dL_law_29 (by omega) (by repeat' (first | with_reducible rfl | apply ni_add | apply ni_mul)) (by omega) ?_
      refine gd_bipush (v := nI 63) dL_law_30 (by decide) ?_
      refine gd_iand dL_law_32 ?_
      rw [ec]
      refine gd_tabIn (off := 1060) 1093 dL_law_33 (by decide) (by decide) (by decide) (by decide) ?_
      exact gg
    · obtain ⟨h', gg⟩ := lw_c30 i hk ih
      refine ⟨h', ?_⟩
      subst z
      refine gd_ald0 dL_law_27 (by decide) ?_
      refine gd_ild3 dL_law_28 ?_
      refine gd_xald dL_law_29 (by omega) (by repeat' (first | with_reducible rfl | apply ni_add | apply ni_mul)) (by omega) ?_
      refine gd_bipush (v := nI 63) dL_law_30 (by decide) ?_
      refine gd_iand dL_law_32 ?_
      rw [ec]
      refine gd_tabIn (off := 1093) 1126 dL_law_33 (by decide) (by decide) (by decide) (by decide) ?_
      exact gg
    · obtain ⟨h', gg⟩ := lw_c31 i hk ih
      refine ⟨h', ?_⟩
      subst z
      refine gd_ald0 dL_law_27 (by decide) ?_
      refine gd_ild3 dL_law_28 ?_
      refine gd_xald dL_law_29 (by omega) (by repeat' (first | with_reducible rfl | apply ni_add | apply ni_mul)) (by omega) ?_
      refine gd_bipush (v := nI 63) dL_law_30 (by decide) ?_
      refine gd_iand dL_law_32 ?_
      rw [ec]
      refine gd_tabIn (off := 1126) 1159 dL_law_33 (by decide) (by decide) (by decide) (by decide) ?_
      exact gg
    · obtain ⟨h', gg⟩ := lw_c32 i hk ih
      refine ⟨h', ?_⟩
      subst z
      refine gd_ald0 dL_law_27 (by decide) ?_
      refine gd_ild3 dL_law_28 ?_
      refine gd_xald dL_law_29 (by omega) (by repeat' (first | with_reducible rfl | apply ni_add | apply ni_mul)) (by omega) ?_
      refine gd_bipush (v := nI 63) dL_law_30 (by decide) ?_
      refine gd_iand dL_law_32 ?_
      rw [ec]
      refine gd_tabIn (off := 1149) 1182 dL_law_33 (by decide) (by decide) (by decide) (by decide) ?_
      exact gg
    · obtain ⟨h', gg⟩ := lw_c33 i hk ih
      refine ⟨h', ?_⟩
      subst z
      refine gd_ald0 dL_law_27 (by decide) ?_
      refine gd_ild3 dL_law_28 ?_
      refine gd_xald dL_law_29 (by omega) (by repeat' (first | with_reducible rfl | apply ni_add | apply ni_mul)) (by omega) ?_
      refine gd_bipush (v := nI 63) dL_law_30 (by decide) ?_
      refine gd_iand dL_law_32 ?_
      rw [ec]
      refine gd_tabIn (off := 1172) 1205 dL_law_33 (by decide) (by decide) (by decide) (by decide) ?_
      exact gg
    · obtain ⟨h', gg⟩ := lw_c34 i hk ih
      refine ⟨h', ?_⟩
      subst z
      refine gd_ald0 dL_law_27 (by decide) ?_
      refine gd_ild3 dL_law_28 ?_
      refine gd_xald dL_law_29 (by omega) (by repeat' (first | with_reducible rfl | apply ni_add | apply ni_mul)) (by omega) ?_
      refine gd_bipush (v := nI 63) dL_law_30 (by decide) ?_
      refine gd_iand dL_law_32 ?_
      rw [ec]
      refine gd_tabIn (off := 1195) 1228 dL_law_33 (by decide) (by decide) (by decide) (by decide) ?_
      exact gg
    · obtain ⟨h', gg⟩ := lw_c35 i hk ih
      refine ⟨h', ?_⟩
      subst z
      refine gd_ald0 dL_law_27 (by decide) ?_
      refine gd_ild3 dL_law_28 ?_
      refine gd_xald dL_law_29 (by omega) (by repeat' (first | with_reducible rfl | apply ni_add | apply ni_mul)) (by omega) ?_
      refine gd_bipush (v := nI 63) dL_law_30 (by decide) ?_
      refine gd_iand dL_law_32 ?_
      rw [ec]
      refine gd_tabIn (off := 1238) 1271 dL_law_33 (by decide) (by decide) (by decide) (by decide) ?_
      exact gg
    · obtain ⟨h', gg⟩ := lw_c36 i hk ih
      refine ⟨h', ?_⟩
      subst z
      refine gd_ald0 dL_law_27 (by decide) ?_
      refine gd_ild3 dL_law_28 ?_
      refine gd_xald dL_law_29 (by omega) (by repeat' (first | with_reducible rfl | apply ni_add | apply ni_mul)) (by omega) ?_
      refine gd_bipush (v := nI 63) dL_law_30 (by decide) ?_
      refine gd_iand dL_law_32 ?_
      rw [ec]
      refine gd_tabIn (off := 1261) 1294 dL_law_33 (by decide) (by decide) (by decide) (by decide) ?_
      exact gg
    · obtain ⟨h', gg⟩ := lw_c37 i hk ih
      refine ⟨h', ?_⟩
      subst z
      refine gd_ald0 dL_law_27 (by decide) ?_
      refine gd_ild3 dL_law_28 ?_
      refine gd_xald dL_law_29 (by omega) (by repeat' (first | with_reducible rfl | apply ni_add | apply ni_mul)) (by omega) ?_
      refine gd_bipush (v := nI 63) dL_law_30 (by decide) ?_
      refine gd_iand dL_law_32 ?_
      rw [ec]
      refine gd_tabIn (off := 1295) 1328 dL_law_33 (by decide) (by decide) (by decide) (by decide) ?_
      exact gg
    · obtain ⟨h', gg⟩ := lw_c38 i hk ih
      refine ⟨h', ?_⟩
      subst z
      refine gd_ald0 dL_law_27 (by decide) ?_
      refine gd_ild3 dL_law_28 ?_
      refine gd_xald dL_law_29 (by omega) (by repeat' (first | with_reducible rfl | apply ni_add | apply ni_mul)) (by omega) ?_
      refine gd_bipush (v := nI 63) dL_law_30 (by decide) ?_
      refine gd_iand dL_law_32 ?_
      rw [ec]
      refine gd_tabIn (off := 1318) 1351 dL_law_33 (by decide) (by decide) (by decide) (by decide) ?_
      exact gg
    · obtain ⟨h', gg⟩ := lw_c39 i hk ih
      refine ⟨h', ?_⟩
      subst z
      refine gd_ald0 dL_law_27 (by decide) ?_
      refine gd_ild3 dL_law_28 ?_
      refine gd_xald dL_law_29 (by omega) (by repeat' (first | with_reducible rfl | apply ni_add | apply ni_mul)) (by omega) ?_
      refine gd_bipush (v := nI 63) dL_law_30 (by decide) ?_
      refine gd_iand dL_law_32 ?_
      rw [ec]
      refine gd_tabIn (off := 1351) 1384 dL_law_33 (by decide) (by decide) (by decide) (by decide) ?_
      exact gg
    · obtain ⟨h', gg⟩ := lw_c40 i hk ih
      refine ⟨h', ?_⟩
      subst z
      refine gd_ald0 dL_law_27 (by decide) ?_
      refine gd_ild3 dL_law_28 ?_
      refine gd_xald dL_law_29 (by omega) (by repeat' (first | with_reducible rfl | apply ni_add | apply ni_mul)) (by omega) ?_
      refine gd_bipush (v := nI 63) dL_law_30 (by decide) ?_
      refine gd_iand dL_law_32 ?_
      rw [ec]
      refine gd_tabIn (off := 1384) 1417 dL_law_33 (by decide) (by decide) (by decide) (by decide) ?_
      exact gg
    · obtain ⟨h', gg⟩ := lw_c41 i hk ih
      refine ⟨h', ?_⟩
      subst z
      refine gd_ald0 dL_law_27 (by decide) ?_
      refine gd_ild3 dL_law_28 ?_
      refine gd_xald dL_law_29 (by omega) (by repeat' (first | with_reducible rfl | apply ni_add | apply ni_mul)) (by omega) ?_
      refine gd_bipush (v := nI 63) dL_law_30 (by decide) ?_
      refine gd_iand dL_law_32 ?_
      rw [ec]
      refine gd_tabIn (off := 1407) 1440 dL_law_33 (by decide) (by decide) (by decide) (by decide) ?_
      exact gg
    · obtain ⟨h', gg⟩ := lw_c42 i hk ih
      refine ⟨h', ?_⟩
      subst z
      refine gd_ald0 dL_law_27 (by decide) ?_
      refine gd_ild3 dL_law_28 ?_
      refine gd_xald dL_law_29 (by omega) (by repeat' (first | with_reducible rfl | apply ni_add | apply ni_mul)) (by omega) ?_
      refine gd_bipush (v := nI 63) dL_law_30 (by decide) ?_
      refine gd_iand dL_law_32 ?_
      rw [ec]
      refine gd_tabIn (off := 1440) 1473 dL_law_33 (by decide) (by decide) (by decide) (by decide) ?_
      exact gg
    · obtain ⟨h', gg⟩ := lw_c43 i hk ih
      refine ⟨h', ?_⟩
      subst z
      refine gd_ald0 dL_law_27 (by decide) ?_
      refine gd_ild3 dL_law_28 ?_
      refine gd_xald dL_law_29 (by omega) (by repeat' (first | with_reducible rfl | apply ni_add | apply ni_mul)) (by omega) ?_
      refine gd_bipush (v := nI 63) dL_law_30 (by decide) ?_
      refine gd_iand dL_law_32 ?_
      rw [ec]
      refine gd_tabIn (off := 1463) 1496 dL_law_33 (by decide) (by decide) (by decide) (by decide) ?_
      exact gg
    · obtain ⟨h', gg⟩ := lw_c44 i hk ih
      refine ⟨h', ?_⟩
      subst z
      refine gd_ald0 dL_law_27 (by decide) ?_
      refine gd_ild3 dL_law_28 ?_
      refine gd_xald dL_law_29 (by omega) (by repeat' (first | with_reducible rfl | apply ni_add | apply ni_mul)) (by omega) ?_
      refine gd_bipush (v := nI 63) dL_law_30 (by decide) ?_
      refine gd_iand dL_law_32 ?_
      rw [ec]
      refine gd_tabIn (off := 1496) 1529 dL_law_33 (by decide) (by decide) (by decide) (by decide) ?_
      exact gg
    · obtain ⟨h', gg⟩ := lw_c45 i hk ih
      refine ⟨h', ?_⟩
      subst z
      refine gd_ald0 dL_law_27 (by decide) ?_
      refine gd_ild3 dL_law_28 ?_
      refine gd_xald dL_law_29 (by omega) (by repeat' (first | with_reducible rfl | apply ni_add | apply ni_mul)) (by omega) ?_
      refine gd_bipush (v := nI 63) dL_law_30 (by decide) ?_
      refine gd_iand dL_law_32 ?_
      rw [ec]
      refine gd_tabIn (off := 1509) 1542 dL_law_33 (by decide) (by decide) (by decide) (by decide) ?_
      exact gg
    · obtain ⟨h', gg⟩ := lw_c46 i hk ih
      refine ⟨h', ?_⟩
      subst z
      refine gd_ald0 dL_law_27 (by decide) ?_
      refine gd_ild3 dL_law_28 ?_
      refine gd_xald dL_law_29 (by omega) (by repeat' (first | with_reducible rfl | apply ni_add | apply ni_mul)) (by omega) ?_
      refine gd_bipush (v := nI 63) dL_law_30 (by decide) ?_
      refine gd_iand dL_law_32 ?_
      rw [ec]
      refine gd_tabIn (off := 1552) 1585 dL_law_33 (by decide) (by decide) (by decide) (by decide) ?_
      exact gg
    · obtain ⟨h', gg⟩ := lw_c47 i hk ih
      refine ⟨h', ?_⟩
      subst z
      refine gd_ald0 dL_law_27 (by decide) ?_
      refine gd_ild3 dL_law_28 ?_
      refine gd_xald dL_law_29 (by omega) (by repeat' (first | with_reducible rfl | apply ni_add | apply ni_mul)) (by omega) ?_
      refine gd_bipush (v := nI 63) dL_law_30 (by decide) ?_
      refine gd_iand dL_law_32 ?_
      rw [ec]
      refine gd_tabIn (off := 1626) 1659 dL_law_33 (by decide) (by decide) (by decide) (by decide) ?_
      exact gg
    · obtain ⟨h', gg⟩ := lw_c48 i hk ih
      refine ⟨h', ?_⟩
      subst z
      refine gd_ald0 dL_law_27 (by decide) ?_
      refine gd_ild3 dL_law_28 ?_
      refine gd_xald dL_law_29 (by omega) (by repeat' (first | with_reducible rfl | apply ni_add | apply ni_mul)) (by omega) ?_
      refine gd_bipush (v := nI 63) dL_law_30 (by decide) ?_
      refine gd_iand dL_law_32 ?_
      rw [ec]
      refine gd_tabIn (off := 1689) 1722 dL_law_33 (by decide) (by decide) (by decide) (by decide) ?_
      exact gg
    · obtain ⟨h', gg⟩ := lw_c49 i hk ih
      refine ⟨h', ?_⟩
      subst z
      refine gd_ald0 dL_law_27 (by decide) ?_
      refine gd_ild3 dL_law_28 ?_
      refine gd_xald dL_law_29 (by omega) (by repeat' (first | with_reducible rfl | apply ni_add | apply ni_mul)) (by omega) ?_
      refine gd_bipush (v := nI 63) dL_law_30 (by decide) ?_
      refine gd_iand dL_law_32 ?_
      rw [ec]
      refine gd_tabIn (off := 1702) 1735 dL_law_33 (by decide) (by decide) (by decide) (by decide) ?_
      exact gg
    · obtain ⟨h', gg⟩ := lw_c50 i hk ih
      refine ⟨h', ?_⟩
      subst z
      refine gd_ald0 dL_law_27 (by decide) ?_
      refine gd_ild3 dL_law_28 ?_
      refine gd_xald dL_law_29 (by omega) (by repeat' (first | with_reducible rfl | apply ni_add | apply ni_mul)) (by omega) ?_
      refine gd_bipush (v := nI 63) dL_law_30 (by decide) ?_
      refine gd_iand dL_law_32 ?_
      rw [ec]
      refine gd_tabIn (off := 1715) 1748 dL_law_33 (by decide) (by decide) (by decide) (by decide) ?_
      exact gg
    · obtain ⟨h', gg⟩ := lw_c51 i hk ih
      refine ⟨h', ?_⟩
      subst z
      refine gd_ald0 dL_law_27 (by decide) ?_
      refine gd_ild3 dL_law_28 ?_
      refine gd_xald dL_law_29 (by omega) (by repeat' (first | with_reducible rfl | apply ni_add | apply ni_mul)) (by omega) ?_
      refine gd_bipush (v := nI 63) dL_law_30 (by decide) ?_
      refine gd_iand dL_law_32 ?_
      rw [ec]
      refine gd_tabIn (off := 1728) 1761 dL_law_33 (by decide) (by decide) (by decide) (by decide) ?_
      exact gg
    · obtain ⟨h', gg⟩ := lw_c52 i hk ih
      refine ⟨h', ?_⟩
      subst z
      refine gd_ald0 dL_law_27 (by decide) ?_
      refine gd_ild3 dL_law_28 ?_
      refine gd_xald dL_law_29 (by omega) (by repeat' (first | with_reducible rfl | apply ni_add | apply ni_mul)) (by omega) ?_
      refine gd_bipush (v := nI 63) dL_law_30 (by decide) ?_
      refine gd_iand dL_law_32 ?_
      rw [ec]
      refine gd_tabIn (off := 1751) 1784 dL_law_33 (by decide) (by decide) (by decide) (by decide) ?_
      exact gg
  · obtain ⟨h', gg⟩ := ih h i rfl
    refine ⟨h', ?_⟩
    refine gd_ald0 dL_law_27 (by decide) ?_
    refine gd_ild3 dL_law_28 ?_
    refine gd_xald dL_law_29 (by omega) (by repeat' (first | with_reducible rfl | apply ni_add | apply ni_mul)) (by omega) ?_
    refine gd_bipush (v := nI 63) dL_law_30 (by decide) ?_
    refine gd_iand dL_law_32 ?_
    rw [ec]
    refine gd_tabOut 1807 dL_law_33 (Or.inr (by rw [nI_toInt (by omega)]; omega)) (by decide) ?_
    exact gg
theorem d_lt6 {L k : Nat} (hL : L < 2 ^ 30) (hk : k < 2 ^ 30) : nI L - nI 6 < nI k ↔ L < 6 + k := d_lt hL (by decide) hk
theorem lw_loop : ∀ (n k : Nat) (h : Hp), Inv h → k ≤ 4000 → scL h ≤ 6 * n + k → ∃ h', Gd mL_law 18 [.ref 95, .ref 0, .ref 72, .int (nI k)] [] h (some (.int (nI 1)), h') := by
  intro n
  induction n with
  | zero =>
    intro k h i k4 hn
    have hl := i.l
    refine ⟨h, ?_⟩
    refine gd_ild3 dL_law_18 ?_
    refine gd_ald0 dL_law_19 (by decide) ?_
    refine gd_alenX dL_law_20 ?_
    refine gd_bipush (v := nI 6) dL_law_21 (by decide) ?_
    refine gd_isub dL_law_23 ?_
    refine gd_icmp_gt_t 1813 dL_law_24 (by decide) ((d_lt6 (by omega) (by omega)).mpr (by omega)) ?_
    refine gd_ic1 dL_law_1813 ?_
    refine gd_iret dL_law_1814 rfl (by first | rfl | decide | exact nar_bi _ | assumption) ?_
    rfl
  | succ n ih =>
    intro k h i k4 hn
    have hl := i.l
    by_cases hk : k + 6 ≤ scL h
    · obtain ⟨h', gg⟩ := lw_step i hk (fun h2 i2 e => by
        obtain ⟨h', gg⟩ := ih (k + 6) h2 i2 (by omega) (by omega)
        refine ⟨h', ?_⟩
        refine gd_iinc3 (b := nI 6) dL_law_1807 (by decide) rfl ?_
        rw [nI_add]
        refine gd_goto 18 dL_law_1810 (by decide) ?_
        exact gg)
      refine ⟨h', ?_⟩
      refine gd_ild3 dL_law_18 ?_
      refine gd_ald0 dL_law_19 (by decide) ?_
      refine gd_alenX dL_law_20 ?_
      refine gd_bipush (v := nI 6) dL_law_21 (by decide) ?_
      refine gd_isub dL_law_23 ?_
      refine gd_icmp_gt_f 1813 dL_law_24 (by decide) (fun z => absurd ((d_lt6 (by omega) (by omega)).mp z) (by omega)) ?_
      exact gg
    · refine ⟨h, ?_⟩
      refine gd_ild3 dL_law_18 ?_
      refine gd_ald0 dL_law_19 (by decide) ?_
      refine gd_alenX dL_law_20 ?_
      refine gd_bipush (v := nI 6) dL_law_21 (by decide) ?_
      refine gd_isub dL_law_23 ?_
      refine gd_icmp_gt_t 1813 dL_law_24 (by decide) ((d_lt6 (by omega) (by omega)).mpr (by omega)) ?_
      refine gd_ic1 dL_law_1813 ?_
      refine gd_iret dL_law_1814 rfl (by first | rfl | decide | exact nar_bi _ | assumption) ?_
      rfl
theorem lw_law {h : Hp} (i : Inv h) : ∃ h', Gd mL_law 16 [.ref 95, .ref 0, .ref 72, .null] [] h (some (.int (nI 1)), h') := by
  have hl := i.l
  obtain ⟨h', gg⟩ := lw_loop 512 0 h i (by omega) (by omega)
  refine ⟨h', ?_⟩
  refine gd_ic0 dL_law_16 ?_
  refine gd_ist3 dL_law_17 rfl ?_
  exact gg
