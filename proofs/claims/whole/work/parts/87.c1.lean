theorem dL_law_316 : decode cL_law 316 = .ok (.aload_n 1, 1) := by decide +kernel
theorem dL_law_317 : decode cL_law 317 = .ok (.aload_n 0, 1) := by decide +kernel
theorem dL_law_318 : decode cL_law 318 = .ok (.iload 5, 2) := by decide +kernel
theorem dL_law_320 : decode cL_law 320 = .ok (.iconst 1, 1) := by decide +kernel
theorem dL_law_321 : decode cL_law 321 = .ok (.iadd, 1) := by decide +kernel
theorem dL_law_322 : decode cL_law 322 = .ok (.iaload, 1) := by decide +kernel
theorem dL_law_323 : decode cL_law 323 = .ok (.aload_n 0, 1) := by decide +kernel
theorem dL_law_324 : decode cL_law 324 = .ok (.iload 5, 2) := by decide +kernel
theorem dL_law_326 : decode cL_law 326 = .ok (.iconst 2, 1) := by decide +kernel
theorem dL_law_327 : decode cL_law 327 = .ok (.iadd, 1) := by decide +kernel
theorem dL_law_328 : decode cL_law 328 = .ok (.iaload, 1) := by decide +kernel
theorem dL_law_329 : decode cL_law 329 = .ok (.aload_n 0, 1) := by decide +kernel
theorem dL_law_330 : decode cL_law 330 = .ok (.iload 5, 2) := by decide +kernel
theorem dL_law_332 : decode cL_law 332 = .ok (.iconst 3, 1) := by decide +kernel
theorem dL_law_333 : decode cL_law 333 = .ok (.iadd, 1) := by decide +kernel
theorem dL_law_334 : decode cL_law 334 = .ok (.iaload, 1) := by decide +kernel
theorem dL_law_335 : decode cL_law 335 = .ok (.aload_n 3, 1) := by decide +kernel
theorem dL_law_336 : decode cL_law 336 = .ok (.invokestatic 178, 3) := by decide +kernel
theorem dL_law_339 : decode cL_law 339 = .ok (.istore 6, 2) := by decide +kernel
theorem dL_law_341 : decode cL_law 341 = .ok (.aload_n 2, 1) := by decide +kernel
theorem dL_law_342 : decode cL_law 342 = .ok (.aload_n 0, 1) := by decide +kernel
theorem dL_law_343 : decode cL_law 343 = .ok (.iload 5, 2) := by decide +kernel
theorem dL_law_345 : decode cL_law 345 = .ok (.iconst 1, 1) := by decide +kernel
theorem dL_law_346 : decode cL_law 346 = .ok (.iadd, 1) := by decide +kernel
theorem dL_law_347 : decode cL_law 347 = .ok (.iaload, 1) := by decide +kernel
theorem dL_law_348 : decode cL_law 348 = .ok (.aload_n 0, 1) := by decide +kernel
theorem dL_law_349 : decode cL_law 349 = .ok (.iload 5, 2) := by decide +kernel
theorem dL_law_351 : decode cL_law 351 = .ok (.iconst 2, 1) := by decide +kernel
theorem dL_law_352 : decode cL_law 352 = .ok (.iadd, 1) := by decide +kernel
theorem dL_law_353 : decode cL_law 353 = .ok (.iaload, 1) := by decide +kernel
theorem dL_law_354 : decode cL_law 354 = .ok (.aload_n 0, 1) := by decide +kernel
theorem dL_law_355 : decode cL_law 355 = .ok (.iload 5, 2) := by decide +kernel
theorem dL_law_357 : decode cL_law 357 = .ok (.iconst 3, 1) := by decide +kernel
theorem dL_law_358 : decode cL_law 358 = .ok (.iadd, 1) := by decide +kernel
theorem dL_law_359 : decode cL_law 359 = .ok (.iaload, 1) := by decide +kernel
theorem dL_law_360 : decode cL_law 360 = .ok (.invokevirtual 183, 3) := by decide +kernel
theorem dL_law_363 : decode cL_law 363 = .ok (.istore 7, 2) := by decide +kernel
theorem dL_law_365 : decode cL_law 365 = .ok (.aload_n 2, 1) := by decide +kernel
theorem dL_law_366 : decode cL_law 366 = .ok (.invokevirtual 184, 3) := by decide +kernel
theorem dL_law_369 : decode cL_law 369 = .ok (.iload 6, 2) := by decide +kernel
theorem dL_law_371 : decode cL_law 371 = .ok (.if_icmp .eq 5, 3) := by decide +kernel
theorem dL_law_376 : decode cL_law 376 = .ok (.iload 6, 2) := by decide +kernel
theorem dL_law_378 : decode cL_law 378 = .ok (.ifCond .ne 15, 3) := by decide +kernel
theorem dL_law_381 : decode cL_law 381 = .ok (.aload_n 3, 1) := by decide +kernel
theorem dL_law_382 : decode cL_law 382 = .ok (.iconst 0, 1) := by decide +kernel
theorem dL_law_383 : decode cL_law 383 = .ok (.laload, 1) := by decide +kernel
theorem dL_law_384 : decode cL_law 384 = .ok (.iload 7, 2) := by decide +kernel
theorem dL_law_386 : decode cL_law 386 = .ok (.i2l, 1) := by decide +kernel
theorem dL_law_387 : decode cL_law 387 = .ok (.lcmp, 1) := by decide +kernel
theorem dL_law_388 : decode cL_law 388 = .ok (.ifCond .eq 5, 3) := by decide +kernel
theorem dL_law_393 : decode cL_law 393 = .ok (.goto 3000, 3) := by decide +kernel
set_option maxRecDepth 100000 in
set_option maxHeartbeats 4000000 in
theorem Lc_0 {p : Program} {l : Launch} {e : Env} {s : State} {m : MethodId} {args : Array Value} {below : List Frame} {meth : Method} {c : Code} {H : Heap} {locs : List Loc} {cells slots : Nat} {Q : State → Prop} {E : gE} {M : gM} {x : gX} {b0 L i k : Nat} {xs : Nat → Int32} {ls : Array Slot} (K : gLw p l s m args c E b0 L xs) (hi : i + 5 ≤ L) (hk : k ≤ 580) (hcs : cells + 4 ≤ 603072 ∧ slots + 24 ≤ 7186538) (hV : gInv k M) (hI : gI E s M x H locs) (hl : lv_has ls 9 (gLv E b0 i))
    (kk : ∀ M2 x2 H2 locs2 ls2, gInv (k + 1) M2 → gI E s M2 x2 H2 locs2 → lv_has ls2 9 (gLv E b0 i) → W p l e room_1 s m args below meth c H2 locs2 (cells + 4) (slots + 24) Q (F0 m 3393 ls2 [])) : W p l e room_1 s m args below meth c H locs cells slots Q (F0 m 316 ls []) := by
  have hC := K.1
  have hx := hC.1
  have hb := hC.2.1
  have hst := K.2.2.1
  obtain ⟨oc, M1, z, b, M2, hf, hm, hz, ha, hV2⟩ := K_moor (xs (i + 1)) (xs (i + 2)) (xs (i + 3)) k M hk hV
  refine lv_aload_n hx hb dL_law_316 rfl (lv_at hl 1 rfl) ?_
  refine g_arg K hI (j := 1) (by omega) (by decide) (lv_at hl 0 rfl) (lv_at hl 5 rfl) dL_law_317 dL_law_318 dL_law_320 dL_law_321 dL_law_322 ?_
  refine g_arg K hI (j := 2) (by omega) (by decide) (lv_at hl 0 rfl) (lv_at hl 5 rfl) dL_law_323 dL_law_324 dL_law_326 dL_law_327 dL_law_328 ?_
  refine g_arg K hI (j := 3) (by omega) (by decide) (lv_at hl 0 rfl) (lv_at hl 5 rfl) dL_law_329 dL_law_330 dL_law_332 dL_law_333 dL_law_334 ?_
  refine lv_aload_n hx hb dL_law_335 rfl (lv_at hl 3 rfl) ?_
  refine g_callH (n := 5) hC K.2.1 hI (H_moor l hst E x hf ha) w441 w0 w440 w439 ⟨⟨by decide, by decide⟩, by decide +kernel⟩ ⟨rfl, rfl⟩ ⟨Nat.le_of_ble_eq_true rfl, Nat.le_of_ble_eq_true rfl⟩ rfl hl.1 rfl (Nat.le_of_ble_eq_true rfl) dL_law_336 ⟨show cells + 1 ≤ 603072 by omega, show slots + 6 ≤ 7186538 by omega⟩ (fun H locs hI => ?_)
  refine lv_istore (lv' := (6, .int z) :: gLv E b0 i) hx hb dL_law_339 hl (by decide) rfl (fun ls hl => ?_)
  refine lv_aload_n hx hb dL_law_341 rfl (lv_at hl 3 rfl) ?_
  refine g_arg K hI (j := 1) (by omega) (by decide) (lv_at hl 1 rfl) (lv_at hl 6 rfl) dL_law_342 dL_law_343 dL_law_345 dL_law_346 dL_law_347 ?_
  refine g_arg K hI (j := 2) (by omega) (by decide) (lv_at hl 1 rfl) (lv_at hl 6 rfl) dL_law_348 dL_law_349 dL_law_351 dL_law_352 dL_law_353 ?_
  refine g_arg K hI (j := 3) (by omega) (by decide) (lv_at hl 1 rfl) (lv_at hl 6 rfl) dL_law_354 dL_law_355 dL_law_357 dL_law_358 dL_law_359 ?_
  refine g_callVi hC hI (C_X7_moor l E _ hm) Y_X7_moor V_X7_moor w1380 (rcv_X7 hC hI) ⟨rfl, rfl⟩ ⟨Nat.le_of_ble_eq_true rfl, Nat.le_of_ble_eq_true rfl⟩ rfl hl.1 rfl (Nat.le_of_ble_eq_true rfl) dL_law_360 ⟨show cells + 1 ≤ 603072 by omega, show slots + 6 ≤ 7186538 by omega⟩ (fun H locs hI => ?_)
  refine lv_istore (lv' := (7, .int b) :: (6, .int z) :: gLv E b0 i) hx hb dL_law_363 hl (by decide) rfl (fun ls hl => ?_)
  refine g_tail_i K hI hz (fun h0 => ?_) hl ⟨show cells + 1 ≤ 603072 by omega, show slots + 6 ≤ 7186538 by omega⟩ (off := 3000) (by decide) dL_law_365 dL_law_366 dL_law_369 dL_law_371 dL_law_376 dL_law_378 dL_law_381 dL_law_382 dL_law_383 dL_law_384 dL_law_386 dL_law_387 dL_law_388 dL_law_393 (fun H locs hI => ?_)
  · unfold gXo
    rw [if_pos h0]
    rfl
  · refine W.widen (k := cells + 4) (n := slots + 24) (by omega) (by omega) ?_
    exact kk M2 _ H locs ls hV2 hI (lv_sub hl [2, 3, 4, 5, 6, 7] rfl)
theorem dL_law_396 : decode cL_law 396 = .ok (.aload_n 1, 1) := by decide +kernel
theorem dL_law_397 : decode cL_law 397 = .ok (.aload_n 0, 1) := by decide +kernel
theorem dL_law_398 : decode cL_law 398 = .ok (.iload 5, 2) := by decide +kernel
theorem dL_law_400 : decode cL_law 400 = .ok (.iconst 1, 1) := by decide +kernel
theorem dL_law_401 : decode cL_law 401 = .ok (.iadd, 1) := by decide +kernel
theorem dL_law_402 : decode cL_law 402 = .ok (.iaload, 1) := by decide +kernel
theorem dL_law_403 : decode cL_law 403 = .ok (.aload_n 0, 1) := by decide +kernel
theorem dL_law_404 : decode cL_law 404 = .ok (.iload 5, 2) := by decide +kernel
theorem dL_law_406 : decode cL_law 406 = .ok (.iconst 2, 1) := by decide +kernel
theorem dL_law_407 : decode cL_law 407 = .ok (.iadd, 1) := by decide +kernel
theorem dL_law_408 : decode cL_law 408 = .ok (.iaload, 1) := by decide +kernel
theorem dL_law_409 : decode cL_law 409 = .ok (.aload_n 0, 1) := by decide +kernel
theorem dL_law_410 : decode cL_law 410 = .ok (.iload 5, 2) := by decide +kernel
theorem dL_law_412 : decode cL_law 412 = .ok (.iconst 3, 1) := by decide +kernel
theorem dL_law_413 : decode cL_law 413 = .ok (.iadd, 1) := by decide +kernel
theorem dL_law_414 : decode cL_law 414 = .ok (.iaload, 1) := by decide +kernel
theorem dL_law_415 : decode cL_law 415 = .ok (.aload_n 0, 1) := by decide +kernel
theorem dL_law_416 : decode cL_law 416 = .ok (.iload 5, 2) := by decide +kernel
theorem dL_law_418 : decode cL_law 418 = .ok (.iconst 4, 1) := by decide +kernel
theorem dL_law_419 : decode cL_law 419 = .ok (.iadd, 1) := by decide +kernel
theorem dL_law_420 : decode cL_law 420 = .ok (.iaload, 1) := by decide +kernel
theorem dL_law_421 : decode cL_law 421 = .ok (.aload_n 3, 1) := by decide +kernel
theorem dL_law_422 : decode cL_law 422 = .ok (.invokestatic 187, 3) := by decide +kernel
theorem dL_law_425 : decode cL_law 425 = .ok (.istore 6, 2) := by decide +kernel
theorem dL_law_427 : decode cL_law 427 = .ok (.aload_n 2, 1) := by decide +kernel
theorem dL_law_428 : decode cL_law 428 = .ok (.aload_n 0, 1) := by decide +kernel
theorem dL_law_429 : decode cL_law 429 = .ok (.iload 5, 2) := by decide +kernel
theorem dL_law_431 : decode cL_law 431 = .ok (.iconst 1, 1) := by decide +kernel
theorem dL_law_432 : decode cL_law 432 = .ok (.iadd, 1) := by decide +kernel
theorem dL_law_433 : decode cL_law 433 = .ok (.iaload, 1) := by decide +kernel
theorem dL_law_434 : decode cL_law 434 = .ok (.aload_n 0, 1) := by decide +kernel
theorem dL_law_435 : decode cL_law 435 = .ok (.iload 5, 2) := by decide +kernel
theorem dL_law_437 : decode cL_law 437 = .ok (.iconst 2, 1) := by decide +kernel
theorem dL_law_438 : decode cL_law 438 = .ok (.iadd, 1) := by decide +kernel
theorem dL_law_439 : decode cL_law 439 = .ok (.iaload, 1) := by decide +kernel
theorem dL_law_440 : decode cL_law 440 = .ok (.aload_n 0, 1) := by decide +kernel
theorem dL_law_441 : decode cL_law 441 = .ok (.iload 5, 2) := by decide +kernel
theorem dL_law_443 : decode cL_law 443 = .ok (.iconst 3, 1) := by decide +kernel
theorem dL_law_444 : decode cL_law 444 = .ok (.iadd, 1) := by decide +kernel
theorem dL_law_445 : decode cL_law 445 = .ok (.iaload, 1) := by decide +kernel
theorem dL_law_446 : decode cL_law 446 = .ok (.aload_n 0, 1) := by decide +kernel
theorem dL_law_447 : decode cL_law 447 = .ok (.iload 5, 2) := by decide +kernel
theorem dL_law_449 : decode cL_law 449 = .ok (.iconst 4, 1) := by decide +kernel
theorem dL_law_450 : decode cL_law 450 = .ok (.iadd, 1) := by decide +kernel
theorem dL_law_451 : decode cL_law 451 = .ok (.iaload, 1) := by decide +kernel
theorem dL_law_452 : decode cL_law 452 = .ok (.invokevirtual 190, 3) := by decide +kernel
theorem dL_law_455 : decode cL_law 455 = .ok (.istore 7, 2) := by decide +kernel
theorem dL_law_457 : decode cL_law 457 = .ok (.aload_n 2, 1) := by decide +kernel
theorem dL_law_458 : decode cL_law 458 = .ok (.invokevirtual 184, 3) := by decide +kernel
theorem dL_law_461 : decode cL_law 461 = .ok (.iload 6, 2) := by decide +kernel
theorem dL_law_463 : decode cL_law 463 = .ok (.if_icmp .eq 5, 3) := by decide +kernel
theorem dL_law_468 : decode cL_law 468 = .ok (.iload 6, 2) := by decide +kernel
theorem dL_law_470 : decode cL_law 470 = .ok (.ifCond .ne 15, 3) := by decide +kernel
theorem dL_law_473 : decode cL_law 473 = .ok (.aload_n 3, 1) := by decide +kernel
theorem dL_law_474 : decode cL_law 474 = .ok (.iconst 0, 1) := by decide +kernel
theorem dL_law_475 : decode cL_law 475 = .ok (.laload, 1) := by decide +kernel
theorem dL_law_476 : decode cL_law 476 = .ok (.iload 7, 2) := by decide +kernel
theorem dL_law_478 : decode cL_law 478 = .ok (.i2l, 1) := by decide +kernel
theorem dL_law_479 : decode cL_law 479 = .ok (.lcmp, 1) := by decide +kernel
theorem dL_law_480 : decode cL_law 480 = .ok (.ifCond .eq 5, 3) := by decide +kernel
theorem dL_law_485 : decode cL_law 485 = .ok (.goto 2908, 3) := by decide +kernel
set_option maxRecDepth 100000 in
set_option maxHeartbeats 4000000 in
theorem Lc_1 {p : Program} {l : Launch} {e : Env} {s : State} {m : MethodId} {args : Array Value} {below : List Frame} {meth : Method} {c : Code} {H : Heap} {locs : List Loc} {cells slots : Nat} {Q : State → Prop} {E : gE} {M : gM} {x : gX} {b0 L i k : Nat} {xs : Nat → Int32} {ls : Array Slot} (K : gLw p l s m args c E b0 L xs) (hi : i + 5 ≤ L) (hk : k ≤ 580) (hcs : cells + 4 ≤ 603072 ∧ slots + 24 ≤ 7186538) (hV : gInv k M) (hI : gI E s M x H locs) (hl : lv_has ls 9 (gLv E b0 i))
    (kk : ∀ M2 x2 H2 locs2 ls2, gInv (k + 1) M2 → gI E s M2 x2 H2 locs2 → lv_has ls2 9 (gLv E b0 i) → W p l e room_1 s m args below meth c H2 locs2 (cells + 4) (slots + 24) Q (F0 m 3393 ls2 [])) : W p l e room_1 s m args below meth c H locs cells slots Q (F0 m 396 ls []) := by
  have hC := K.1
  have hx := hC.1
  have hb := hC.2.1
  have hst := K.2.2.1
  obtain ⟨oc, M1, z, b, M2, hf, hm, hz, ha, hV2⟩ := K_stow (xs (i + 1)) (xs (i + 2)) (xs (i + 3)) (xs (i + 4)) k M hk hV
  refine lv_aload_n hx hb dL_law_396 rfl (lv_at hl 1 rfl) ?_
  refine g_arg K hI (j := 1) (by omega) (by decide) (lv_at hl 0 rfl) (lv_at hl 5 rfl) dL_law_397 dL_law_398 dL_law_400 dL_law_401 dL_law_402 ?_
  refine g_arg K hI (j := 2) (by omega) (by decide) (lv_at hl 0 rfl) (lv_at hl 5 rfl) dL_law_403 dL_law_404 dL_law_406 dL_law_407 dL_law_408 ?_
  refine g_arg K hI (j := 3) (by omega) (by decide) (lv_at hl 0 rfl) (lv_at hl 5 rfl) dL_law_409 dL_law_410 dL_law_412 dL_law_413 dL_law_414 ?_
  refine g_arg K hI (j := 4) (by omega) (by decide) (lv_at hl 0 rfl) (lv_at hl 5 rfl) dL_law_415 dL_law_416 dL_law_418 dL_law_419 dL_law_420 ?_
  refine lv_aload_n hx hb dL_law_421 rfl (lv_at hl 3 rfl) ?_
  refine g_callH (n := 6) hC K.2.1 hI (H_stow l hst E x hf ha) w610 w0 w609 w608 ⟨⟨by decide, by decide⟩, by decide +kernel⟩ ⟨rfl, rfl⟩ ⟨Nat.le_of_ble_eq_true rfl, Nat.le_of_ble_eq_true rfl⟩ rfl hl.1 rfl (Nat.le_of_ble_eq_true rfl) dL_law_422 ⟨show cells + 1 ≤ 603072 by omega, show slots + 6 ≤ 7186538 by omega⟩ (fun H locs hI => ?_)
  refine lv_istore (lv' := (6, .int z) :: gLv E b0 i) hx hb dL_law_425 hl (by decide) rfl (fun ls hl => ?_)
  refine lv_aload_n hx hb dL_law_427 rfl (lv_at hl 3 rfl) ?_
  refine g_arg K hI (j := 1) (by omega) (by decide) (lv_at hl 1 rfl) (lv_at hl 6 rfl) dL_law_428 dL_law_429 dL_law_431 dL_law_432 dL_law_433 ?_
  refine g_arg K hI (j := 2) (by omega) (by decide) (lv_at hl 1 rfl) (lv_at hl 6 rfl) dL_law_434 dL_law_435 dL_law_437 dL_law_438 dL_law_439 ?_
  refine g_arg K hI (j := 3) (by omega) (by decide) (lv_at hl 1 rfl) (lv_at hl 6 rfl) dL_law_440 dL_law_441 dL_law_443 dL_law_444 dL_law_445 ?_
  refine g_arg K hI (j := 4) (by omega) (by decide) (lv_at hl 1 rfl) (lv_at hl 6 rfl) dL_law_446 dL_law_447 dL_law_449 dL_law_450 dL_law_451 ?_
  refine g_callVi hC hI (C_X7_stow l E _ hm) Y_X7_stow V_X7_stow w1417 (rcv_X7 hC hI) ⟨rfl, rfl⟩ ⟨Nat.le_of_ble_eq_true rfl, Nat.le_of_ble_eq_true rfl⟩ rfl hl.1 rfl (Nat.le_of_ble_eq_true rfl) dL_law_452 ⟨show cells + 1 ≤ 603072 by omega, show slots + 6 ≤ 7186538 by omega⟩ (fun H locs hI => ?_)
  refine lv_istore (lv' := (7, .int b) :: (6, .int z) :: gLv E b0 i) hx hb dL_law_455 hl (by decide) rfl (fun ls hl => ?_)
  refine g_tail_i K hI hz (fun h0 => ?_) hl ⟨show cells + 1 ≤ 603072 by omega, show slots + 6 ≤ 7186538 by omega⟩ (off := 2908) (by decide) dL_law_457 dL_law_458 dL_law_461 dL_law_463 dL_law_468 dL_law_470 dL_law_473 dL_law_474 dL_law_475 dL_law_476 dL_law_478 dL_law_479 dL_law_480 dL_law_485 (fun H locs hI => ?_)
  · unfold gXo
    rw [if_pos h0]
    rfl
  · refine W.widen (k := cells + 4) (n := slots + 24) (by omega) (by omega) ?_
    exact kk M2 _ H locs ls hV2 hI (lv_sub hl [2, 3, 4, 5, 6, 7] rfl)
theorem dL_law_488 : decode cL_law 488 = .ok (.aload_n 1, 1) := by decide +kernel
theorem dL_law_489 : decode cL_law 489 = .ok (.aload_n 0, 1) := by decide +kernel
theorem dL_law_490 : decode cL_law 490 = .ok (.iload 5, 2) := by decide +kernel
theorem dL_law_492 : decode cL_law 492 = .ok (.iconst 1, 1) := by decide +kernel
theorem dL_law_493 : decode cL_law 493 = .ok (.iadd, 1) := by decide +kernel
theorem dL_law_494 : decode cL_law 494 = .ok (.iaload, 1) := by decide +kernel
theorem dL_law_495 : decode cL_law 495 = .ok (.aload_n 0, 1) := by decide +kernel
theorem dL_law_496 : decode cL_law 496 = .ok (.iload 5, 2) := by decide +kernel
theorem dL_law_498 : decode cL_law 498 = .ok (.iconst 2, 1) := by decide +kernel
theorem dL_law_499 : decode cL_law 499 = .ok (.iadd, 1) := by decide +kernel
theorem dL_law_500 : decode cL_law 500 = .ok (.iaload, 1) := by decide +kernel
theorem dL_law_501 : decode cL_law 501 = .ok (.aload_n 0, 1) := by decide +kernel
theorem dL_law_502 : decode cL_law 502 = .ok (.iload 5, 2) := by decide +kernel
theorem dL_law_504 : decode cL_law 504 = .ok (.iconst 3, 1) := by decide +kernel
theorem dL_law_505 : decode cL_law 505 = .ok (.iadd, 1) := by decide +kernel
theorem dL_law_506 : decode cL_law 506 = .ok (.iaload, 1) := by decide +kernel
theorem dL_law_507 : decode cL_law 507 = .ok (.aload_n 3, 1) := by decide +kernel
theorem dL_law_508 : decode cL_law 508 = .ok (.invokestatic 191, 3) := by decide +kernel
theorem dL_law_511 : decode cL_law 511 = .ok (.istore 6, 2) := by decide +kernel
theorem dL_law_513 : decode cL_law 513 = .ok (.aload_n 2, 1) := by decide +kernel
theorem dL_law_514 : decode cL_law 514 = .ok (.aload_n 0, 1) := by decide +kernel
theorem dL_law_515 : decode cL_law 515 = .ok (.iload 5, 2) := by decide +kernel
theorem dL_law_517 : decode cL_law 517 = .ok (.iconst 1, 1) := by decide +kernel
theorem dL_law_518 : decode cL_law 518 = .ok (.iadd, 1) := by decide +kernel
theorem dL_law_519 : decode cL_law 519 = .ok (.iaload, 1) := by decide +kernel
theorem dL_law_520 : decode cL_law 520 = .ok (.aload_n 0, 1) := by decide +kernel
theorem dL_law_521 : decode cL_law 521 = .ok (.iload 5, 2) := by decide +kernel
theorem dL_law_523 : decode cL_law 523 = .ok (.iconst 2, 1) := by decide +kernel
theorem dL_law_524 : decode cL_law 524 = .ok (.iadd, 1) := by decide +kernel
theorem dL_law_525 : decode cL_law 525 = .ok (.iaload, 1) := by decide +kernel
theorem dL_law_526 : decode cL_law 526 = .ok (.aload_n 0, 1) := by decide +kernel
theorem dL_law_527 : decode cL_law 527 = .ok (.iload 5, 2) := by decide +kernel
theorem dL_law_529 : decode cL_law 529 = .ok (.iconst 3, 1) := by decide +kernel
theorem dL_law_530 : decode cL_law 530 = .ok (.iadd, 1) := by decide +kernel
theorem dL_law_531 : decode cL_law 531 = .ok (.iaload, 1) := by decide +kernel
theorem dL_law_532 : decode cL_law 532 = .ok (.invokevirtual 193, 3) := by decide +kernel
theorem dL_law_535 : decode cL_law 535 = .ok (.istore 7, 2) := by decide +kernel
theorem dL_law_537 : decode cL_law 537 = .ok (.aload_n 2, 1) := by decide +kernel
theorem dL_law_538 : decode cL_law 538 = .ok (.invokevirtual 184, 3) := by decide +kernel
theorem dL_law_541 : decode cL_law 541 = .ok (.iload 6, 2) := by decide +kernel
theorem dL_law_543 : decode cL_law 543 = .ok (.if_icmp .eq 5, 3) := by decide +kernel
theorem dL_law_548 : decode cL_law 548 = .ok (.iload 6, 2) := by decide +kernel
theorem dL_law_550 : decode cL_law 550 = .ok (.ifCond .ne 22, 3) := by decide +kernel
theorem dL_law_553 : decode cL_law 553 = .ok (.aload_n 3, 1) := by decide +kernel
theorem dL_law_554 : decode cL_law 554 = .ok (.iconst 0, 1) := by decide +kernel
theorem dL_law_555 : decode cL_law 555 = .ok (.laload, 1) := by decide +kernel
theorem dL_law_556 : decode cL_law 556 = .ok (.iload 7, 2) := by decide +kernel
theorem dL_law_558 : decode cL_law 558 = .ok (.ifCond .eq 7, 3) := by decide +kernel
theorem dL_law_561 : decode cL_law 561 = .ok (.lconst 1, 1) := by decide +kernel
theorem dL_law_562 : decode cL_law 562 = .ok (.goto 4, 3) := by decide +kernel
theorem dL_law_565 : decode cL_law 565 = .ok (.lconst 0, 1) := by decide +kernel
theorem dL_law_566 : decode cL_law 566 = .ok (.lcmp, 1) := by decide +kernel
theorem dL_law_567 : decode cL_law 567 = .ok (.ifCond .eq 5, 3) := by decide +kernel
theorem dL_law_572 : decode cL_law 572 = .ok (.goto 2821, 3) := by decide +kernel
set_option maxRecDepth 100000 in
set_option maxHeartbeats 4000000 in
theorem Lc_2 {p : Program} {l : Launch} {e : Env} {s : State} {m : MethodId} {args : Array Value} {below : List Frame} {meth : Method} {c : Code} {H : Heap} {locs : List Loc} {cells slots : Nat} {Q : State → Prop} {E : gE} {M : gM} {x : gX} {b0 L i k : Nat} {xs : Nat → Int32} {ls : Array Slot} (K : gLw p l s m args c E b0 L xs) (hi : i + 5 ≤ L) (hk : k ≤ 580) (hcs : cells + 4 ≤ 603072 ∧ slots + 24 ≤ 7186538) (hV : gInv k M) (hI : gI E s M x H locs) (hl : lv_has ls 9 (gLv E b0 i))
    (kk : ∀ M2 x2 H2 locs2 ls2, gInv (k + 1) M2 → gI E s M2 x2 H2 locs2 → lv_has ls2 9 (gLv E b0 i) → W p l e room_1 s m args below meth c H2 locs2 (cells + 4) (slots + 24) Q (F0 m 3393 ls2 [])) : W p l e room_1 s m args below meth c H locs cells slots Q (F0 m 488 ls []) := by
  have hC := K.1
  have hx := hC.1
  have hb := hC.2.1
  have hst := K.2.2.1
  obtain ⟨oc, M1, z, b, M2, hf, hm, hz, ha, hV2⟩ := K_clear (xs (i + 1)) (xs (i + 2)) (xs (i + 3)) k M hk hV
  refine lv_aload_n hx hb dL_law_488 rfl (lv_at hl 1 rfl) ?_
  refine g_arg K hI (j := 1) (by omega) (by decide) (lv_at hl 0 rfl) (lv_at hl 5 rfl) dL_law_489 dL_law_490 dL_law_492 dL_law_493 dL_law_494 ?_
  refine g_arg K hI (j := 2) (by omega) (by decide) (lv_at hl 0 rfl) (lv_at hl 5 rfl) dL_law_495 dL_law_496 dL_law_498 dL_law_499 dL_law_500 ?_
  refine g_arg K hI (j := 3) (by omega) (by decide) (lv_at hl 0 rfl) (lv_at hl 5 rfl) dL_law_501 dL_law_502 dL_law_504 dL_law_505 dL_law_506 ?_
  refine lv_aload_n hx hb dL_law_507 rfl (lv_at hl 3 rfl) ?_
  refine g_callH (n := 5) hC K.2.1 hI (H_clear l hst E x hf ha) w634 w0 w633 w632 ⟨⟨by decide, by decide⟩, by decide +kernel⟩ ⟨rfl, rfl⟩ ⟨Nat.le_of_ble_eq_true rfl, Nat.le_of_ble_eq_true rfl⟩ rfl hl.1 rfl (Nat.le_of_ble_eq_true rfl) dL_law_508 ⟨show cells + 1 ≤ 603072 by omega, show slots + 6 ≤ 7186538 by omega⟩ (fun H locs hI => ?_)
  refine lv_istore (lv' := (6, .int z) :: gLv E b0 i) hx hb dL_law_511 hl (by decide) rfl (fun ls hl => ?_)
  refine lv_aload_n hx hb dL_law_513 rfl (lv_at hl 3 rfl) ?_
  refine g_arg K hI (j := 1) (by omega) (by decide) (lv_at hl 1 rfl) (lv_at hl 6 rfl) dL_law_514 dL_law_515 dL_law_517 dL_law_518 dL_law_519 ?_
  refine g_arg K hI (j := 2) (by omega) (by decide) (lv_at hl 1 rfl) (lv_at hl 6 rfl) dL_law_520 dL_law_521 dL_law_523 dL_law_524 dL_law_525 ?_
  refine g_arg K hI (j := 3) (by omega) (by decide) (lv_at hl 1 rfl) (lv_at hl 6 rfl) dL_law_526 dL_law_527 dL_law_529 dL_law_530 dL_law_531 ?_
  refine g_callVi hC hI (C_X7_clear l E _ hm) Y_X7_clear V_X7_clear w1439 (rcv_X7 hC hI) ⟨rfl, rfl⟩ ⟨Nat.le_of_ble_eq_true rfl, Nat.le_of_ble_eq_true rfl⟩ rfl hl.1 rfl (Nat.le_of_ble_eq_true rfl) dL_law_532 ⟨show cells + 1 ≤ 603072 by omega, show slots + 6 ≤ 7186538 by omega⟩ (fun H locs hI => ?_)
  refine lv_istore (lv' := (7, .int (gb b)) :: (6, .int z) :: gLv E b0 i) hx hb dL_law_535 hl (by decide) rfl (fun ls hl => ?_)
  refine g_tail_b K hI hz (fun h0 => ?_) hl ⟨show cells + 1 ≤ 603072 by omega, show slots + 6 ≤ 7186538 by omega⟩ (off := 2821) (by decide) dL_law_537 dL_law_538 dL_law_541 dL_law_543 dL_law_548 dL_law_550 dL_law_553 dL_law_554 dL_law_555 dL_law_556 dL_law_558 dL_law_561 dL_law_562 dL_law_565 dL_law_566 dL_law_567 dL_law_572 (fun H locs hI => ?_)
  · unfold gXo
    rw [if_pos h0]
    rfl
  · refine W.widen (k := cells + 4) (n := slots + 24) (by omega) (by omega) ?_
    exact kk M2 _ H locs ls hV2 hI (lv_sub hl [2, 3, 4, 5, 6, 7] rfl)
theorem dL_law_575 : decode cL_law 575 = .ok (.aload_n 1, 1) := by decide +kernel
theorem dL_law_576 : decode cL_law 576 = .ok (.aload_n 0, 1) := by decide +kernel
theorem dL_law_577 : decode cL_law 577 = .ok (.iload 5, 2) := by decide +kernel
theorem dL_law_579 : decode cL_law 579 = .ok (.iconst 1, 1) := by decide +kernel
theorem dL_law_580 : decode cL_law 580 = .ok (.iadd, 1) := by decide +kernel
theorem dL_law_581 : decode cL_law 581 = .ok (.iaload, 1) := by decide +kernel
theorem dL_law_582 : decode cL_law 582 = .ok (.aload_n 0, 1) := by decide +kernel
theorem dL_law_583 : decode cL_law 583 = .ok (.iload 5, 2) := by decide +kernel
theorem dL_law_585 : decode cL_law 585 = .ok (.iconst 2, 1) := by decide +kernel
theorem dL_law_586 : decode cL_law 586 = .ok (.iadd, 1) := by decide +kernel
theorem dL_law_587 : decode cL_law 587 = .ok (.iaload, 1) := by decide +kernel
theorem dL_law_588 : decode cL_law 588 = .ok (.aload_n 0, 1) := by decide +kernel
theorem dL_law_589 : decode cL_law 589 = .ok (.iload 5, 2) := by decide +kernel
theorem dL_law_591 : decode cL_law 591 = .ok (.iconst 3, 1) := by decide +kernel
theorem dL_law_592 : decode cL_law 592 = .ok (.iadd, 1) := by decide +kernel
theorem dL_law_593 : decode cL_law 593 = .ok (.iaload, 1) := by decide +kernel
theorem dL_law_594 : decode cL_law 594 = .ok (.aload_n 3, 1) := by decide +kernel
theorem dL_law_595 : decode cL_law 595 = .ok (.invokestatic 194, 3) := by decide +kernel
theorem dL_law_598 : decode cL_law 598 = .ok (.istore 6, 2) := by decide +kernel
theorem dL_law_600 : decode cL_law 600 = .ok (.aload_n 2, 1) := by decide +kernel
theorem dL_law_601 : decode cL_law 601 = .ok (.aload_n 0, 1) := by decide +kernel
theorem dL_law_602 : decode cL_law 602 = .ok (.iload 5, 2) := by decide +kernel
theorem dL_law_604 : decode cL_law 604 = .ok (.iconst 1, 1) := by decide +kernel
theorem dL_law_605 : decode cL_law 605 = .ok (.iadd, 1) := by decide +kernel
theorem dL_law_606 : decode cL_law 606 = .ok (.iaload, 1) := by decide +kernel
theorem dL_law_607 : decode cL_law 607 = .ok (.aload_n 0, 1) := by decide +kernel
theorem dL_law_608 : decode cL_law 608 = .ok (.iload 5, 2) := by decide +kernel
theorem dL_law_610 : decode cL_law 610 = .ok (.iconst 2, 1) := by decide +kernel
theorem dL_law_611 : decode cL_law 611 = .ok (.iadd, 1) := by decide +kernel
theorem dL_law_612 : decode cL_law 612 = .ok (.iaload, 1) := by decide +kernel
theorem dL_law_613 : decode cL_law 613 = .ok (.aload_n 0, 1) := by decide +kernel
theorem dL_law_614 : decode cL_law 614 = .ok (.iload 5, 2) := by decide +kernel
theorem dL_law_616 : decode cL_law 616 = .ok (.iconst 3, 1) := by decide +kernel
theorem dL_law_617 : decode cL_law 617 = .ok (.iadd, 1) := by decide +kernel
theorem dL_law_618 : decode cL_law 618 = .ok (.iaload, 1) := by decide +kernel
theorem dL_law_619 : decode cL_law 619 = .ok (.invokevirtual 196, 3) := by decide +kernel
theorem dL_law_622 : decode cL_law 622 = .ok (.istore 7, 2) := by decide +kernel
theorem dL_law_624 : decode cL_law 624 = .ok (.aload_n 2, 1) := by decide +kernel
theorem dL_law_625 : decode cL_law 625 = .ok (.invokevirtual 184, 3) := by decide +kernel
theorem dL_law_628 : decode cL_law 628 = .ok (.iload 6, 2) := by decide +kernel
theorem dL_law_630 : decode cL_law 630 = .ok (.if_icmp .eq 5, 3) := by decide +kernel
theorem dL_law_635 : decode cL_law 635 = .ok (.iload 6, 2) := by decide +kernel
theorem dL_law_637 : decode cL_law 637 = .ok (.ifCond .ne 15, 3) := by decide +kernel
theorem dL_law_640 : decode cL_law 640 = .ok (.aload_n 3, 1) := by decide +kernel
theorem dL_law_641 : decode cL_law 641 = .ok (.iconst 0, 1) := by decide +kernel
theorem dL_law_642 : decode cL_law 642 = .ok (.laload, 1) := by decide +kernel
theorem dL_law_643 : decode cL_law 643 = .ok (.iload 7, 2) := by decide +kernel
theorem dL_law_645 : decode cL_law 645 = .ok (.i2l, 1) := by decide +kernel
theorem dL_law_646 : decode cL_law 646 = .ok (.lcmp, 1) := by decide +kernel
theorem dL_law_647 : decode cL_law 647 = .ok (.ifCond .eq 5, 3) := by decide +kernel
theorem dL_law_652 : decode cL_law 652 = .ok (.goto 2741, 3) := by decide +kernel
set_option maxRecDepth 100000 in
set_option maxHeartbeats 4000000 in
theorem Lc_3 {p : Program} {l : Launch} {e : Env} {s : State} {m : MethodId} {args : Array Value} {below : List Frame} {meth : Method} {c : Code} {H : Heap} {locs : List Loc} {cells slots : Nat} {Q : State → Prop} {E : gE} {M : gM} {x : gX} {b0 L i k : Nat} {xs : Nat → Int32} {ls : Array Slot} (K : gLw p l s m args c E b0 L xs) (hi : i + 5 ≤ L) (hk : k ≤ 580) (hcs : cells + 4 ≤ 603072 ∧ slots + 24 ≤ 7186538) (hV : gInv k M) (hI : gI E s M x H locs) (hl : lv_has ls 9 (gLv E b0 i))
    (kk : ∀ M2 x2 H2 locs2 ls2, gInv (k + 1) M2 → gI E s M2 x2 H2 locs2 → lv_has ls2 9 (gLv E b0 i) → W p l e room_1 s m args below meth c H2 locs2 (cells + 4) (slots + 24) Q (F0 m 3393 ls2 [])) : W p l e room_1 s m args below meth c H locs cells slots Q (F0 m 575 ls []) := by
  have hC := K.1
  have hx := hC.1
  have hb := hC.2.1
  have hst := K.2.2.1
  obtain ⟨oc, M1, z, b, M2, hf, hm, hz, ha, hV2⟩ := K_move (xs (i + 1)) (xs (i + 2)) (xs (i + 3)) k M hk hV
  refine lv_aload_n hx hb dL_law_575 rfl (lv_at hl 1 rfl) ?_
  refine g_arg K hI (j := 1) (by omega) (by decide) (lv_at hl 0 rfl) (lv_at hl 5 rfl) dL_law_576 dL_law_577 dL_law_579 dL_law_580 dL_law_581 ?_
  refine g_arg K hI (j := 2) (by omega) (by decide) (lv_at hl 0 rfl) (lv_at hl 5 rfl) dL_law_582 dL_law_583 dL_law_585 dL_law_586 dL_law_587 ?_
  refine g_arg K hI (j := 3) (by omega) (by decide) (lv_at hl 0 rfl) (lv_at hl 5 rfl) dL_law_588 dL_law_589 dL_law_591 dL_law_592 dL_law_593 ?_
  refine lv_aload_n hx hb dL_law_594 rfl (lv_at hl 3 rfl) ?_
  refine g_callH (n := 5) hC K.2.1 hI (H_move l hst E x hf ha) w665 w0 w664 w663 ⟨⟨by decide, by decide⟩, by decide +kernel⟩ ⟨rfl, rfl⟩ ⟨Nat.le_of_ble_eq_true rfl, Nat.le_of_ble_eq_true rfl⟩ rfl hl.1 rfl (Nat.le_of_ble_eq_true rfl) dL_law_595 ⟨show cells + 1 ≤ 603072 by omega, show slots + 6 ≤ 7186538 by omega⟩ (fun H locs hI => ?_)
  refine lv_istore (lv' := (6, .int z) :: gLv E b0 i) hx hb dL_law_598 hl (by decide) rfl (fun ls hl => ?_)
  refine lv_aload_n hx hb dL_law_600 rfl (lv_at hl 3 rfl) ?_
  refine g_arg K hI (j := 1) (by omega) (by decide) (lv_at hl 1 rfl) (lv_at hl 6 rfl) dL_law_601 dL_law_602 dL_law_604 dL_law_605 dL_law_606 ?_
  refine g_arg K hI (j := 2) (by omega) (by decide) (lv_at hl 1 rfl) (lv_at hl 6 rfl) dL_law_607 dL_law_608 dL_law_610 dL_law_611 dL_law_612 ?_
  refine g_arg K hI (j := 3) (by omega) (by decide) (lv_at hl 1 rfl) (lv_at hl 6 rfl) dL_law_613 dL_law_614 dL_law_616 dL_law_617 dL_law_618 ?_
  refine g_callVi hC hI (C_X7_move l E _ hm) Y_X7_move V_X7_move w1454 (rcv_X7 hC hI) ⟨rfl, rfl⟩ ⟨Nat.le_of_ble_eq_true rfl, Nat.le_of_ble_eq_true rfl⟩ rfl hl.1 rfl (Nat.le_of_ble_eq_true rfl) dL_law_619 ⟨show cells + 1 ≤ 603072 by omega, show slots + 6 ≤ 7186538 by omega⟩ (fun H locs hI => ?_)
  refine lv_istore (lv' := (7, .int b) :: (6, .int z) :: gLv E b0 i) hx hb dL_law_622 hl (by decide) rfl (fun ls hl => ?_)
  refine g_tail_i K hI hz (fun h0 => ?_) hl ⟨show cells + 1 ≤ 603072 by omega, show slots + 6 ≤ 7186538 by omega⟩ (off := 2741) (by decide) dL_law_624 dL_law_625 dL_law_628 dL_law_630 dL_law_635 dL_law_637 dL_law_640 dL_law_641 dL_law_642 dL_law_643 dL_law_645 dL_law_646 dL_law_647 dL_law_652 (fun H locs hI => ?_)
  · unfold gXo
    rw [if_pos h0]
    rfl
  · refine W.widen (k := cells + 4) (n := slots + 24) (by omega) (by omega) ?_
    exact kk M2 _ H locs ls hV2 hI (lv_sub hl [2, 3, 4, 5, 6, 7] rfl)
theorem dL_law_655 : decode cL_law 655 = .ok (.aload_n 1, 1) := by decide +kernel
theorem dL_law_656 : decode cL_law 656 = .ok (.aload_n 0, 1) := by decide +kernel
theorem dL_law_657 : decode cL_law 657 = .ok (.iload 5, 2) := by decide +kernel
theorem dL_law_659 : decode cL_law 659 = .ok (.iconst 1, 1) := by decide +kernel
theorem dL_law_660 : decode cL_law 660 = .ok (.iadd, 1) := by decide +kernel
theorem dL_law_661 : decode cL_law 661 = .ok (.iaload, 1) := by decide +kernel
theorem dL_law_662 : decode cL_law 662 = .ok (.aload_n 3, 1) := by decide +kernel
theorem dL_law_663 : decode cL_law 663 = .ok (.invokestatic 197, 3) := by decide +kernel
theorem dL_law_666 : decode cL_law 666 = .ok (.istore 6, 2) := by decide +kernel
theorem dL_law_668 : decode cL_law 668 = .ok (.aload_n 2, 1) := by decide +kernel
theorem dL_law_669 : decode cL_law 669 = .ok (.aload_n 0, 1) := by decide +kernel
theorem dL_law_670 : decode cL_law 670 = .ok (.iload 5, 2) := by decide +kernel
theorem dL_law_672 : decode cL_law 672 = .ok (.iconst 1, 1) := by decide +kernel
theorem dL_law_673 : decode cL_law 673 = .ok (.iadd, 1) := by decide +kernel
theorem dL_law_674 : decode cL_law 674 = .ok (.iaload, 1) := by decide +kernel
theorem dL_law_675 : decode cL_law 675 = .ok (.invokevirtual 200, 3) := by decide +kernel
theorem dL_law_678 : decode cL_law 678 = .ok (.istore 7, 2) := by decide +kernel
theorem dL_law_680 : decode cL_law 680 = .ok (.aload_n 2, 1) := by decide +kernel
theorem dL_law_681 : decode cL_law 681 = .ok (.invokevirtual 184, 3) := by decide +kernel
theorem dL_law_684 : decode cL_law 684 = .ok (.iload 6, 2) := by decide +kernel
theorem dL_law_686 : decode cL_law 686 = .ok (.if_icmp .eq 5, 3) := by decide +kernel
theorem dL_law_691 : decode cL_law 691 = .ok (.iload 6, 2) := by decide +kernel
theorem dL_law_693 : decode cL_law 693 = .ok (.ifCond .ne 15, 3) := by decide +kernel
theorem dL_law_696 : decode cL_law 696 = .ok (.aload_n 3, 1) := by decide +kernel
theorem dL_law_697 : decode cL_law 697 = .ok (.iconst 0, 1) := by decide +kernel
theorem dL_law_698 : decode cL_law 698 = .ok (.laload, 1) := by decide +kernel
theorem dL_law_699 : decode cL_law 699 = .ok (.iload 7, 2) := by decide +kernel
theorem dL_law_701 : decode cL_law 701 = .ok (.i2l, 1) := by decide +kernel
theorem dL_law_702 : decode cL_law 702 = .ok (.lcmp, 1) := by decide +kernel
theorem dL_law_703 : decode cL_law 703 = .ok (.ifCond .eq 5, 3) := by decide +kernel
theorem dL_law_708 : decode cL_law 708 = .ok (.goto 2685, 3) := by decide +kernel
set_option maxRecDepth 100000 in
set_option maxHeartbeats 4000000 in
theorem Lc_4 {p : Program} {l : Launch} {e : Env} {s : State} {m : MethodId} {args : Array Value} {below : List Frame} {meth : Method} {c : Code} {H : Heap} {locs : List Loc} {cells slots : Nat} {Q : State → Prop} {E : gE} {M : gM} {x : gX} {b0 L i k : Nat} {xs : Nat → Int32} {ls : Array Slot} (K : gLw p l s m args c E b0 L xs) (hi : i + 5 ≤ L) (hk : k ≤ 580) (hcs : cells + 4 ≤ 603072 ∧ slots + 24 ≤ 7186538) (hV : gInv k M) (hI : gI E s M x H locs) (hl : lv_has ls 9 (gLv E b0 i))
    (kk : ∀ M2 x2 H2 locs2 ls2, gInv (k + 1) M2 → gI E s M2 x2 H2 locs2 → lv_has ls2 9 (gLv E b0 i) → W p l e room_1 s m args below meth c H2 locs2 (cells + 4) (slots + 24) Q (F0 m 3393 ls2 [])) : W p l e room_1 s m args below meth c H locs cells slots Q (F0 m 655 ls []) := by
  have hC := K.1
  have hx := hC.1
  have hb := hC.2.1
  have hst := K.2.2.1
  obtain ⟨oc, M1, z, b, M2, hf, hm, hz, ha, hV2⟩ := K_deliver (xs (i + 1)) k M hk hV
  refine lv_aload_n hx hb dL_law_655 rfl (lv_at hl 1 rfl) ?_
  refine g_arg K hI (j := 1) (by omega) (by decide) (lv_at hl 0 rfl) (lv_at hl 5 rfl) dL_law_656 dL_law_657 dL_law_659 dL_law_660 dL_law_661 ?_
  refine lv_aload_n hx hb dL_law_662 rfl (lv_at hl 3 rfl) ?_
  refine g_callH (n := 3) hC K.2.1 hI (H_deliver l hst E x hf ha) w681 w0 w680 w679 ⟨⟨by decide, by decide⟩, by decide +kernel⟩ ⟨rfl, rfl⟩ ⟨Nat.le_of_ble_eq_true rfl, Nat.le_of_ble_eq_true rfl⟩ rfl hl.1 rfl (Nat.le_of_ble_eq_true rfl) dL_law_663 ⟨show cells + 1 ≤ 603072 by omega, show slots + 6 ≤ 7186538 by omega⟩ (fun H locs hI => ?_)
  refine lv_istore (lv' := (6, .int z) :: gLv E b0 i) hx hb dL_law_666 hl (by decide) rfl (fun ls hl => ?_)
  refine lv_aload_n hx hb dL_law_668 rfl (lv_at hl 3 rfl) ?_
  refine g_arg K hI (j := 1) (by omega) (by decide) (lv_at hl 1 rfl) (lv_at hl 6 rfl) dL_law_669 dL_law_670 dL_law_672 dL_law_673 dL_law_674 ?_
  refine g_callVi hC hI (C_X7_deliver l E _ hm) Y_X7_deliver V_X7_deliver w1462 (rcv_X7 hC hI) ⟨rfl, rfl⟩ ⟨Nat.le_of_ble_eq_true rfl, Nat.le_of_ble_eq_true rfl⟩ rfl hl.1 rfl (Nat.le_of_ble_eq_true rfl) dL_law_675 ⟨show cells + 1 ≤ 603072 by omega, show slots + 6 ≤ 7186538 by omega⟩ (fun H locs hI => ?_)
  refine lv_istore (lv' := (7, .int b) :: (6, .int z) :: gLv E b0 i) hx hb dL_law_678 hl (by decide) rfl (fun ls hl => ?_)
  refine g_tail_i K hI hz (fun h0 => ?_) hl ⟨show cells + 1 ≤ 603072 by omega, show slots + 6 ≤ 7186538 by omega⟩ (off := 2685) (by decide) dL_law_680 dL_law_681 dL_law_684 dL_law_686 dL_law_691 dL_law_693 dL_law_696 dL_law_697 dL_law_698 dL_law_699 dL_law_701 dL_law_702 dL_law_703 dL_law_708 (fun H locs hI => ?_)
  · unfold gXo
    rw [if_pos h0]
    rfl
  · refine W.widen (k := cells + 4) (n := slots + 24) (by omega) (by omega) ?_
    exact kk M2 _ H locs ls hV2 hI (lv_sub hl [2, 3, 4, 5, 6, 7] rfl)
theorem dL_law_711 : decode cL_law 711 = .ok (.aload_n 1, 1) := by decide +kernel
theorem dL_law_712 : decode cL_law 712 = .ok (.aload_n 0, 1) := by decide +kernel
theorem dL_law_713 : decode cL_law 713 = .ok (.iload 5, 2) := by decide +kernel
theorem dL_law_715 : decode cL_law 715 = .ok (.iconst 1, 1) := by decide +kernel
theorem dL_law_716 : decode cL_law 716 = .ok (.iadd, 1) := by decide +kernel
theorem dL_law_717 : decode cL_law 717 = .ok (.iaload, 1) := by decide +kernel
theorem dL_law_718 : decode cL_law 718 = .ok (.aload_n 3, 1) := by decide +kernel
theorem dL_law_719 : decode cL_law 719 = .ok (.invokestatic 201, 3) := by decide +kernel
theorem dL_law_722 : decode cL_law 722 = .ok (.istore 6, 2) := by decide +kernel
theorem dL_law_724 : decode cL_law 724 = .ok (.aload_n 2, 1) := by decide +kernel
theorem dL_law_725 : decode cL_law 725 = .ok (.aload_n 0, 1) := by decide +kernel
theorem dL_law_726 : decode cL_law 726 = .ok (.iload 5, 2) := by decide +kernel
theorem dL_law_728 : decode cL_law 728 = .ok (.iconst 1, 1) := by decide +kernel
theorem dL_law_729 : decode cL_law 729 = .ok (.iadd, 1) := by decide +kernel
theorem dL_law_730 : decode cL_law 730 = .ok (.iaload, 1) := by decide +kernel
theorem dL_law_731 : decode cL_law 731 = .ok (.invokevirtual 203, 3) := by decide +kernel
theorem dL_law_734 : decode cL_law 734 = .ok (.istore 7, 2) := by decide +kernel
theorem dL_law_736 : decode cL_law 736 = .ok (.aload_n 2, 1) := by decide +kernel
theorem dL_law_737 : decode cL_law 737 = .ok (.invokevirtual 184, 3) := by decide +kernel
theorem dL_law_740 : decode cL_law 740 = .ok (.iload 6, 2) := by decide +kernel
theorem dL_law_742 : decode cL_law 742 = .ok (.if_icmp .eq 5, 3) := by decide +kernel
theorem dL_law_747 : decode cL_law 747 = .ok (.iload 6, 2) := by decide +kernel
theorem dL_law_749 : decode cL_law 749 = .ok (.ifCond .ne 15, 3) := by decide +kernel
theorem dL_law_752 : decode cL_law 752 = .ok (.aload_n 3, 1) := by decide +kernel
theorem dL_law_753 : decode cL_law 753 = .ok (.iconst 0, 1) := by decide +kernel
theorem dL_law_754 : decode cL_law 754 = .ok (.laload, 1) := by decide +kernel
theorem dL_law_755 : decode cL_law 755 = .ok (.iload 7, 2) := by decide +kernel
theorem dL_law_757 : decode cL_law 757 = .ok (.i2l, 1) := by decide +kernel
theorem dL_law_758 : decode cL_law 758 = .ok (.lcmp, 1) := by decide +kernel
theorem dL_law_759 : decode cL_law 759 = .ok (.ifCond .eq 5, 3) := by decide +kernel
theorem dL_law_764 : decode cL_law 764 = .ok (.goto 2629, 3) := by decide +kernel
set_option maxRecDepth 100000 in
set_option maxHeartbeats 4000000 in
theorem Lc_5 {p : Program} {l : Launch} {e : Env} {s : State} {m : MethodId} {args : Array Value} {below : List Frame} {meth : Method} {c : Code} {H : Heap} {locs : List Loc} {cells slots : Nat} {Q : State → Prop} {E : gE} {M : gM} {x : gX} {b0 L i k : Nat} {xs : Nat → Int32} {ls : Array Slot} (K : gLw p l s m args c E b0 L xs) (hi : i + 5 ≤ L) (hk : k ≤ 580) (hcs : cells + 4 ≤ 603072 ∧ slots + 24 ≤ 7186538) (hV : gInv k M) (hI : gI E s M x H locs) (hl : lv_has ls 9 (gLv E b0 i))
    (kk : ∀ M2 x2 H2 locs2 ls2, gInv (k + 1) M2 → gI E s M2 x2 H2 locs2 → lv_has ls2 9 (gLv E b0 i) → W p l e room_1 s m args below meth c H2 locs2 (cells + 4) (slots + 24) Q (F0 m 3393 ls2 [])) : W p l e room_1 s m args below meth c H locs cells slots Q (F0 m 711 ls []) := by
  have hC := K.1
  have hx := hC.1
  have hb := hC.2.1
  have hst := K.2.2.1
  obtain ⟨oc, M1, z, b, M2, hf, hm, hz, ha, hV2⟩ := K_leave (xs (i + 1)) k M hk hV
  refine lv_aload_n hx hb dL_law_711 rfl (lv_at hl 1 rfl) ?_
  refine g_arg K hI (j := 1) (by omega) (by decide) (lv_at hl 0 rfl) (lv_at hl 5 rfl) dL_law_712 dL_law_713 dL_law_715 dL_law_716 dL_law_717 ?_
  refine lv_aload_n hx hb dL_law_718 rfl (lv_at hl 3 rfl) ?_
  refine g_callH (n := 3) hC K.2.1 hI (H_leave l hst E x hf ha) w710 w0 w709 w708 ⟨⟨by decide, by decide⟩, by decide +kernel⟩ ⟨rfl, rfl⟩ ⟨Nat.le_of_ble_eq_true rfl, Nat.le_of_ble_eq_true rfl⟩ rfl hl.1 rfl (Nat.le_of_ble_eq_true rfl) dL_law_719 ⟨show cells + 1 ≤ 603072 by omega, show slots + 6 ≤ 7186538 by omega⟩ (fun H locs hI => ?_)
  refine lv_istore (lv' := (6, .int z) :: gLv E b0 i) hx hb dL_law_722 hl (by decide) rfl (fun ls hl => ?_)
  refine lv_aload_n hx hb dL_law_724 rfl (lv_at hl 3 rfl) ?_
  refine g_arg K hI (j := 1) (by omega) (by decide) (lv_at hl 1 rfl) (lv_at hl 6 rfl) dL_law_725 dL_law_726 dL_law_728 dL_law_729 dL_law_730 ?_
  refine g_callVi hC hI (C_X7_leave l E _ hm) Y_X7_leave V_X7_leave w1474 (rcv_X7 hC hI) ⟨rfl, rfl⟩ ⟨Nat.le_of_ble_eq_true rfl, Nat.le_of_ble_eq_true rfl⟩ rfl hl.1 rfl (Nat.le_of_ble_eq_true rfl) dL_law_731 ⟨show cells + 1 ≤ 603072 by omega, show slots + 6 ≤ 7186538 by omega⟩ (fun H locs hI => ?_)
  refine lv_istore (lv' := (7, .int b) :: (6, .int z) :: gLv E b0 i) hx hb dL_law_734 hl (by decide) rfl (fun ls hl => ?_)
  refine g_tail_i K hI hz (fun h0 => ?_) hl ⟨show cells + 1 ≤ 603072 by omega, show slots + 6 ≤ 7186538 by omega⟩ (off := 2629) (by decide) dL_law_736 dL_law_737 dL_law_740 dL_law_742 dL_law_747 dL_law_749 dL_law_752 dL_law_753 dL_law_754 dL_law_755 dL_law_757 dL_law_758 dL_law_759 dL_law_764 (fun H locs hI => ?_)
  · unfold gXo
    rw [if_pos h0]
    rfl
  · refine W.widen (k := cells + 4) (n := slots + 24) (by omega) (by omega) ?_
    exact kk M2 _ H locs ls hV2 hI (lv_sub hl [2, 3, 4, 5, 6, 7] rfl)
theorem dL_law_767 : decode cL_law 767 = .ok (.aload_n 1, 1) := by decide +kernel
theorem dL_law_768 : decode cL_law 768 = .ok (.aload_n 0, 1) := by decide +kernel
theorem dL_law_769 : decode cL_law 769 = .ok (.iload 5, 2) := by decide +kernel
theorem dL_law_771 : decode cL_law 771 = .ok (.iconst 1, 1) := by decide +kernel
theorem dL_law_772 : decode cL_law 772 = .ok (.iadd, 1) := by decide +kernel
theorem dL_law_773 : decode cL_law 773 = .ok (.iaload, 1) := by decide +kernel
theorem dL_law_774 : decode cL_law 774 = .ok (.aload_n 3, 1) := by decide +kernel
theorem dL_law_775 : decode cL_law 775 = .ok (.invokestatic 204, 3) := by decide +kernel
theorem dL_law_778 : decode cL_law 778 = .ok (.istore 6, 2) := by decide +kernel
theorem dL_law_780 : decode cL_law 780 = .ok (.aload_n 2, 1) := by decide +kernel
theorem dL_law_781 : decode cL_law 781 = .ok (.aload_n 0, 1) := by decide +kernel
theorem dL_law_782 : decode cL_law 782 = .ok (.iload 5, 2) := by decide +kernel
theorem dL_law_784 : decode cL_law 784 = .ok (.iconst 1, 1) := by decide +kernel
theorem dL_law_785 : decode cL_law 785 = .ok (.iadd, 1) := by decide +kernel
theorem dL_law_786 : decode cL_law 786 = .ok (.iaload, 1) := by decide +kernel
theorem dL_law_787 : decode cL_law 787 = .ok (.invokevirtual 206, 3) := by decide +kernel
theorem dL_law_790 : decode cL_law 790 = .ok (.istore 7, 2) := by decide +kernel
theorem dL_law_792 : decode cL_law 792 = .ok (.aload_n 2, 1) := by decide +kernel
theorem dL_law_793 : decode cL_law 793 = .ok (.invokevirtual 184, 3) := by decide +kernel
theorem dL_law_796 : decode cL_law 796 = .ok (.iload 6, 2) := by decide +kernel
theorem dL_law_798 : decode cL_law 798 = .ok (.if_icmp .eq 5, 3) := by decide +kernel
theorem dL_law_803 : decode cL_law 803 = .ok (.iload 6, 2) := by decide +kernel
theorem dL_law_805 : decode cL_law 805 = .ok (.ifCond .ne 15, 3) := by decide +kernel
theorem dL_law_808 : decode cL_law 808 = .ok (.aload_n 3, 1) := by decide +kernel
theorem dL_law_809 : decode cL_law 809 = .ok (.iconst 0, 1) := by decide +kernel
theorem dL_law_810 : decode cL_law 810 = .ok (.laload, 1) := by decide +kernel
theorem dL_law_811 : decode cL_law 811 = .ok (.iload 7, 2) := by decide +kernel
theorem dL_law_813 : decode cL_law 813 = .ok (.i2l, 1) := by decide +kernel
theorem dL_law_814 : decode cL_law 814 = .ok (.lcmp, 1) := by decide +kernel
theorem dL_law_815 : decode cL_law 815 = .ok (.ifCond .eq 5, 3) := by decide +kernel
theorem dL_law_820 : decode cL_law 820 = .ok (.goto 2573, 3) := by decide +kernel
set_option maxRecDepth 100000 in
set_option maxHeartbeats 4000000 in
theorem Lc_6 {p : Program} {l : Launch} {e : Env} {s : State} {m : MethodId} {args : Array Value} {below : List Frame} {meth : Method} {c : Code} {H : Heap} {locs : List Loc} {cells slots : Nat} {Q : State → Prop} {E : gE} {M : gM} {x : gX} {b0 L i k : Nat} {xs : Nat → Int32} {ls : Array Slot} (K : gLw p l s m args c E b0 L xs) (hi : i + 5 ≤ L) (hk : k ≤ 580) (hcs : cells + 4 ≤ 603072 ∧ slots + 24 ≤ 7186538) (hV : gInv k M) (hI : gI E s M x H locs) (hl : lv_has ls 9 (gLv E b0 i))
    (kk : ∀ M2 x2 H2 locs2 ls2, gInv (k + 1) M2 → gI E s M2 x2 H2 locs2 → lv_has ls2 9 (gLv E b0 i) → W p l e room_1 s m args below meth c H2 locs2 (cells + 4) (slots + 24) Q (F0 m 3393 ls2 [])) : W p l e room_1 s m args below meth c H locs cells slots Q (F0 m 767 ls []) := by
  have hC := K.1
  have hx := hC.1
  have hb := hC.2.1
  have hst := K.2.2.1
  obtain ⟨oc, M1, z, b, M2, hf, hm, hz, ha, hV2⟩ := K_pass (xs (i + 1)) k M hk hV
  refine lv_aload_n hx hb dL_law_767 rfl (lv_at hl 1 rfl) ?_
  refine g_arg K hI (j := 1) (by omega) (by decide) (lv_at hl 0 rfl) (lv_at hl 5 rfl) dL_law_768 dL_law_769 dL_law_771 dL_law_772 dL_law_773 ?_
  refine lv_aload_n hx hb dL_law_774 rfl (lv_at hl 3 rfl) ?_
  refine g_callH (n := 3) hC K.2.1 hI (H_pass l hst E x hf ha) w729 w0 w728 w727 ⟨⟨by decide, by decide⟩, by decide +kernel⟩ ⟨rfl, rfl⟩ ⟨Nat.le_of_ble_eq_true rfl, Nat.le_of_ble_eq_true rfl⟩ rfl hl.1 rfl (Nat.le_of_ble_eq_true rfl) dL_law_775 ⟨show cells + 1 ≤ 603072 by omega, show slots + 6 ≤ 7186538 by omega⟩ (fun H locs hI => ?_)
  refine lv_istore (lv' := (6, .int z) :: gLv E b0 i) hx hb dL_law_778 hl (by decide) rfl (fun ls hl => ?_)
  refine lv_aload_n hx hb dL_law_780 rfl (lv_at hl 3 rfl) ?_
  refine g_arg K hI (j := 1) (by omega) (by decide) (lv_at hl 1 rfl) (lv_at hl 6 rfl) dL_law_781 dL_law_782 dL_law_784 dL_law_785 dL_law_786 ?_
  refine g_callVi hC hI (C_X7_pass l E _ hm) Y_X7_pass V_X7_pass w1497 (rcv_X7 hC hI) ⟨rfl, rfl⟩ ⟨Nat.le_of_ble_eq_true rfl, Nat.le_of_ble_eq_true rfl⟩ rfl hl.1 rfl (Nat.le_of_ble_eq_true rfl) dL_law_787 ⟨show cells + 1 ≤ 603072 by omega, show slots + 6 ≤ 7186538 by omega⟩ (fun H locs hI => ?_)
  refine lv_istore (lv' := (7, .int b) :: (6, .int z) :: gLv E b0 i) hx hb dL_law_790 hl (by decide) rfl (fun ls hl => ?_)
  refine g_tail_i K hI hz (fun h0 => ?_) hl ⟨show cells + 1 ≤ 603072 by omega, show slots + 6 ≤ 7186538 by omega⟩ (off := 2573) (by decide) dL_law_792 dL_law_793 dL_law_796 dL_law_798 dL_law_803 dL_law_805 dL_law_808 dL_law_809 dL_law_810 dL_law_811 dL_law_813 dL_law_814 dL_law_815 dL_law_820 (fun H locs hI => ?_)
  · unfold gXo
    rw [if_pos h0]
    rfl
  · refine W.widen (k := cells + 4) (n := slots + 24) (by omega) (by omega) ?_
    exact kk M2 _ H locs ls hV2 hI (lv_sub hl [2, 3, 4, 5, 6, 7] rfl)
theorem dL_law_823 : decode cL_law 823 = .ok (.aload_n 1, 1) := by decide +kernel
theorem dL_law_824 : decode cL_law 824 = .ok (.invokevirtual 207, 3) := by decide +kernel
theorem dL_law_827 : decode cL_law 827 = .ok (.aload_n 2, 1) := by decide +kernel
theorem dL_law_828 : decode cL_law 828 = .ok (.invokevirtual 210, 3) := by decide +kernel
theorem dL_law_831 : decode cL_law 831 = .ok (.if_icmp .eq 2562, 3) := by decide +kernel
set_option maxRecDepth 100000 in
set_option maxHeartbeats 4000000 in
theorem Lc_7 {p : Program} {l : Launch} {e : Env} {s : State} {m : MethodId} {args : Array Value} {below : List Frame} {meth : Method} {c : Code} {H : Heap} {locs : List Loc} {cells slots : Nat} {Q : State → Prop} {E : gE} {M : gM} {x : gX} {b0 L i k : Nat} {xs : Nat → Int32} {ls : Array Slot} (K : gLw p l s m args c E b0 L xs) (hi : i + 5 ≤ L) (hk : k ≤ 580) (hcs : cells + 4 ≤ 603072 ∧ slots + 24 ≤ 7186538) (hV : gInv k M) (hI : gI E s M x H locs) (hl : lv_has ls 9 (gLv E b0 i))
    (kk : ∀ M2 x2 H2 locs2 ls2, gInv (k + 1) M2 → gI E s M2 x2 H2 locs2 → lv_has ls2 9 (gLv E b0 i) → W p l e room_1 s m args below meth c H2 locs2 (cells + 4) (slots + 24) Q (F0 m 3393 ls2 [])) : W p l e room_1 s m args below meth c H locs cells slots Q (F0 m 823 ls []) := by
  have hC := K.1
  have hx := hC.1
  have hb := hC.2.1
  have hst := K.2.2.1
  obtain ⟨b, M2, hf, hm, hz, hV2⟩ := K_hour k M hk hV
  refine lv_aload_n hx hb dL_law_823 rfl (lv_at hl 1 rfl) ?_
  refine g_callVi hC hI (C_X6_hour l E x hf) Y_X6_hour V_X6_hour w220 (rcv_X6 hC hI) ⟨rfl, rfl⟩ ⟨Nat.le_of_ble_eq_true rfl, Nat.le_of_ble_eq_true rfl⟩ rfl hl.1 rfl (Nat.le_of_ble_eq_true rfl) dL_law_824 ⟨show cells ≤ 603072 by omega, show slots ≤ 7186538 by omega⟩ (fun H locs hI => ?_)
  refine lv_aload_n hx hb dL_law_827 rfl (lv_at hl 2 rfl) ?_
  refine g_callVi hC hI (C_X7_hour l E x hm) Y_X7_hour V_X7_hour w1509 (rcv_X7 hC hI) ⟨rfl, rfl⟩ ⟨Nat.le_of_ble_eq_true rfl, Nat.le_of_ble_eq_true rfl⟩ rfl hl.1 rfl (Nat.le_of_ble_eq_true rfl) dL_law_828 ⟨show cells ≤ 603072 by omega, show slots ≤ 7186538 by omega⟩ (fun H locs hI => ?_)
  refine lv_icmp_eq (tgt := 3393) hx hb dL_law_831 rfl (fun _ => ?_) (fun h => absurd rfl h)
  refine W.widen (k := cells + 4) (n := slots + 24) (by omega) (by omega) ?_
  exact kk M2 _ H locs ls hV2 hI hl
theorem dL_law_836 : decode cL_law 836 = .ok (.aload_n 1, 1) := by decide +kernel
theorem dL_law_837 : decode cL_law 837 = .ok (.invokevirtual 211, 3) := by decide +kernel
theorem dL_law_840 : decode cL_law 840 = .ok (.aload_n 2, 1) := by decide +kernel
theorem dL_law_841 : decode cL_law 841 = .ok (.invokevirtual 214, 3) := by decide +kernel
theorem dL_law_844 : decode cL_law 844 = .ok (.if_icmp .eq 2549, 3) := by decide +kernel
set_option maxRecDepth 100000 in
set_option maxHeartbeats 4000000 in
theorem Lc_8 {p : Program} {l : Launch} {e : Env} {s : State} {m : MethodId} {args : Array Value} {below : List Frame} {meth : Method} {c : Code} {H : Heap} {locs : List Loc} {cells slots : Nat} {Q : State → Prop} {E : gE} {M : gM} {x : gX} {b0 L i k : Nat} {xs : Nat → Int32} {ls : Array Slot} (K : gLw p l s m args c E b0 L xs) (hi : i + 5 ≤ L) (hk : k ≤ 580) (hcs : cells + 4 ≤ 603072 ∧ slots + 24 ≤ 7186538) (hV : gInv k M) (hI : gI E s M x H locs) (hl : lv_has ls 9 (gLv E b0 i))
    (kk : ∀ M2 x2 H2 locs2 ls2, gInv (k + 1) M2 → gI E s M2 x2 H2 locs2 → lv_has ls2 9 (gLv E b0 i) → W p l e room_1 s m args below meth c H2 locs2 (cells + 4) (slots + 24) Q (F0 m 3393 ls2 [])) : W p l e room_1 s m args below meth c H locs cells slots Q (F0 m 836 ls []) := by
  have hC := K.1
  have hx := hC.1
  have hb := hC.2.1
  have hst := K.2.2.1
  obtain ⟨b, M2, hf, hm, hz, hV2⟩ := K_tide k M hk hV
  refine lv_aload_n hx hb dL_law_836 rfl (lv_at hl 1 rfl) ?_
  refine g_callVi hC hI (C_X6_tide l E x hf) Y_X6_tide V_X6_tide w224 (rcv_X6 hC hI) ⟨rfl, rfl⟩ ⟨Nat.le_of_ble_eq_true rfl, Nat.le_of_ble_eq_true rfl⟩ rfl hl.1 rfl (Nat.le_of_ble_eq_true rfl) dL_law_837 ⟨show cells ≤ 603072 by omega, show slots ≤ 7186538 by omega⟩ (fun H locs hI => ?_)
  refine lv_aload_n hx hb dL_law_840 rfl (lv_at hl 2 rfl) ?_
  refine g_callVi hC hI (C_X7_tide l E x hm) Y_X7_tide V_X7_tide w1513 (rcv_X7 hC hI) ⟨rfl, rfl⟩ ⟨Nat.le_of_ble_eq_true rfl, Nat.le_of_ble_eq_true rfl⟩ rfl hl.1 rfl (Nat.le_of_ble_eq_true rfl) dL_law_841 ⟨show cells ≤ 603072 by omega, show slots ≤ 7186538 by omega⟩ (fun H locs hI => ?_)
  refine lv_icmp_eq (tgt := 3393) hx hb dL_law_844 rfl (fun _ => ?_) (fun h => absurd rfl h)
  refine W.widen (k := cells + 4) (n := slots + 24) (by omega) (by omega) ?_
  exact kk M2 _ H locs ls hV2 hI hl
theorem dL_law_849 : decode cL_law 849 = .ok (.aload_n 1, 1) := by decide +kernel
theorem dL_law_850 : decode cL_law 850 = .ok (.invokevirtual 215, 3) := by decide +kernel
theorem dL_law_853 : decode cL_law 853 = .ok (.aload_n 2, 1) := by decide +kernel
theorem dL_law_854 : decode cL_law 854 = .ok (.invokevirtual 218, 3) := by decide +kernel
theorem dL_law_857 : decode cL_law 857 = .ok (.if_icmp .eq 2536, 3) := by decide +kernel
set_option maxRecDepth 100000 in
set_option maxHeartbeats 4000000 in
theorem Lc_9 {p : Program} {l : Launch} {e : Env} {s : State} {m : MethodId} {args : Array Value} {below : List Frame} {meth : Method} {c : Code} {H : Heap} {locs : List Loc} {cells slots : Nat} {Q : State → Prop} {E : gE} {M : gM} {x : gX} {b0 L i k : Nat} {xs : Nat → Int32} {ls : Array Slot} (K : gLw p l s m args c E b0 L xs) (hi : i + 5 ≤ L) (hk : k ≤ 580) (hcs : cells + 4 ≤ 603072 ∧ slots + 24 ≤ 7186538) (hV : gInv k M) (hI : gI E s M x H locs) (hl : lv_has ls 9 (gLv E b0 i))
    (kk : ∀ M2 x2 H2 locs2 ls2, gInv (k + 1) M2 → gI E s M2 x2 H2 locs2 → lv_has ls2 9 (gLv E b0 i) → W p l e room_1 s m args below meth c H2 locs2 (cells + 4) (slots + 24) Q (F0 m 3393 ls2 [])) : W p l e room_1 s m args below meth c H locs cells slots Q (F0 m 849 ls []) := by
  have hC := K.1
  have hx := hC.1
  have hb := hC.2.1
  have hst := K.2.2.1
  obtain ⟨b, M2, hf, hm, hz, hV2⟩ := K_shipCount k M hk hV
  refine lv_aload_n hx hb dL_law_849 rfl (lv_at hl 1 rfl) ?_
  refine g_callVi hC hI (C_X6_shipCount l E x hf) Y_X6_shipCount V_X6_shipCount w234 (rcv_X6 hC hI) ⟨rfl, rfl⟩ ⟨Nat.le_of_ble_eq_true rfl, Nat.le_of_ble_eq_true rfl⟩ rfl hl.1 rfl (Nat.le_of_ble_eq_true rfl) dL_law_850 ⟨show cells ≤ 603072 by omega, show slots ≤ 7186538 by omega⟩ (fun H locs hI => ?_)
  refine lv_aload_n hx hb dL_law_853 rfl (lv_at hl 2 rfl) ?_
  refine g_callVi hC hI (C_X7_shipCount l E x hm) Y_X7_shipCount V_X7_shipCount w1517 (rcv_X7 hC hI) ⟨rfl, rfl⟩ ⟨Nat.le_of_ble_eq_true rfl, Nat.le_of_ble_eq_true rfl⟩ rfl hl.1 rfl (Nat.le_of_ble_eq_true rfl) dL_law_854 ⟨show cells ≤ 603072 by omega, show slots ≤ 7186538 by omega⟩ (fun H locs hI => ?_)
  refine lv_icmp_eq (tgt := 3393) hx hb dL_law_857 rfl (fun _ => ?_) (fun h => absurd rfl h)
  refine W.widen (k := cells + 4) (n := slots + 24) (by omega) (by omega) ?_
  exact kk M2 _ H locs ls hV2 hI hl
theorem dL_law_862 : decode cL_law 862 = .ok (.aload_n 1, 1) := by decide +kernel
theorem dL_law_863 : decode cL_law 863 = .ok (.aload_n 0, 1) := by decide +kernel
theorem dL_law_864 : decode cL_law 864 = .ok (.iload 5, 2) := by decide +kernel
theorem dL_law_866 : decode cL_law 866 = .ok (.iconst 1, 1) := by decide +kernel
theorem dL_law_867 : decode cL_law 867 = .ok (.iadd, 1) := by decide +kernel
theorem dL_law_868 : decode cL_law 868 = .ok (.iaload, 1) := by decide +kernel
theorem dL_law_869 : decode cL_law 869 = .ok (.aload_n 3, 1) := by decide +kernel
theorem dL_law_870 : decode cL_law 870 = .ok (.invokestatic 219, 3) := by decide +kernel
theorem dL_law_873 : decode cL_law 873 = .ok (.istore 6, 2) := by decide +kernel
theorem dL_law_875 : decode cL_law 875 = .ok (.aload_n 2, 1) := by decide +kernel
theorem dL_law_876 : decode cL_law 876 = .ok (.aload_n 0, 1) := by decide +kernel
theorem dL_law_877 : decode cL_law 877 = .ok (.iload 5, 2) := by decide +kernel
theorem dL_law_879 : decode cL_law 879 = .ok (.iconst 1, 1) := by decide +kernel
theorem dL_law_880 : decode cL_law 880 = .ok (.iadd, 1) := by decide +kernel
theorem dL_law_881 : decode cL_law 881 = .ok (.iaload, 1) := by decide +kernel
theorem dL_law_882 : decode cL_law 882 = .ok (.invokevirtual 221, 3) := by decide +kernel
theorem dL_law_885 : decode cL_law 885 = .ok (.istore 7, 2) := by decide +kernel
theorem dL_law_887 : decode cL_law 887 = .ok (.aload_n 2, 1) := by decide +kernel
theorem dL_law_888 : decode cL_law 888 = .ok (.invokevirtual 184, 3) := by decide +kernel
theorem dL_law_891 : decode cL_law 891 = .ok (.iload 6, 2) := by decide +kernel
theorem dL_law_893 : decode cL_law 893 = .ok (.if_icmp .eq 5, 3) := by decide +kernel
theorem dL_law_898 : decode cL_law 898 = .ok (.iload 6, 2) := by decide +kernel
theorem dL_law_900 : decode cL_law 900 = .ok (.ifCond .ne 22, 3) := by decide +kernel
theorem dL_law_903 : decode cL_law 903 = .ok (.aload_n 3, 1) := by decide +kernel
theorem dL_law_904 : decode cL_law 904 = .ok (.iconst 0, 1) := by decide +kernel
theorem dL_law_905 : decode cL_law 905 = .ok (.laload, 1) := by decide +kernel
theorem dL_law_906 : decode cL_law 906 = .ok (.iload 7, 2) := by decide +kernel
theorem dL_law_908 : decode cL_law 908 = .ok (.ifCond .eq 7, 3) := by decide +kernel
theorem dL_law_911 : decode cL_law 911 = .ok (.lconst 1, 1) := by decide +kernel
theorem dL_law_912 : decode cL_law 912 = .ok (.goto 4, 3) := by decide +kernel
theorem dL_law_915 : decode cL_law 915 = .ok (.lconst 0, 1) := by decide +kernel
theorem dL_law_916 : decode cL_law 916 = .ok (.lcmp, 1) := by decide +kernel
theorem dL_law_917 : decode cL_law 917 = .ok (.ifCond .eq 5, 3) := by decide +kernel
theorem dL_law_922 : decode cL_law 922 = .ok (.goto 2471, 3) := by decide +kernel
set_option maxRecDepth 100000 in
set_option maxHeartbeats 4000000 in
theorem Lc_10 {p : Program} {l : Launch} {e : Env} {s : State} {m : MethodId} {args : Array Value} {below : List Frame} {meth : Method} {c : Code} {H : Heap} {locs : List Loc} {cells slots : Nat} {Q : State → Prop} {E : gE} {M : gM} {x : gX} {b0 L i k : Nat} {xs : Nat → Int32} {ls : Array Slot} (K : gLw p l s m args c E b0 L xs) (hi : i + 5 ≤ L) (hk : k ≤ 580) (hcs : cells + 4 ≤ 603072 ∧ slots + 24 ≤ 7186538) (hV : gInv k M) (hI : gI E s M x H locs) (hl : lv_has ls 9 (gLv E b0 i))
    (kk : ∀ M2 x2 H2 locs2 ls2, gInv (k + 1) M2 → gI E s M2 x2 H2 locs2 → lv_has ls2 9 (gLv E b0 i) → W p l e room_1 s m args below meth c H2 locs2 (cells + 4) (slots + 24) Q (F0 m 3393 ls2 [])) : W p l e room_1 s m args below meth c H locs cells slots Q (F0 m 862 ls []) := by
  have hC := K.1
  have hx := hC.1
  have hb := hC.2.1
  have hst := K.2.2.1
  obtain ⟨oc, M1, z, b, M2, hf, hm, hz, ha, hV2⟩ := K_isMoored (xs (i + 1)) k M hk hV
  refine lv_aload_n hx hb dL_law_862 rfl (lv_at hl 1 rfl) ?_
  refine g_arg K hI (j := 1) (by omega) (by decide) (lv_at hl 0 rfl) (lv_at hl 5 rfl) dL_law_863 dL_law_864 dL_law_866 dL_law_867 dL_law_868 ?_
  refine lv_aload_n hx hb dL_law_869 rfl (lv_at hl 3 rfl) ?_
  refine g_callH (n := 3) hC K.2.1 hI (H_isMoored l hst E x hf ha) w747 w0 w746 w745 ⟨⟨by decide, by decide⟩, by decide +kernel⟩ ⟨rfl, rfl⟩ ⟨Nat.le_of_ble_eq_true rfl, Nat.le_of_ble_eq_true rfl⟩ rfl hl.1 rfl (Nat.le_of_ble_eq_true rfl) dL_law_870 ⟨show cells + 1 ≤ 603072 by omega, show slots + 6 ≤ 7186538 by omega⟩ (fun H locs hI => ?_)
  refine lv_istore (lv' := (6, .int z) :: gLv E b0 i) hx hb dL_law_873 hl (by decide) rfl (fun ls hl => ?_)
  refine lv_aload_n hx hb dL_law_875 rfl (lv_at hl 3 rfl) ?_
  refine g_arg K hI (j := 1) (by omega) (by decide) (lv_at hl 1 rfl) (lv_at hl 6 rfl) dL_law_876 dL_law_877 dL_law_879 dL_law_880 dL_law_881 ?_
  refine g_callVi hC hI (C_X7_isMoored l E _ hm) Y_X7_isMoored V_X7_isMoored w1521 (rcv_X7 hC hI) ⟨rfl, rfl⟩ ⟨Nat.le_of_ble_eq_true rfl, Nat.le_of_ble_eq_true rfl⟩ rfl hl.1 rfl (Nat.le_of_ble_eq_true rfl) dL_law_882 ⟨show cells + 1 ≤ 603072 by omega, show slots + 6 ≤ 7186538 by omega⟩ (fun H locs hI => ?_)
  refine lv_istore (lv' := (7, .int (gb b)) :: (6, .int z) :: gLv E b0 i) hx hb dL_law_885 hl (by decide) rfl (fun ls hl => ?_)
  refine g_tail_b K hI hz (fun h0 => ?_) hl ⟨show cells + 1 ≤ 603072 by omega, show slots + 6 ≤ 7186538 by omega⟩ (off := 2471) (by decide) dL_law_887 dL_law_888 dL_law_891 dL_law_893 dL_law_898 dL_law_900 dL_law_903 dL_law_904 dL_law_905 dL_law_906 dL_law_908 dL_law_911 dL_law_912 dL_law_915 dL_law_916 dL_law_917 dL_law_922 (fun H locs hI => ?_)
  · unfold gXo
    rw [if_pos h0]
    rfl
  · refine W.widen (k := cells + 4) (n := slots + 24) (by omega) (by omega) ?_
    exact kk M2 _ H locs ls hV2 hI (lv_sub hl [2, 3, 4, 5, 6, 7] rfl)
theorem dL_law_925 : decode cL_law 925 = .ok (.aload_n 1, 1) := by decide +kernel
theorem dL_law_926 : decode cL_law 926 = .ok (.aload_n 0, 1) := by decide +kernel
theorem dL_law_927 : decode cL_law 927 = .ok (.iload 5, 2) := by decide +kernel
theorem dL_law_929 : decode cL_law 929 = .ok (.iconst 1, 1) := by decide +kernel
theorem dL_law_930 : decode cL_law 930 = .ok (.iadd, 1) := by decide +kernel
theorem dL_law_931 : decode cL_law 931 = .ok (.iaload, 1) := by decide +kernel
theorem dL_law_932 : decode cL_law 932 = .ok (.aload_n 3, 1) := by decide +kernel
theorem dL_law_933 : decode cL_law 933 = .ok (.invokestatic 222, 3) := by decide +kernel
theorem dL_law_936 : decode cL_law 936 = .ok (.istore 6, 2) := by decide +kernel
theorem dL_law_938 : decode cL_law 938 = .ok (.aload_n 2, 1) := by decide +kernel
theorem dL_law_939 : decode cL_law 939 = .ok (.aload_n 0, 1) := by decide +kernel
theorem dL_law_940 : decode cL_law 940 = .ok (.iload 5, 2) := by decide +kernel
theorem dL_law_942 : decode cL_law 942 = .ok (.iconst 1, 1) := by decide +kernel
theorem dL_law_943 : decode cL_law 943 = .ok (.iadd, 1) := by decide +kernel
theorem dL_law_944 : decode cL_law 944 = .ok (.iaload, 1) := by decide +kernel
theorem dL_law_945 : decode cL_law 945 = .ok (.invokevirtual 224, 3) := by decide +kernel
theorem dL_law_948 : decode cL_law 948 = .ok (.istore 7, 2) := by decide +kernel
theorem dL_law_950 : decode cL_law 950 = .ok (.aload_n 2, 1) := by decide +kernel
theorem dL_law_951 : decode cL_law 951 = .ok (.invokevirtual 184, 3) := by decide +kernel
theorem dL_law_954 : decode cL_law 954 = .ok (.iload 6, 2) := by decide +kernel
theorem dL_law_956 : decode cL_law 956 = .ok (.if_icmp .eq 5, 3) := by decide +kernel
theorem dL_law_961 : decode cL_law 961 = .ok (.iload 6, 2) := by decide +kernel
theorem dL_law_963 : decode cL_law 963 = .ok (.ifCond .ne 15, 3) := by decide +kernel
theorem dL_law_966 : decode cL_law 966 = .ok (.aload_n 3, 1) := by decide +kernel
theorem dL_law_967 : decode cL_law 967 = .ok (.iconst 0, 1) := by decide +kernel
theorem dL_law_968 : decode cL_law 968 = .ok (.laload, 1) := by decide +kernel
theorem dL_law_969 : decode cL_law 969 = .ok (.iload 7, 2) := by decide +kernel
theorem dL_law_971 : decode cL_law 971 = .ok (.i2l, 1) := by decide +kernel
theorem dL_law_972 : decode cL_law 972 = .ok (.lcmp, 1) := by decide +kernel
theorem dL_law_973 : decode cL_law 973 = .ok (.ifCond .eq 5, 3) := by decide +kernel
theorem dL_law_978 : decode cL_law 978 = .ok (.goto 2415, 3) := by decide +kernel
set_option maxRecDepth 100000 in
set_option maxHeartbeats 4000000 in
theorem Lc_11 {p : Program} {l : Launch} {e : Env} {s : State} {m : MethodId} {args : Array Value} {below : List Frame} {meth : Method} {c : Code} {H : Heap} {locs : List Loc} {cells slots : Nat} {Q : State → Prop} {E : gE} {M : gM} {x : gX} {b0 L i k : Nat} {xs : Nat → Int32} {ls : Array Slot} (K : gLw p l s m args c E b0 L xs) (hi : i + 5 ≤ L) (hk : k ≤ 580) (hcs : cells + 4 ≤ 603072 ∧ slots + 24 ≤ 7186538) (hV : gInv k M) (hI : gI E s M x H locs) (hl : lv_has ls 9 (gLv E b0 i))
    (kk : ∀ M2 x2 H2 locs2 ls2, gInv (k + 1) M2 → gI E s M2 x2 H2 locs2 → lv_has ls2 9 (gLv E b0 i) → W p l e room_1 s m args below meth c H2 locs2 (cells + 4) (slots + 24) Q (F0 m 3393 ls2 [])) : W p l e room_1 s m args below meth c H locs cells slots Q (F0 m 925 ls []) := by
  have hC := K.1
  have hx := hC.1
  have hb := hC.2.1
  have hst := K.2.2.1
  obtain ⟨oc, M1, z, b, M2, hf, hm, hz, ha, hV2⟩ := K_draught (xs (i + 1)) k M hk hV
  refine lv_aload_n hx hb dL_law_925 rfl (lv_at hl 1 rfl) ?_
  refine g_arg K hI (j := 1) (by omega) (by decide) (lv_at hl 0 rfl) (lv_at hl 5 rfl) dL_law_926 dL_law_927 dL_law_929 dL_law_930 dL_law_931 ?_
  refine lv_aload_n hx hb dL_law_932 rfl (lv_at hl 3 rfl) ?_
  refine g_callH (n := 3) hC K.2.1 hI (H_draught l hst E x hf ha) w759 w0 w758 w757 ⟨⟨by decide, by decide⟩, by decide +kernel⟩ ⟨rfl, rfl⟩ ⟨Nat.le_of_ble_eq_true rfl, Nat.le_of_ble_eq_true rfl⟩ rfl hl.1 rfl (Nat.le_of_ble_eq_true rfl) dL_law_933 ⟨show cells + 2 ≤ 603072 by omega, show slots + 12 ≤ 7186538 by omega⟩ (fun H locs hI => ?_)
  refine lv_istore (lv' := (6, .int z) :: gLv E b0 i) hx hb dL_law_936 hl (by decide) rfl (fun ls hl => ?_)
  refine lv_aload_n hx hb dL_law_938 rfl (lv_at hl 3 rfl) ?_
  refine g_arg K hI (j := 1) (by omega) (by decide) (lv_at hl 1 rfl) (lv_at hl 6 rfl) dL_law_939 dL_law_940 dL_law_942 dL_law_943 dL_law_944 ?_
  refine g_callVi hC hI (C_X7_draught l E _ hm) Y_X7_draught V_X7_draught w1529 (rcv_X7 hC hI) ⟨rfl, rfl⟩ ⟨Nat.le_of_ble_eq_true rfl, Nat.le_of_ble_eq_true rfl⟩ rfl hl.1 rfl (Nat.le_of_ble_eq_true rfl) dL_law_945 ⟨show cells + 2 ≤ 603072 by omega, show slots + 12 ≤ 7186538 by omega⟩ (fun H locs hI => ?_)
  refine lv_istore (lv' := (7, .int b) :: (6, .int z) :: gLv E b0 i) hx hb dL_law_948 hl (by decide) rfl (fun ls hl => ?_)
  refine g_tail_i K hI hz (fun h0 => ?_) hl ⟨show cells + 2 ≤ 603072 by omega, show slots + 12 ≤ 7186538 by omega⟩ (off := 2415) (by decide) dL_law_950 dL_law_951 dL_law_954 dL_law_956 dL_law_961 dL_law_963 dL_law_966 dL_law_967 dL_law_968 dL_law_969 dL_law_971 dL_law_972 dL_law_973 dL_law_978 (fun H locs hI => ?_)
  · unfold gXo
    rw [if_pos h0]
    rfl
  · refine W.widen (k := cells + 4) (n := slots + 24) (by omega) (by omega) ?_
    exact kk M2 _ H locs ls hV2 hI (lv_sub hl [2, 3, 4, 5, 6, 7] rfl)
theorem dL_law_981 : decode cL_law 981 = .ok (.aload_n 1, 1) := by decide +kernel
theorem dL_law_982 : decode cL_law 982 = .ok (.aload_n 0, 1) := by decide +kernel
theorem dL_law_983 : decode cL_law 983 = .ok (.iload 5, 2) := by decide +kernel
theorem dL_law_985 : decode cL_law 985 = .ok (.iconst 1, 1) := by decide +kernel
theorem dL_law_986 : decode cL_law 986 = .ok (.iadd, 1) := by decide +kernel
theorem dL_law_987 : decode cL_law 987 = .ok (.iaload, 1) := by decide +kernel
theorem dL_law_988 : decode cL_law 988 = .ok (.aload_n 3, 1) := by decide +kernel
theorem dL_law_989 : decode cL_law 989 = .ok (.invokestatic 225, 3) := by decide +kernel
theorem dL_law_992 : decode cL_law 992 = .ok (.istore 6, 2) := by decide +kernel
theorem dL_law_994 : decode cL_law 994 = .ok (.aload_n 2, 1) := by decide +kernel
theorem dL_law_995 : decode cL_law 995 = .ok (.aload_n 0, 1) := by decide +kernel
theorem dL_law_996 : decode cL_law 996 = .ok (.iload 5, 2) := by decide +kernel
theorem dL_law_998 : decode cL_law 998 = .ok (.iconst 1, 1) := by decide +kernel
theorem dL_law_999 : decode cL_law 999 = .ok (.iadd, 1) := by decide +kernel
theorem dL_law_1000 : decode cL_law 1000 = .ok (.iaload, 1) := by decide +kernel
theorem dL_law_1001 : decode cL_law 1001 = .ok (.invokevirtual 227, 3) := by decide +kernel
theorem dL_law_1004 : decode cL_law 1004 = .ok (.istore 7, 2) := by decide +kernel
theorem dL_law_1006 : decode cL_law 1006 = .ok (.aload_n 2, 1) := by decide +kernel
theorem dL_law_1007 : decode cL_law 1007 = .ok (.invokevirtual 184, 3) := by decide +kernel
theorem dL_law_1010 : decode cL_law 1010 = .ok (.iload 6, 2) := by decide +kernel
theorem dL_law_1012 : decode cL_law 1012 = .ok (.if_icmp .eq 5, 3) := by decide +kernel
theorem dL_law_1017 : decode cL_law 1017 = .ok (.iload 6, 2) := by decide +kernel
theorem dL_law_1019 : decode cL_law 1019 = .ok (.ifCond .ne 15, 3) := by decide +kernel
theorem dL_law_1022 : decode cL_law 1022 = .ok (.aload_n 3, 1) := by decide +kernel
theorem dL_law_1023 : decode cL_law 1023 = .ok (.iconst 0, 1) := by decide +kernel
theorem dL_law_1024 : decode cL_law 1024 = .ok (.laload, 1) := by decide +kernel
theorem dL_law_1025 : decode cL_law 1025 = .ok (.iload 7, 2) := by decide +kernel
theorem dL_law_1027 : decode cL_law 1027 = .ok (.i2l, 1) := by decide +kernel
theorem dL_law_1028 : decode cL_law 1028 = .ok (.lcmp, 1) := by decide +kernel
theorem dL_law_1029 : decode cL_law 1029 = .ok (.ifCond .eq 5, 3) := by decide +kernel
theorem dL_law_1034 : decode cL_law 1034 = .ok (.goto 2359, 3) := by decide +kernel
set_option maxRecDepth 100000 in
set_option maxHeartbeats 4000000 in
theorem Lc_12 {p : Program} {l : Launch} {e : Env} {s : State} {m : MethodId} {args : Array Value} {below : List Frame} {meth : Method} {c : Code} {H : Heap} {locs : List Loc} {cells slots : Nat} {Q : State → Prop} {E : gE} {M : gM} {x : gX} {b0 L i k : Nat} {xs : Nat → Int32} {ls : Array Slot} (K : gLw p l s m args c E b0 L xs) (hi : i + 5 ≤ L) (hk : k ≤ 580) (hcs : cells + 4 ≤ 603072 ∧ slots + 24 ≤ 7186538) (hV : gInv k M) (hI : gI E s M x H locs) (hl : lv_has ls 9 (gLv E b0 i))
    (kk : ∀ M2 x2 H2 locs2 ls2, gInv (k + 1) M2 → gI E s M2 x2 H2 locs2 → lv_has ls2 9 (gLv E b0 i) → W p l e room_1 s m args below meth c H2 locs2 (cells + 4) (slots + 24) Q (F0 m 3393 ls2 [])) : W p l e room_1 s m args below meth c H locs cells slots Q (F0 m 981 ls []) := by
  have hC := K.1
  have hx := hC.1
  have hb := hC.2.1
  have hst := K.2.2.1
  obtain ⟨oc, M1, z, b, M2, hf, hm, hz, ha, hV2⟩ := K_dueHour (xs (i + 1)) k M hk hV
  refine lv_aload_n hx hb dL_law_981 rfl (lv_at hl 1 rfl) ?_
  refine g_arg K hI (j := 1) (by omega) (by decide) (lv_at hl 0 rfl) (lv_at hl 5 rfl) dL_law_982 dL_law_983 dL_law_985 dL_law_986 dL_law_987 ?_
  refine lv_aload_n hx hb dL_law_988 rfl (lv_at hl 3 rfl) ?_
  refine g_callH (n := 3) hC K.2.1 hI (H_dueHour l hst E x hf ha) w770 w0 w769 w768 ⟨⟨by decide, by decide⟩, by decide +kernel⟩ ⟨rfl, rfl⟩ ⟨Nat.le_of_ble_eq_true rfl, Nat.le_of_ble_eq_true rfl⟩ rfl hl.1 rfl (Nat.le_of_ble_eq_true rfl) dL_law_989 ⟨show cells + 2 ≤ 603072 by omega, show slots + 12 ≤ 7186538 by omega⟩ (fun H locs hI => ?_)
  refine lv_istore (lv' := (6, .int z) :: gLv E b0 i) hx hb dL_law_992 hl (by decide) rfl (fun ls hl => ?_)
  refine lv_aload_n hx hb dL_law_994 rfl (lv_at hl 3 rfl) ?_
  refine g_arg K hI (j := 1) (by omega) (by decide) (lv_at hl 1 rfl) (lv_at hl 6 rfl) dL_law_995 dL_law_996 dL_law_998 dL_law_999 dL_law_1000 ?_
  refine g_callVi hC hI (C_X7_dueHour l E _ hm) Y_X7_dueHour V_X7_dueHour w1541 (rcv_X7 hC hI) ⟨rfl, rfl⟩ ⟨Nat.le_of_ble_eq_true rfl, Nat.le_of_ble_eq_true rfl⟩ rfl hl.1 rfl (Nat.le_of_ble_eq_true rfl) dL_law_1001 ⟨show cells + 2 ≤ 603072 by omega, show slots + 12 ≤ 7186538 by omega⟩ (fun H locs hI => ?_)
  refine lv_istore (lv' := (7, .int b) :: (6, .int z) :: gLv E b0 i) hx hb dL_law_1004 hl (by decide) rfl (fun ls hl => ?_)
  refine g_tail_i K hI hz (fun h0 => ?_) hl ⟨show cells + 2 ≤ 603072 by omega, show slots + 12 ≤ 7186538 by omega⟩ (off := 2359) (by decide) dL_law_1006 dL_law_1007 dL_law_1010 dL_law_1012 dL_law_1017 dL_law_1019 dL_law_1022 dL_law_1023 dL_law_1024 dL_law_1025 dL_law_1027 dL_law_1028 dL_law_1029 dL_law_1034 (fun H locs hI => ?_)
  · unfold gXo
    rw [if_pos h0]
    rfl
  · refine W.widen (k := cells + 4) (n := slots + 24) (by omega) (by omega) ?_
    exact kk M2 _ H locs ls hV2 hI (lv_sub hl [2, 3, 4, 5, 6, 7] rfl)
theorem dL_law_1037 : decode cL_law 1037 = .ok (.aload_n 1, 1) := by decide +kernel
theorem dL_law_1038 : decode cL_law 1038 = .ok (.aload_n 0, 1) := by decide +kernel
theorem dL_law_1039 : decode cL_law 1039 = .ok (.iload 5, 2) := by decide +kernel
theorem dL_law_1041 : decode cL_law 1041 = .ok (.iconst 1, 1) := by decide +kernel
theorem dL_law_1042 : decode cL_law 1042 = .ok (.iadd, 1) := by decide +kernel
theorem dL_law_1043 : decode cL_law 1043 = .ok (.iaload, 1) := by decide +kernel
theorem dL_law_1044 : decode cL_law 1044 = .ok (.aload_n 3, 1) := by decide +kernel
theorem dL_law_1045 : decode cL_law 1045 = .ok (.invokestatic 228, 3) := by decide +kernel
theorem dL_law_1048 : decode cL_law 1048 = .ok (.istore 6, 2) := by decide +kernel
theorem dL_law_1050 : decode cL_law 1050 = .ok (.aload_n 2, 1) := by decide +kernel
theorem dL_law_1051 : decode cL_law 1051 = .ok (.aload_n 0, 1) := by decide +kernel
theorem dL_law_1052 : decode cL_law 1052 = .ok (.iload 5, 2) := by decide +kernel
theorem dL_law_1054 : decode cL_law 1054 = .ok (.iconst 1, 1) := by decide +kernel
theorem dL_law_1055 : decode cL_law 1055 = .ok (.iadd, 1) := by decide +kernel
theorem dL_law_1056 : decode cL_law 1056 = .ok (.iaload, 1) := by decide +kernel
theorem dL_law_1057 : decode cL_law 1057 = .ok (.invokevirtual 230, 3) := by decide +kernel
theorem dL_law_1060 : decode cL_law 1060 = .ok (.istore 7, 2) := by decide +kernel
theorem dL_law_1062 : decode cL_law 1062 = .ok (.aload_n 2, 1) := by decide +kernel
theorem dL_law_1063 : decode cL_law 1063 = .ok (.invokevirtual 184, 3) := by decide +kernel
theorem dL_law_1066 : decode cL_law 1066 = .ok (.iload 6, 2) := by decide +kernel
theorem dL_law_1068 : decode cL_law 1068 = .ok (.if_icmp .eq 5, 3) := by decide +kernel
theorem dL_law_1073 : decode cL_law 1073 = .ok (.iload 6, 2) := by decide +kernel
theorem dL_law_1075 : decode cL_law 1075 = .ok (.ifCond .ne 22, 3) := by decide +kernel
theorem dL_law_1078 : decode cL_law 1078 = .ok (.aload_n 3, 1) := by decide +kernel
theorem dL_law_1079 : decode cL_law 1079 = .ok (.iconst 0, 1) := by decide +kernel
theorem dL_law_1080 : decode cL_law 1080 = .ok (.laload, 1) := by decide +kernel
theorem dL_law_1081 : decode cL_law 1081 = .ok (.iload 7, 2) := by decide +kernel
theorem dL_law_1083 : decode cL_law 1083 = .ok (.ifCond .eq 7, 3) := by decide +kernel
theorem dL_law_1086 : decode cL_law 1086 = .ok (.lconst 1, 1) := by decide +kernel
theorem dL_law_1087 : decode cL_law 1087 = .ok (.goto 4, 3) := by decide +kernel
theorem dL_law_1090 : decode cL_law 1090 = .ok (.lconst 0, 1) := by decide +kernel
theorem dL_law_1091 : decode cL_law 1091 = .ok (.lcmp, 1) := by decide +kernel
theorem dL_law_1092 : decode cL_law 1092 = .ok (.ifCond .eq 5, 3) := by decide +kernel
theorem dL_law_1097 : decode cL_law 1097 = .ok (.goto 2296, 3) := by decide +kernel
set_option maxRecDepth 100000 in
set_option maxHeartbeats 4000000 in
theorem Lc_13 {p : Program} {l : Launch} {e : Env} {s : State} {m : MethodId} {args : Array Value} {below : List Frame} {meth : Method} {c : Code} {H : Heap} {locs : List Loc} {cells slots : Nat} {Q : State → Prop} {E : gE} {M : gM} {x : gX} {b0 L i k : Nat} {xs : Nat → Int32} {ls : Array Slot} (K : gLw p l s m args c E b0 L xs) (hi : i + 5 ≤ L) (hk : k ≤ 580) (hcs : cells + 4 ≤ 603072 ∧ slots + 24 ≤ 7186538) (hV : gInv k M) (hI : gI E s M x H locs) (hl : lv_has ls 9 (gLv E b0 i))
    (kk : ∀ M2 x2 H2 locs2 ls2, gInv (k + 1) M2 → gI E s M2 x2 H2 locs2 → lv_has ls2 9 (gLv E b0 i) → W p l e room_1 s m args below meth c H2 locs2 (cells + 4) (slots + 24) Q (F0 m 3393 ls2 [])) : W p l e room_1 s m args below meth c H locs cells slots Q (F0 m 1037 ls []) := by
  have hC := K.1
  have hx := hC.1
  have hb := hC.2.1
  have hst := K.2.2.1
  obtain ⟨oc, M1, z, b, M2, hf, hm, hz, ha, hV2⟩ := K_floats (xs (i + 1)) k M hk hV
  refine lv_aload_n hx hb dL_law_1037 rfl (lv_at hl 1 rfl) ?_
  refine g_arg K hI (j := 1) (by omega) (by decide) (lv_at hl 0 rfl) (lv_at hl 5 rfl) dL_law_1038 dL_law_1039 dL_law_1041 dL_law_1042 dL_law_1043 ?_
  refine lv_aload_n hx hb dL_law_1044 rfl (lv_at hl 3 rfl) ?_
  refine g_callH (n := 3) hC K.2.1 hI (H_floats l hst E x hf ha) w777 w0 w776 w775 ⟨⟨by decide, by decide⟩, by decide +kernel⟩ ⟨rfl, rfl⟩ ⟨Nat.le_of_ble_eq_true rfl, Nat.le_of_ble_eq_true rfl⟩ rfl hl.1 rfl (Nat.le_of_ble_eq_true rfl) dL_law_1045 ⟨show cells + 2 ≤ 603072 by omega, show slots + 12 ≤ 7186538 by omega⟩ (fun H locs hI => ?_)
  refine lv_istore (lv' := (6, .int z) :: gLv E b0 i) hx hb dL_law_1048 hl (by decide) rfl (fun ls hl => ?_)
  refine lv_aload_n hx hb dL_law_1050 rfl (lv_at hl 3 rfl) ?_
  refine g_arg K hI (j := 1) (by omega) (by decide) (lv_at hl 1 rfl) (lv_at hl 6 rfl) dL_law_1051 dL_law_1052 dL_law_1054 dL_law_1055 dL_law_1056 ?_
  refine g_callVi hC hI (C_X7_floats l E _ hm) Y_X7_floats V_X7_floats w1545 (rcv_X7 hC hI) ⟨rfl, rfl⟩ ⟨Nat.le_of_ble_eq_true rfl, Nat.le_of_ble_eq_true rfl⟩ rfl hl.1 rfl (Nat.le_of_ble_eq_true rfl) dL_law_1057 ⟨show cells + 2 ≤ 603072 by omega, show slots + 12 ≤ 7186538 by omega⟩ (fun H locs hI => ?_)
  refine lv_istore (lv' := (7, .int (gb b)) :: (6, .int z) :: gLv E b0 i) hx hb dL_law_1060 hl (by decide) rfl (fun ls hl => ?_)
  refine g_tail_b K hI hz (fun h0 => ?_) hl ⟨show cells + 2 ≤ 603072 by omega, show slots + 12 ≤ 7186538 by omega⟩ (off := 2296) (by decide) dL_law_1062 dL_law_1063 dL_law_1066 dL_law_1068 dL_law_1073 dL_law_1075 dL_law_1078 dL_law_1079 dL_law_1080 dL_law_1081 dL_law_1083 dL_law_1086 dL_law_1087 dL_law_1090 dL_law_1091 dL_law_1092 dL_law_1097 (fun H locs hI => ?_)
  · unfold gXo
    rw [if_pos h0]
    rfl
  · refine W.widen (k := cells + 4) (n := slots + 24) (by omega) (by omega) ?_
    exact kk M2 _ H locs ls hV2 hI (lv_sub hl [2, 3, 4, 5, 6, 7] rfl)
theorem dL_law_1100 : decode cL_law 1100 = .ok (.aload_n 1, 1) := by decide +kernel
theorem dL_law_1101 : decode cL_law 1101 = .ok (.aload_n 0, 1) := by decide +kernel
theorem dL_law_1102 : decode cL_law 1102 = .ok (.iload 5, 2) := by decide +kernel
theorem dL_law_1104 : decode cL_law 1104 = .ok (.iconst 1, 1) := by decide +kernel
theorem dL_law_1105 : decode cL_law 1105 = .ok (.iadd, 1) := by decide +kernel
theorem dL_law_1106 : decode cL_law 1106 = .ok (.iaload, 1) := by decide +kernel
theorem dL_law_1107 : decode cL_law 1107 = .ok (.aload_n 3, 1) := by decide +kernel
theorem dL_law_1108 : decode cL_law 1108 = .ok (.invokestatic 231, 3) := by decide +kernel
theorem dL_law_1111 : decode cL_law 1111 = .ok (.istore 6, 2) := by decide +kernel
theorem dL_law_1113 : decode cL_law 1113 = .ok (.aload_n 2, 1) := by decide +kernel
theorem dL_law_1114 : decode cL_law 1114 = .ok (.aload_n 0, 1) := by decide +kernel
theorem dL_law_1115 : decode cL_law 1115 = .ok (.iload 5, 2) := by decide +kernel
theorem dL_law_1117 : decode cL_law 1117 = .ok (.iconst 1, 1) := by decide +kernel
theorem dL_law_1118 : decode cL_law 1118 = .ok (.iadd, 1) := by decide +kernel
theorem dL_law_1119 : decode cL_law 1119 = .ok (.iaload, 1) := by decide +kernel
theorem dL_law_1120 : decode cL_law 1120 = .ok (.invokevirtual 233, 3) := by decide +kernel
theorem dL_law_1123 : decode cL_law 1123 = .ok (.istore 7, 2) := by decide +kernel
theorem dL_law_1125 : decode cL_law 1125 = .ok (.aload_n 2, 1) := by decide +kernel
theorem dL_law_1126 : decode cL_law 1126 = .ok (.invokevirtual 184, 3) := by decide +kernel
theorem dL_law_1129 : decode cL_law 1129 = .ok (.iload 6, 2) := by decide +kernel
theorem dL_law_1131 : decode cL_law 1131 = .ok (.if_icmp .eq 5, 3) := by decide +kernel
theorem dL_law_1136 : decode cL_law 1136 = .ok (.iload 6, 2) := by decide +kernel
theorem dL_law_1138 : decode cL_law 1138 = .ok (.ifCond .ne 15, 3) := by decide +kernel
theorem dL_law_1141 : decode cL_law 1141 = .ok (.aload_n 3, 1) := by decide +kernel
theorem dL_law_1142 : decode cL_law 1142 = .ok (.iconst 0, 1) := by decide +kernel
theorem dL_law_1143 : decode cL_law 1143 = .ok (.laload, 1) := by decide +kernel
theorem dL_law_1144 : decode cL_law 1144 = .ok (.iload 7, 2) := by decide +kernel
theorem dL_law_1146 : decode cL_law 1146 = .ok (.i2l, 1) := by decide +kernel
theorem dL_law_1147 : decode cL_law 1147 = .ok (.lcmp, 1) := by decide +kernel
theorem dL_law_1148 : decode cL_law 1148 = .ok (.ifCond .eq 5, 3) := by decide +kernel
theorem dL_law_1153 : decode cL_law 1153 = .ok (.goto 2240, 3) := by decide +kernel
set_option maxRecDepth 100000 in
set_option maxHeartbeats 4000000 in
theorem Lc_14 {p : Program} {l : Launch} {e : Env} {s : State} {m : MethodId} {args : Array Value} {below : List Frame} {meth : Method} {c : Code} {H : Heap} {locs : List Loc} {cells slots : Nat} {Q : State → Prop} {E : gE} {M : gM} {x : gX} {b0 L i k : Nat} {xs : Nat → Int32} {ls : Array Slot} (K : gLw p l s m args c E b0 L xs) (hi : i + 5 ≤ L) (hk : k ≤ 580) (hcs : cells + 4 ≤ 603072 ∧ slots + 24 ≤ 7186538) (hV : gInv k M) (hI : gI E s M x H locs) (hl : lv_has ls 9 (gLv E b0 i))
    (kk : ∀ M2 x2 H2 locs2 ls2, gInv (k + 1) M2 → gI E s M2 x2 H2 locs2 → lv_has ls2 9 (gLv E b0 i) → W p l e room_1 s m args below meth c H2 locs2 (cells + 4) (slots + 24) Q (F0 m 3393 ls2 [])) : W p l e room_1 s m args below meth c H locs cells slots Q (F0 m 1100 ls []) := by
  have hC := K.1
  have hx := hC.1
  have hb := hC.2.1
  have hst := K.2.2.1
  obtain ⟨oc, M1, z, b, M2, hf, hm, hz, ha, hV2⟩ := K_hoursUntilFloating (xs (i + 1)) k M hk hV
  refine lv_aload_n hx hb dL_law_1100 rfl (lv_at hl 1 rfl) ?_
  refine g_arg K hI (j := 1) (by omega) (by decide) (lv_at hl 0 rfl) (lv_at hl 5 rfl) dL_law_1101 dL_law_1102 dL_law_1104 dL_law_1105 dL_law_1106 ?_
  refine lv_aload_n hx hb dL_law_1107 rfl (lv_at hl 3 rfl) ?_
  refine g_callH (n := 3) hC K.2.1 hI (H_hoursUntilFloating l hst E x hf ha) w785 w0 w784 w783 ⟨⟨by decide, by decide⟩, by decide +kernel⟩ ⟨rfl, rfl⟩ ⟨Nat.le_of_ble_eq_true rfl, Nat.le_of_ble_eq_true rfl⟩ rfl hl.1 rfl (Nat.le_of_ble_eq_true rfl) dL_law_1108 ⟨show cells + 2 ≤ 603072 by omega, show slots + 12 ≤ 7186538 by omega⟩ (fun H locs hI => ?_)
  refine lv_istore (lv' := (6, .int z) :: gLv E b0 i) hx hb dL_law_1111 hl (by decide) rfl (fun ls hl => ?_)
  refine lv_aload_n hx hb dL_law_1113 rfl (lv_at hl 3 rfl) ?_
  refine g_arg K hI (j := 1) (by omega) (by decide) (lv_at hl 1 rfl) (lv_at hl 6 rfl) dL_law_1114 dL_law_1115 dL_law_1117 dL_law_1118 dL_law_1119 ?_
  refine g_callVi hC hI (C_X7_hoursUntilFloating l E _ hm) Y_X7_hoursUntilFloating V_X7_hoursUntilFloating w1549 (rcv_X7 hC hI) ⟨rfl, rfl⟩ ⟨Nat.le_of_ble_eq_true rfl, Nat.le_of_ble_eq_true rfl⟩ rfl hl.1 rfl (Nat.le_of_ble_eq_true rfl) dL_law_1120 ⟨show cells + 2 ≤ 603072 by omega, show slots + 12 ≤ 7186538 by omega⟩ (fun H locs hI => ?_)
  refine lv_istore (lv' := (7, .int b) :: (6, .int z) :: gLv E b0 i) hx hb dL_law_1123 hl (by decide) rfl (fun ls hl => ?_)
  refine g_tail_i K hI hz (fun h0 => ?_) hl ⟨show cells + 2 ≤ 603072 by omega, show slots + 12 ≤ 7186538 by omega⟩ (off := 2240) (by decide) dL_law_1125 dL_law_1126 dL_law_1129 dL_law_1131 dL_law_1136 dL_law_1138 dL_law_1141 dL_law_1142 dL_law_1143 dL_law_1144 dL_law_1146 dL_law_1147 dL_law_1148 dL_law_1153 (fun H locs hI => ?_)
  · unfold gXo
    rw [if_pos h0]
    rfl
  · refine W.widen (k := cells + 4) (n := slots + 24) (by omega) (by omega) ?_
    exact kk M2 _ H locs ls hV2 hI (lv_sub hl [2, 3, 4, 5, 6, 7] rfl)
theorem dL_law_1156 : decode cL_law 1156 = .ok (.aload_n 1, 1) := by decide +kernel
theorem dL_law_1157 : decode cL_law 1157 = .ok (.aload_n 0, 1) := by decide +kernel
theorem dL_law_1158 : decode cL_law 1158 = .ok (.iload 5, 2) := by decide +kernel
theorem dL_law_1160 : decode cL_law 1160 = .ok (.iconst 1, 1) := by decide +kernel
theorem dL_law_1161 : decode cL_law 1161 = .ok (.iadd, 1) := by decide +kernel
theorem dL_law_1162 : decode cL_law 1162 = .ok (.iaload, 1) := by decide +kernel
theorem dL_law_1163 : decode cL_law 1163 = .ok (.aload_n 3, 1) := by decide +kernel
theorem dL_law_1164 : decode cL_law 1164 = .ok (.invokestatic 234, 3) := by decide +kernel
theorem dL_law_1167 : decode cL_law 1167 = .ok (.istore 6, 2) := by decide +kernel
theorem dL_law_1169 : decode cL_law 1169 = .ok (.aload_n 2, 1) := by decide +kernel
theorem dL_law_1170 : decode cL_law 1170 = .ok (.aload_n 0, 1) := by decide +kernel
theorem dL_law_1171 : decode cL_law 1171 = .ok (.iload 5, 2) := by decide +kernel
theorem dL_law_1173 : decode cL_law 1173 = .ok (.iconst 1, 1) := by decide +kernel
theorem dL_law_1174 : decode cL_law 1174 = .ok (.iadd, 1) := by decide +kernel
theorem dL_law_1175 : decode cL_law 1175 = .ok (.iaload, 1) := by decide +kernel
theorem dL_law_1176 : decode cL_law 1176 = .ok (.invokevirtual 236, 3) := by decide +kernel
theorem dL_law_1179 : decode cL_law 1179 = .ok (.istore 7, 2) := by decide +kernel
theorem dL_law_1181 : decode cL_law 1181 = .ok (.aload_n 2, 1) := by decide +kernel
theorem dL_law_1182 : decode cL_law 1182 = .ok (.invokevirtual 184, 3) := by decide +kernel
theorem dL_law_1185 : decode cL_law 1185 = .ok (.iload 6, 2) := by decide +kernel
theorem dL_law_1187 : decode cL_law 1187 = .ok (.if_icmp .eq 5, 3) := by decide +kernel
theorem dL_law_1192 : decode cL_law 1192 = .ok (.iload 6, 2) := by decide +kernel
theorem dL_law_1194 : decode cL_law 1194 = .ok (.ifCond .ne 15, 3) := by decide +kernel
theorem dL_law_1197 : decode cL_law 1197 = .ok (.aload_n 3, 1) := by decide +kernel
theorem dL_law_1198 : decode cL_law 1198 = .ok (.iconst 0, 1) := by decide +kernel
theorem dL_law_1199 : decode cL_law 1199 = .ok (.laload, 1) := by decide +kernel
theorem dL_law_1200 : decode cL_law 1200 = .ok (.iload 7, 2) := by decide +kernel
theorem dL_law_1202 : decode cL_law 1202 = .ok (.i2l, 1) := by decide +kernel
theorem dL_law_1203 : decode cL_law 1203 = .ok (.lcmp, 1) := by decide +kernel
theorem dL_law_1204 : decode cL_law 1204 = .ok (.ifCond .eq 5, 3) := by decide +kernel
theorem dL_law_1209 : decode cL_law 1209 = .ok (.goto 2184, 3) := by decide +kernel
set_option maxRecDepth 100000 in
set_option maxHeartbeats 4000000 in
theorem Lc_15 {p : Program} {l : Launch} {e : Env} {s : State} {m : MethodId} {args : Array Value} {below : List Frame} {meth : Method} {c : Code} {H : Heap} {locs : List Loc} {cells slots : Nat} {Q : State → Prop} {E : gE} {M : gM} {x : gX} {b0 L i k : Nat} {xs : Nat → Int32} {ls : Array Slot} (K : gLw p l s m args c E b0 L xs) (hi : i + 5 ≤ L) (hk : k ≤ 580) (hcs : cells + 4 ≤ 603072 ∧ slots + 24 ≤ 7186538) (hV : gInv k M) (hI : gI E s M x H locs) (hl : lv_has ls 9 (gLv E b0 i))
    (kk : ∀ M2 x2 H2 locs2 ls2, gInv (k + 1) M2 → gI E s M2 x2 H2 locs2 → lv_has ls2 9 (gLv E b0 i) → W p l e room_1 s m args below meth c H2 locs2 (cells + 4) (slots + 24) Q (F0 m 3393 ls2 [])) : W p l e room_1 s m args below meth c H locs cells slots Q (F0 m 1156 ls []) := by
  have hC := K.1
  have hx := hC.1
  have hb := hC.2.1
  have hst := K.2.2.1
  obtain ⟨oc, M1, z, b, M2, hf, hm, hz, ha, hV2⟩ := K_hoursUntilFloatingByTide (xs (i + 1)) k M hk hV
  refine lv_aload_n hx hb dL_law_1156 rfl (lv_at hl 1 rfl) ?_
  refine g_arg K hI (j := 1) (by omega) (by decide) (lv_at hl 0 rfl) (lv_at hl 5 rfl) dL_law_1157 dL_law_1158 dL_law_1160 dL_law_1161 dL_law_1162 ?_
  refine lv_aload_n hx hb dL_law_1163 rfl (lv_at hl 3 rfl) ?_
  refine g_callH (n := 3) hC K.2.1 hI (H_hoursUntilFloatingByTide l hst E x hf ha) w793 w0 w792 w791 ⟨⟨by decide, by decide⟩, by decide +kernel⟩ ⟨rfl, rfl⟩ ⟨Nat.le_of_ble_eq_true rfl, Nat.le_of_ble_eq_true rfl⟩ rfl hl.1 rfl (Nat.le_of_ble_eq_true rfl) dL_law_1164 ⟨show cells + 2 ≤ 603072 by omega, show slots + 12 ≤ 7186538 by omega⟩ (fun H locs hI => ?_)
  refine lv_istore (lv' := (6, .int z) :: gLv E b0 i) hx hb dL_law_1167 hl (by decide) rfl (fun ls hl => ?_)
  refine lv_aload_n hx hb dL_law_1169 rfl (lv_at hl 3 rfl) ?_
  refine g_arg K hI (j := 1) (by omega) (by decide) (lv_at hl 1 rfl) (lv_at hl 6 rfl) dL_law_1170 dL_law_1171 dL_law_1173 dL_law_1174 dL_law_1175 ?_
  refine g_callVi hC hI (C_X7_hoursUntilFloatingByTide l E _ hm) Y_X7_hoursUntilFloatingByTide V_X7_hoursUntilFloatingByTide w1553 (rcv_X7 hC hI) ⟨rfl, rfl⟩ ⟨Nat.le_of_ble_eq_true rfl, Nat.le_of_ble_eq_true rfl⟩ rfl hl.1 rfl (Nat.le_of_ble_eq_true rfl) dL_law_1176 ⟨show cells + 2 ≤ 603072 by omega, show slots + 12 ≤ 7186538 by omega⟩ (fun H locs hI => ?_)
  refine lv_istore (lv' := (7, .int b) :: (6, .int z) :: gLv E b0 i) hx hb dL_law_1179 hl (by decide) rfl (fun ls hl => ?_)
  refine g_tail_i K hI hz (fun h0 => ?_) hl ⟨show cells + 2 ≤ 603072 by omega, show slots + 12 ≤ 7186538 by omega⟩ (off := 2184) (by decide) dL_law_1181 dL_law_1182 dL_law_1185 dL_law_1187 dL_law_1192 dL_law_1194 dL_law_1197 dL_law_1198 dL_law_1199 dL_law_1200 dL_law_1202 dL_law_1203 dL_law_1204 dL_law_1209 (fun H locs hI => ?_)
  · unfold gXo
    rw [if_pos h0]
    rfl
  · refine W.widen (k := cells + 4) (n := slots + 24) (by omega) (by omega) ?_
    exact kk M2 _ H locs ls hV2 hI (lv_sub hl [2, 3, 4, 5, 6, 7] rfl)
