theorem m878 : Cond.methodLink RL 32 yX11_inch ∈ gd := gd_mem 878 (by decide +kernel) (by decide +kernel)
theorem m879 : Cond.instanceMethod yX11_inch ∈ gd := gd_mem 879 (by decide +kernel) (by decide +kernel)
theorem m880 : Cond.selects RX11 yX11_inch yX11_inch ∈ gd := gd_mem 880 (by decide +kernel) (by decide +kernel)
theorem m881 : Cond.code yX11_inch cX11_inch 4 (some .int) ∈ gd := gd_mem 881 (by decide +kernel) (by decide +kernel)
theorem m898 : Cond.methodLink RL 37 yX11_length ∈ gd := gd_mem 898 (by decide +kernel) (by decide +kernel)
theorem m899 : Cond.instanceMethod yX11_length ∈ gd := gd_mem 899 (by decide +kernel) (by decide +kernel)
theorem m900 : Cond.selects RX11 yX11_length yX11_length ∈ gd := gd_mem 900 (by decide +kernel) (by decide +kernel)
theorem m901 : Cond.code yX11_length cX11_length 2 (some .int) ∈ gd := gd_mem 901 (by decide +kernel) (by decide +kernel)
theorem m903 : Cond.methodLink RL 41 yX11_line ∈ gd := gd_mem 903 (by decide +kernel) (by decide +kernel)
theorem m904 : Cond.instanceMethod yX11_line ∈ gd := gd_mem 904 (by decide +kernel) (by decide +kernel)
theorem m905 : Cond.selects RX11 yX11_line yX11_line ∈ gd := gd_mem 905 (by decide +kernel) (by decide +kernel)
theorem m906 : Cond.code yX11_line cX11_line 4 (some .int) ∈ gd := gd_mem 906 (by decide +kernel) (by decide +kernel)
theorem m945 : Cond.methodLink RL 45 yX11_gap ∈ gd := gd_mem 945 (by decide +kernel) (by decide +kernel)
theorem m946 : Cond.instanceMethod yX11_gap ∈ gd := gd_mem 946 (by decide +kernel) (by decide +kernel)
theorem m947 : Cond.selects RX11 yX11_gap yX11_gap ∈ gd := gd_mem 947 (by decide +kernel) (by decide +kernel)
theorem m948 : Cond.code yX11_gap cX11_gap 10 (some .int) ∈ gd := gd_mem 948 (by decide +kernel) (by decide +kernel)
theorem m1773 : Cond.methodLink RL 36 yX12_inch ∈ gd := gd_mem 1773 (by decide +kernel) (by decide +kernel)
theorem m1774 : Cond.instanceMethod yX12_inch ∈ gd := gd_mem 1774 (by decide +kernel) (by decide +kernel)
theorem m1775 : Cond.selects RX12 yX12_inch yX12_inch ∈ gd := gd_mem 1775 (by decide +kernel) (by decide +kernel)
theorem m1776 : Cond.code yX12_inch cX12_inch 5 (some .int) ∈ gd := gd_mem 1776 (by decide +kernel) (by decide +kernel)
theorem m1791 : Cond.methodLink RL 40 yX12_length ∈ gd := gd_mem 1791 (by decide +kernel) (by decide +kernel)
theorem m1792 : Cond.instanceMethod yX12_length ∈ gd := gd_mem 1792 (by decide +kernel) (by decide +kernel)
theorem m1793 : Cond.selects RX12 yX12_length yX12_length ∈ gd := gd_mem 1793 (by decide +kernel) (by decide +kernel)
theorem m1794 : Cond.code yX12_length cX12_length 2 (some .int) ∈ gd := gd_mem 1794 (by decide +kernel) (by decide +kernel)
theorem m1795 : Cond.methodLink RL 44 yX12_line ∈ gd := gd_mem 1795 (by decide +kernel) (by decide +kernel)
theorem m1796 : Cond.instanceMethod yX12_line ∈ gd := gd_mem 1796 (by decide +kernel) (by decide +kernel)
theorem m1797 : Cond.selects RX12 yX12_line yX12_line ∈ gd := gd_mem 1797 (by decide +kernel) (by decide +kernel)
theorem m1798 : Cond.code yX12_line cX12_line 4 (some .int) ∈ gd := gd_mem 1798 (by decide +kernel) (by decide +kernel)
theorem m1818 : Cond.methodLink RL 48 yX12_gap ∈ gd := gd_mem 1818 (by decide +kernel) (by decide +kernel)
theorem m1819 : Cond.instanceMethod yX12_gap ∈ gd := gd_mem 1819 (by decide +kernel) (by decide +kernel)
theorem m1820 : Cond.selects RX12 yX12_gap yX12_gap ∈ gd := gd_mem 1820 (by decide +kernel) (by decide +kernel)
theorem m1821 : Cond.code yX12_gap cX12_gap 10 (some .int) ∈ gd := gd_mem 1821 (by decide +kernel) (by decide +kernel)
theorem dL_law_326 : decode cL_law 326 = .ok (.aload_n 1, 1) := by decide +kernel
theorem dL_law_327 : decode cL_law 327 = .ok (.aload_n 0, 1) := by decide +kernel
theorem dL_law_328 : decode cL_law 328 = .ok (.iload_n 3, 1) := by decide +kernel
theorem dL_law_329 : decode cL_law 329 = .ok (.iconst 1, 1) := by decide +kernel
theorem dL_law_330 : decode cL_law 330 = .ok (.iadd, 1) := by decide +kernel
theorem dL_law_331 : decode cL_law 331 = .ok (.iaload, 1) := by decide +kernel
theorem dL_law_332 : decode cL_law 332 = .ok (.aload_n 0, 1) := by decide +kernel
theorem dL_law_333 : decode cL_law 333 = .ok (.iload_n 3, 1) := by decide +kernel
theorem dL_law_334 : decode cL_law 334 = .ok (.iconst 2, 1) := by decide +kernel
theorem dL_law_335 : decode cL_law 335 = .ok (.iadd, 1) := by decide +kernel
theorem dL_law_336 : decode cL_law 336 = .ok (.iaload, 1) := by decide +kernel
theorem dL_law_337 : decode cL_law 337 = .ok (.aload_n 0, 1) := by decide +kernel
theorem dL_law_338 : decode cL_law 338 = .ok (.iload_n 3, 1) := by decide +kernel
theorem dL_law_339 : decode cL_law 339 = .ok (.iconst 3, 1) := by decide +kernel
theorem dL_law_340 : decode cL_law 340 = .ok (.iadd, 1) := by decide +kernel
theorem dL_law_341 : decode cL_law 341 = .ok (.iaload, 1) := by decide +kernel
theorem dL_law_342 : decode cL_law 342 = .ok (.invokevirtual 32, 3) := by decide +kernel
theorem dL_law_345 : decode cL_law 345 = .ok (.pop, 1) := by decide +kernel
theorem dL_law_346 : decode cL_law 346 = .ok (.aload_n 2, 1) := by decide +kernel
theorem dL_law_347 : decode cL_law 347 = .ok (.aload_n 0, 1) := by decide +kernel
theorem dL_law_348 : decode cL_law 348 = .ok (.iload_n 3, 1) := by decide +kernel
theorem dL_law_349 : decode cL_law 349 = .ok (.iconst 1, 1) := by decide +kernel
theorem dL_law_350 : decode cL_law 350 = .ok (.iadd, 1) := by decide +kernel
theorem dL_law_351 : decode cL_law 351 = .ok (.iaload, 1) := by decide +kernel
theorem dL_law_352 : decode cL_law 352 = .ok (.aload_n 0, 1) := by decide +kernel
theorem dL_law_353 : decode cL_law 353 = .ok (.iload_n 3, 1) := by decide +kernel
theorem dL_law_354 : decode cL_law 354 = .ok (.iconst 2, 1) := by decide +kernel
theorem dL_law_355 : decode cL_law 355 = .ok (.iadd, 1) := by decide +kernel
theorem dL_law_356 : decode cL_law 356 = .ok (.iaload, 1) := by decide +kernel
theorem dL_law_357 : decode cL_law 357 = .ok (.aload_n 0, 1) := by decide +kernel
theorem dL_law_358 : decode cL_law 358 = .ok (.iload_n 3, 1) := by decide +kernel
theorem dL_law_359 : decode cL_law 359 = .ok (.iconst 3, 1) := by decide +kernel
theorem dL_law_360 : decode cL_law 360 = .ok (.iadd, 1) := by decide +kernel
theorem dL_law_361 : decode cL_law 361 = .ok (.iaload, 1) := by decide +kernel
theorem dL_law_362 : decode cL_law 362 = .ok (.invokevirtual 36, 3) := by decide +kernel
theorem dL_law_365 : decode cL_law 365 = .ok (.pop, 1) := by decide +kernel
theorem dL_law_366 : decode cL_law 366 = .ok (.goto 1275, 3) := by decide +kernel
theorem dL_law_369 : decode cL_law 369 = .ok (.aload_n 1, 1) := by decide +kernel
theorem dL_law_370 : decode cL_law 370 = .ok (.aload_n 0, 1) := by decide +kernel
theorem dL_law_371 : decode cL_law 371 = .ok (.iload_n 3, 1) := by decide +kernel
theorem dL_law_372 : decode cL_law 372 = .ok (.iconst 1, 1) := by decide +kernel
theorem dL_law_373 : decode cL_law 373 = .ok (.iadd, 1) := by decide +kernel
theorem dL_law_374 : decode cL_law 374 = .ok (.iaload, 1) := by decide +kernel
theorem dL_law_375 : decode cL_law 375 = .ok (.invokevirtual 37, 3) := by decide +kernel
theorem dL_law_378 : decode cL_law 378 = .ok (.aload_n 2, 1) := by decide +kernel
theorem dL_law_379 : decode cL_law 379 = .ok (.aload_n 0, 1) := by decide +kernel
theorem dL_law_380 : decode cL_law 380 = .ok (.iload_n 3, 1) := by decide +kernel
theorem dL_law_381 : decode cL_law 381 = .ok (.iconst 1, 1) := by decide +kernel
theorem dL_law_382 : decode cL_law 382 = .ok (.iadd, 1) := by decide +kernel
theorem dL_law_383 : decode cL_law 383 = .ok (.iaload, 1) := by decide +kernel
theorem dL_law_384 : decode cL_law 384 = .ok (.invokevirtual 40, 3) := by decide +kernel
theorem dL_law_387 : decode cL_law 387 = .ok (.if_icmp .eq 1254, 3) := by decide +kernel
theorem dL_law_392 : decode cL_law 392 = .ok (.aload_n 1, 1) := by decide +kernel
theorem dL_law_393 : decode cL_law 393 = .ok (.aload_n 0, 1) := by decide +kernel
theorem dL_law_394 : decode cL_law 394 = .ok (.iload_n 3, 1) := by decide +kernel
theorem dL_law_395 : decode cL_law 395 = .ok (.iconst 1, 1) := by decide +kernel
theorem dL_law_396 : decode cL_law 396 = .ok (.iadd, 1) := by decide +kernel
theorem dL_law_397 : decode cL_law 397 = .ok (.iaload, 1) := by decide +kernel
theorem dL_law_398 : decode cL_law 398 = .ok (.aload_n 0, 1) := by decide +kernel
theorem dL_law_399 : decode cL_law 399 = .ok (.iload_n 3, 1) := by decide +kernel
theorem dL_law_400 : decode cL_law 400 = .ok (.iconst 2, 1) := by decide +kernel
theorem dL_law_401 : decode cL_law 401 = .ok (.iadd, 1) := by decide +kernel
theorem dL_law_402 : decode cL_law 402 = .ok (.iaload, 1) := by decide +kernel
theorem dL_law_403 : decode cL_law 403 = .ok (.aload_n 0, 1) := by decide +kernel
theorem dL_law_404 : decode cL_law 404 = .ok (.iload_n 3, 1) := by decide +kernel
theorem dL_law_405 : decode cL_law 405 = .ok (.iconst 3, 1) := by decide +kernel
theorem dL_law_406 : decode cL_law 406 = .ok (.iadd, 1) := by decide +kernel
theorem dL_law_407 : decode cL_law 407 = .ok (.iaload, 1) := by decide +kernel
theorem dL_law_408 : decode cL_law 408 = .ok (.invokevirtual 41, 3) := by decide +kernel
theorem dL_law_411 : decode cL_law 411 = .ok (.pop, 1) := by decide +kernel
theorem dL_law_412 : decode cL_law 412 = .ok (.aload_n 2, 1) := by decide +kernel
theorem dL_law_413 : decode cL_law 413 = .ok (.aload_n 0, 1) := by decide +kernel
theorem dL_law_414 : decode cL_law 414 = .ok (.iload_n 3, 1) := by decide +kernel
theorem dL_law_415 : decode cL_law 415 = .ok (.iconst 1, 1) := by decide +kernel
theorem dL_law_416 : decode cL_law 416 = .ok (.iadd, 1) := by decide +kernel
theorem dL_law_417 : decode cL_law 417 = .ok (.iaload, 1) := by decide +kernel
theorem dL_law_418 : decode cL_law 418 = .ok (.aload_n 0, 1) := by decide +kernel
theorem dL_law_419 : decode cL_law 419 = .ok (.iload_n 3, 1) := by decide +kernel
theorem dL_law_420 : decode cL_law 420 = .ok (.iconst 2, 1) := by decide +kernel
theorem dL_law_421 : decode cL_law 421 = .ok (.iadd, 1) := by decide +kernel
theorem dL_law_422 : decode cL_law 422 = .ok (.iaload, 1) := by decide +kernel
theorem dL_law_423 : decode cL_law 423 = .ok (.aload_n 0, 1) := by decide +kernel
theorem dL_law_424 : decode cL_law 424 = .ok (.iload_n 3, 1) := by decide +kernel
theorem dL_law_425 : decode cL_law 425 = .ok (.iconst 3, 1) := by decide +kernel
theorem dL_law_426 : decode cL_law 426 = .ok (.iadd, 1) := by decide +kernel
theorem dL_law_427 : decode cL_law 427 = .ok (.iaload, 1) := by decide +kernel
theorem dL_law_428 : decode cL_law 428 = .ok (.invokevirtual 44, 3) := by decide +kernel
theorem dL_law_431 : decode cL_law 431 = .ok (.pop, 1) := by decide +kernel
theorem dL_law_432 : decode cL_law 432 = .ok (.goto 1209, 3) := by decide +kernel
theorem dL_law_435 : decode cL_law 435 = .ok (.aload_n 1, 1) := by decide +kernel
theorem dL_law_436 : decode cL_law 436 = .ok (.aload_n 0, 1) := by decide +kernel
theorem dL_law_437 : decode cL_law 437 = .ok (.iload_n 3, 1) := by decide +kernel
theorem dL_law_438 : decode cL_law 438 = .ok (.iconst 1, 1) := by decide +kernel
theorem dL_law_439 : decode cL_law 439 = .ok (.iadd, 1) := by decide +kernel
theorem dL_law_440 : decode cL_law 440 = .ok (.iaload, 1) := by decide +kernel
theorem dL_law_441 : decode cL_law 441 = .ok (.aload_n 0, 1) := by decide +kernel
theorem dL_law_442 : decode cL_law 442 = .ok (.iload_n 3, 1) := by decide +kernel
theorem dL_law_443 : decode cL_law 443 = .ok (.iconst 2, 1) := by decide +kernel
theorem dL_law_444 : decode cL_law 444 = .ok (.iadd, 1) := by decide +kernel
theorem dL_law_445 : decode cL_law 445 = .ok (.iaload, 1) := by decide +kernel
theorem dL_law_446 : decode cL_law 446 = .ok (.aload_n 0, 1) := by decide +kernel
theorem dL_law_447 : decode cL_law 447 = .ok (.iload_n 3, 1) := by decide +kernel
theorem dL_law_448 : decode cL_law 448 = .ok (.iconst 3, 1) := by decide +kernel
theorem dL_law_449 : decode cL_law 449 = .ok (.iadd, 1) := by decide +kernel
theorem dL_law_450 : decode cL_law 450 = .ok (.iaload, 1) := by decide +kernel
theorem dL_law_451 : decode cL_law 451 = .ok (.invokevirtual 45, 3) := by decide +kernel
theorem dL_law_454 : decode cL_law 454 = .ok (.pop, 1) := by decide +kernel
theorem dL_law_455 : decode cL_law 455 = .ok (.aload_n 2, 1) := by decide +kernel
theorem dL_law_456 : decode cL_law 456 = .ok (.aload_n 0, 1) := by decide +kernel
theorem dL_law_457 : decode cL_law 457 = .ok (.iload_n 3, 1) := by decide +kernel
theorem dL_law_458 : decode cL_law 458 = .ok (.iconst 1, 1) := by decide +kernel
theorem dL_law_459 : decode cL_law 459 = .ok (.iadd, 1) := by decide +kernel
theorem dL_law_460 : decode cL_law 460 = .ok (.iaload, 1) := by decide +kernel
theorem dL_law_461 : decode cL_law 461 = .ok (.aload_n 0, 1) := by decide +kernel
theorem dL_law_462 : decode cL_law 462 = .ok (.iload_n 3, 1) := by decide +kernel
theorem dL_law_463 : decode cL_law 463 = .ok (.iconst 2, 1) := by decide +kernel
theorem dL_law_464 : decode cL_law 464 = .ok (.iadd, 1) := by decide +kernel
theorem dL_law_465 : decode cL_law 465 = .ok (.iaload, 1) := by decide +kernel
theorem dL_law_466 : decode cL_law 466 = .ok (.aload_n 0, 1) := by decide +kernel
theorem dL_law_467 : decode cL_law 467 = .ok (.iload_n 3, 1) := by decide +kernel
theorem dL_law_468 : decode cL_law 468 = .ok (.iconst 3, 1) := by decide +kernel
theorem dL_law_469 : decode cL_law 469 = .ok (.iadd, 1) := by decide +kernel
theorem dL_law_470 : decode cL_law 470 = .ok (.iaload, 1) := by decide +kernel
theorem dL_law_471 : decode cL_law 471 = .ok (.invokevirtual 48, 3) := by decide +kernel
theorem dL_law_474 : decode cL_law 474 = .ok (.pop, 1) := by decide +kernel
theorem dL_law_475 : decode cL_law 475 = .ok (.goto 1166, 3) := by decide +kernel
set_option maxHeartbeats 4000000 in
set_option maxRecDepth 100000 in
theorem law_4 {p : Program} {l : Launch} {e : Env} {s : State} {m : MethodId} {below : List Frame} {meth : Method} {c : Code} {D : va_G} {k : KT} {A : Nat → Prop} {a : Nat → Nat} {z : SK} {b L : Nat} {xs : Nat → Int32} (hL : L ≤ 3072) (C0 : lw_At p s m meth c b L xs) (hK : cK D k s) (hZ : Sx A z s) (hbA : ¬ A b) {G : GS} {i0 : Int32} (hi0 : 0 ≤ i0.toInt) (hi6 : i0.toInt + 6 ≤ L) (hI : LI G) (hB_G : Bd G) {H : Heap} {locs : List Loc} {ls : Array Slot} (hW : Wd D k A a G H) (hS : va_S A s.heap H locs) (hl : lv_has ls 4 [(0, .ref b), (1, .ref (a 0)), (2, .ref (a 66)), (3, .int i0)]) (K : ∀ (G1 : GS) (H1 : Heap) (locs1 : List Loc) (ls1 : Array Slot), LI G1 → Bd G1 → Wd D k A a G1 H1 → va_S A s.heap H1 locs1 → lv_has ls1 4 [(0, .ref b), (1, .ref (a 0)), (2, .ref (a 66)), (3, .int i0)] → W p l e room_1 s m #[Value.ref b] below meth c H1 locs1 119 46443 (lw_Z below #[Value.ref b] s) (F0 m 1641 ls1 [])) : W p l e room_1 s m #[Value.ref b] below meth c H locs 119 46443 (lw_Z below #[Value.ref b] s) (F0 m 326 ls []) := by
  obtain ⟨hx, hb, hr, hml, hown, hts, hX, hbl, hlocks, hgv⟩ := id C0
  have hown : s.vm.findClass RL = some m.cls := hown
  have hgd : ∀ w ∈ gd, w ∈ lw_tbl := fun w h => (List.mem_filter.mp h).1
  have hg : ∀ w ∈ gd, w.before #[Value.ref b] s = true := fun w h => hts w (hgd w h)
  rcases hI with ⟨hv_0_0, hv_0_1, hv_6_4, hj0, hj1, hj2, hj3, hj4, hj5, hj6, hj7, hj8, hj9, hj10, hj11⟩ | ⟨hv_0_0, hv_0_1, hv_6_4, hj0, hj1, hj2, hj3, hj4, hj5, hj6, hj7, hj8, hj9, hj10, hj11⟩
  · skip
    refine lv_aload_n hx hb dL_law_326 rfl (lv_at hl 1 rfl) ?_
    refine lv_aload_n hx hb dL_law_327 rfl (lv_at hl 0 rfl) ?_
    refine lv_iload_n hx hb dL_law_328 rfl (lv_at hl 3 rfl) ?_
    refine lv_iconst (v := 1) hx hb dL_law_329 (by decide) ?_
    refine lv_iadd hx hb dL_law_330 ?_
    refine lv_topi (fun y_1 ey_1 => ?_)
    have ty_1 : y_1.toInt = i0.toInt + 1 := xI_add rfl rfl ey_1 (by omega) (by omega)
    refine va_sld hx hb hX hbl hbA hS (vin (by omega) (by omega)) dL_law_331 ?_
    refine lv_topi (fun y_2 ey_2 => ?_)
    have u_3 : y_2.toInt = (xs (i0 + 1).toNatClampNeg).toInt := by rw [ey_2, ey_1]
    refine lv_aload_n hx hb dL_law_332 rfl (lv_at hl 0 rfl) ?_
    refine lv_iload_n hx hb dL_law_333 rfl (lv_at hl 3 rfl) ?_
    refine lv_iconst (v := 2) hx hb dL_law_334 (by decide) ?_
    refine lv_iadd hx hb dL_law_335 ?_
    refine lv_topi (fun y_4 ey_4 => ?_)
    have ty_4 : y_4.toInt = i0.toInt + 2 := xI_add rfl rfl ey_4 (by omega) (by omega)
    refine va_sld hx hb hX hbl hbA hS (vin (by omega) (by omega)) dL_law_336 ?_
    refine lv_topi (fun y_5 ey_5 => ?_)
    have u_6 : y_5.toInt = (xs (i0 + 2).toNatClampNeg).toInt := by rw [ey_5, ey_4]
    refine lv_aload_n hx hb dL_law_337 rfl (lv_at hl 0 rfl) ?_
    refine lv_iload_n hx hb dL_law_338 rfl (lv_at hl 3 rfl) ?_
    refine lv_iconst (v := 3) hx hb dL_law_339 (by decide) ?_
    refine lv_iadd hx hb dL_law_340 ?_
    refine lv_topi (fun y_7 ey_7 => ?_)
    have ty_7 : y_7.toInt = i0.toInt + 3 := xI_add rfl rfl ey_7 (by omega) (by omega)
    refine va_sld hx hb hX hbl hbA hS (vin (by omega) (by omega)) dL_law_341 ?_
    refine lv_topi (fun y_8 ey_8 => ?_)
    have u_9 : y_8.toInt = (xs (i0 + 3).toNatClampNeg).toInt := by rw [ey_8, ey_7]
    refine S_calli (va_runV (As := [.int y_2, .int y_5, .int y_8]) (rest := []) ⟨hx, hb, hml, hown, hts⟩ (k_Winch_1 l D k A a z G y_2 y_5 y_8 hv_0_0 hv_0_1 hv_6_4) (cwV 3 hts (gd_V hgd m878 m879 m880 m117 m881) rfl rfl rfl (by decide +kernel) ⟨Nat.le_of_ble_eq_true rfl, Nat.le_of_ble_eq_true rfl⟩) (pre_V hW hB_G hK hZ hS kd_0 rfl) rfl rfl hl.1 rfl (lv_room (Nat.le_of_ble_eq_true rfl)) dL_law_342 ⟨Nat.le_of_ble_eq_true rfl, Nat.le_of_ble_eq_true rfl⟩) hS (fun r_10 G_11 H locs hpo hW hS => ?_)
    have hX_14 : P_Winch_1 y_2 y_5 y_8 G r_10 G_11 := hpo
    obtain ⟨hB_G_11, hq_12, -⟩ := hpo
    refine lv_pop hx hb dL_law_345 rfl ?_
    refine lv_aload_n hx hb dL_law_346 rfl (lv_at hl 2 rfl) ?_
    refine lv_aload_n hx hb dL_law_347 rfl (lv_at hl 0 rfl) ?_
    refine lv_iload_n hx hb dL_law_348 rfl (lv_at hl 3 rfl) ?_
    refine lv_iconst (v := 1) hx hb dL_law_349 (by decide) ?_
    refine lv_iadd hx hb dL_law_350 ?_
    refine lv_topi (fun y_15 ey_15 => ?_)
    have ty_15 : y_15.toInt = i0.toInt + 1 := xI_add rfl rfl ey_15 (by omega) (by omega)
    refine va_sld hx hb hX hbl hbA hS (vin (by omega) (by omega)) dL_law_351 ?_
    refine lv_topi (fun y_16 ey_16 => ?_)
    have u_17 : y_16.toInt = (xs (i0 + 1).toNatClampNeg).toInt := by rw [ey_16, ey_15]
    refine lv_aload_n hx hb dL_law_352 rfl (lv_at hl 0 rfl) ?_
    refine lv_iload_n hx hb dL_law_353 rfl (lv_at hl 3 rfl) ?_
    refine lv_iconst (v := 2) hx hb dL_law_354 (by decide) ?_
    refine lv_iadd hx hb dL_law_355 ?_
    refine lv_topi (fun y_18 ey_18 => ?_)
    have ty_18 : y_18.toInt = i0.toInt + 2 := xI_add rfl rfl ey_18 (by omega) (by omega)
    refine va_sld hx hb hX hbl hbA hS (vin (by omega) (by omega)) dL_law_356 ?_
    refine lv_topi (fun y_19 ey_19 => ?_)
    have u_20 : y_19.toInt = (xs (i0 + 2).toNatClampNeg).toInt := by rw [ey_19, ey_18]
    refine lv_aload_n hx hb dL_law_357 rfl (lv_at hl 0 rfl) ?_
    refine lv_iload_n hx hb dL_law_358 rfl (lv_at hl 3 rfl) ?_
    refine lv_iconst (v := 3) hx hb dL_law_359 (by decide) ?_
    refine lv_iadd hx hb dL_law_360 ?_
    refine lv_topi (fun y_21 ey_21 => ?_)
    have ty_21 : y_21.toInt = i0.toInt + 3 := xI_add rfl rfl ey_21 (by omega) (by omega)
    refine va_sld hx hb hX hbl hbA hS (vin (by omega) (by omega)) dL_law_361 ?_
    refine lv_topi (fun y_22 ey_22 => ?_)
    have u_23 : y_22.toInt = (xs (i0 + 3).toNatClampNeg).toInt := by rw [ey_22, ey_21]
    refine S_calli (va_runV (As := [.int y_16, .int y_19, .int y_22]) (rest := []) ⟨hx, hb, hml, hown, hts⟩ (n_inch l D k A a z G_11 y_16 y_19 y_22 ) (cwV 3 hts (gd_V hgd m1773 m1774 m1775 m131 m1776) rfl rfl rfl (by decide +kernel) ⟨Nat.le_of_ble_eq_true rfl, Nat.le_of_ble_eq_true rfl⟩) (pre_V hW hB_G_11 hK hZ hS kd_66 rfl) rfl rfl hl.1 rfl (lv_room (Nat.le_of_ble_eq_true rfl)) dL_law_362 ⟨Nat.le_of_ble_eq_true rfl, Nat.le_of_ble_eq_true rfl⟩) hS (fun r_24 G_25 H locs hpo hW hS => ?_)
    have hX_28 : Q_inch y_16 y_19 y_22 G_11 r_24 G_25 := hpo
    obtain ⟨hB_G_25, hq_26, -⟩ := hpo
    have u_29 := L_inch_1 hX_14 hX_28 (by omega) (by omega) (by omega) (by omega)
    refine lv_pop hx hb dL_law_365 rfl ?_
    refine lv_goto (tgt := 1641) hx hb dL_law_366 (by decide) ?_
    have g_30 : gIA G_25 = gIA G := gIA_fr (rs := []) (fs := []) ((Fr.rf.call hq_12 (by decide) (by decide)).call hq_26 (by decide) (by decide)) (by decide) (by decide)
    have g_31 : gO G_25 = gO G := gO_fr (rs := []) (fs := []) ((Fr.rf.call hq_12 (by decide) (by decide)).call hq_26 (by decide) (by decide)) (by decide) (by decide)
    have g_32 : gP G_25 = gP G := gP_fr (rs := []) (fs := []) ((Fr.rf.call hq_12 (by decide) (by decide)).call hq_26 (by decide) (by decide)) (by decide) (by decide)
    have g_33 : gS G_25 = gS G := gS_fr (rs := []) (fs := []) ((Fr.rf.call hq_12 (by decide) (by decide)).call hq_26 (by decide) (by decide)) (by decide) (by decide)
    have g_34 : gTE G_25 = gTE G := gTE_fr (rs := []) (fs := []) ((Fr.rf.call hq_12 (by decide) (by decide)).call hq_26 (by decide) (by decide)) (by decide) (by decide)
    have g_35 : gW G_25 = gW G := gW_fr (rs := []) (fs := []) ((Fr.rf.call hq_12 (by decide) (by decide)).call hq_26 (by decide) (by decide)) (by decide) (by decide)
    have b_36 : 0 ≤ (G.1 0 11).toInt ∧ (G.1 0 11).toInt ≤ 1600 := hB_G.i 0 11 rfl rfl
    have g_37 : (G_25.1 0 11).toInt = (G.1 0 11).toInt := by rw [show G_25.1 0 11 = (G.1 0 11) from ((hq_26.i 0 11 (by decide) (by decide)).trans (hq_12.i 0 11 (by decide) (by decide)))]
    have b_38 : 0 ≤ (G.1 3 7).toInt ∧ (G.1 3 7).toInt ≤ 4 := hB_G.i 3 7 rfl rfl
    have g_39 : (G_25.1 3 7).toInt = (G.1 3 7).toInt := by rw [show G_25.1 3 7 = (G.1 3 7) from ((hq_26.i 3 7 (by decide) (by decide)).trans (hq_12.i 3 7 (by decide) (by decide)))]
    have b_40 : (-1) ≤ (G.1 3 8).toInt ∧ (G.1 3 8).toInt ≤ 1600 := hB_G.i 3 8 rfl rfl
    have g_41 : (G_25.1 3 8).toInt = (G.1 3 8).toInt := by rw [show G_25.1 3 8 = (G.1 3 8) from ((hq_26.i 3 8 (by decide) (by decide)).trans (hq_12.i 3 8 (by decide) (by decide)))]
    have b_42 : 0 ≤ (G.1 30 4).toInt ∧ (G.1 30 4).toInt ≤ 40 := hB_G.i 30 4 rfl rfl
    have g_43 : (G_25.1 30 4).toInt = (G.1 30 4).toInt := by rw [show G_25.1 30 4 = (G.1 30 4) from ((hq_26.i 30 4 (by decide) (by decide)).trans (hq_12.i 30 4 (by decide) (by decide)))]
    have b_44 : 0 ≤ (G.1 30 5).toInt ∧ (G.1 30 5).toInt ≤ 40 := hB_G.i 30 5 rfl rfl
    have g_45 : (G_25.1 30 5).toInt = (G.1 30 5).toInt := by rw [show G_25.1 30 5 = (G.1 30 5) from ((hq_26.i 30 5 (by decide) (by decide)).trans (hq_12.i 30 5 (by decide) (by decide)))]
    have b_46 : 0 ≤ (G.1 31 6).toInt ∧ (G.1 31 6).toInt ≤ 100000 := hB_G.i 31 6 rfl rfl
    have g_47 : (G_25.1 31 6).toInt = (G.1 31 6).toInt := by rw [show G_25.1 31 6 = (G.1 31 6) from ((hq_26.i 31 6 (by decide) (by decide)).trans (hq_12.i 31 6 (by decide) (by decide)))]
    have b_48 : 0 ≤ (G.1 66 1).toInt ∧ (G.1 66 1).toInt ≤ 1600 := hB_G.i 66 1 rfl rfl
    have g_49 : (G_25.1 66 1).toInt = (G.1 66 1).toInt := by rw [show G_25.1 66 1 = (G.1 66 1) from ((hq_26.i 66 1 (by decide) (by decide)).trans (hq_12.i 66 1 (by decide) (by decide)))]
    have b_50 : 0 ≤ (G.1 66 2).toInt ∧ (G.1 66 2).toInt ≤ 4 := hB_G.i 66 2 rfl rfl
    have g_51 : (G_25.1 66 2).toInt = (G.1 66 2).toInt := by rw [show G_25.1 66 2 = (G.1 66 2) from ((hq_26.i 66 2 (by decide) (by decide)).trans (hq_12.i 66 2 (by decide) (by decide)))]
    have b_52 : (-1) ≤ (G.1 66 3).toInt ∧ (G.1 66 3).toInt ≤ 1600 := hB_G.i 66 3 rfl rfl
    have g_53 : (G_25.1 66 3).toInt = (G.1 66 3).toInt := by rw [show G_25.1 66 3 = (G.1 66 3) from ((hq_26.i 66 3 (by decide) (by decide)).trans (hq_12.i 66 3 (by decide) (by decide)))]
    have b_54 : 0 ≤ (G.1 66 78).toInt ∧ (G.1 66 78).toInt ≤ 40 := hB_G.i 66 78 rfl rfl
    have g_55 : (G_25.1 66 78).toInt = (G.1 66 78).toInt := by rw [show G_25.1 66 78 = (G.1 66 78) from ((hq_26.i 66 78 (by decide) (by decide)).trans (hq_12.i 66 78 (by decide) (by decide)))]
    have b_56 : 0 ≤ (G.1 66 79).toInt ∧ (G.1 66 79).toInt ≤ 40 := hB_G.i 66 79 rfl rfl
    have g_57 : (G_25.1 66 79).toInt = (G.1 66 79).toInt := by rw [show G_25.1 66 79 = (G.1 66 79) from ((hq_26.i 66 79 (by decide) (by decide)).trans (hq_12.i 66 79 (by decide) (by decide)))]
    have b_58 : 0 ≤ (G.1 66 86).toInt ∧ (G.1 66 86).toInt ≤ 100000 := hB_G.i 66 86 rfl rfl
    have g_59 : (G_25.1 66 86).toInt = (G.1 66 86).toInt := by rw [show G_25.1 66 86 = (G.1 66 86) from ((hq_26.i 66 86 (by decide) (by decide)).trans (hq_12.i 66 86 (by decide) (by decide)))]
    have b_60 : 0 ≤ (G.1 96 0).toInt ∧ (G.1 96 0).toInt ≤ 9 := hB_G.i 96 0 rfl rfl
    have g_61 : (G_25.1 96 0).toInt = (G.1 96 0).toInt := by rw [show G_25.1 96 0 = (G.1 96 0) from ((hq_26.i 96 0 (by decide) (by decide)).trans (hq_12.i 96 0 (by decide) (by decide)))]
    have b_62 : 0 ≤ (G.1 96 1).toInt ∧ (G.1 96 1).toInt ≤ 9 := hB_G.i 96 1 rfl rfl
    have g_63 : (G_25.1 96 1).toInt = (G.1 96 1).toInt := by rw [show G_25.1 96 1 = (G.1 96 1) from ((hq_26.i 96 1 (by decide) (by decide)).trans (hq_12.i 96 1 (by decide) (by decide)))]
    have b_64 : 0 ≤ (G.1 96 2).toInt ∧ (G.1 96 2).toInt ≤ 9 := hB_G.i 96 2 rfl rfl
    have g_65 : (G_25.1 96 2).toInt = (G.1 96 2).toInt := by rw [show G_25.1 96 2 = (G.1 96 2) from ((hq_26.i 96 2 (by decide) (by decide)).trans (hq_12.i 96 2 (by decide) (by decide)))]
    exact K G_25 _ _ _ (Or.inl ⟨((((hq_26.r 0 0 (by decide) (by decide)).trans (hq_12.r 0 0 (by decide) (by decide)))).trans (hv_0_0)), ((((hq_26.r 0 1 (by decide) (by decide)).trans (hq_12.r 0 1 (by decide) (by decide)))).trans (hv_0_1)), ((((hq_26.r 6 4 (by decide) (by decide)).trans (hq_12.r 6 4 (by decide) (by decide)))).trans (hv_6_4)), by omega, by omega, by omega, by omega, by omega, by omega, by omega, by omega, by omega, by omega, by omega, by omega, by omega⟩) hB_G_25 hW hS (lv_sub hl [0, 1, 2, 3] rfl)
  · skip
    refine lv_aload_n hx hb dL_law_326 rfl (lv_at hl 1 rfl) ?_
    refine lv_aload_n hx hb dL_law_327 rfl (lv_at hl 0 rfl) ?_
    refine lv_iload_n hx hb dL_law_328 rfl (lv_at hl 3 rfl) ?_
    refine lv_iconst (v := 1) hx hb dL_law_329 (by decide) ?_
    refine lv_iadd hx hb dL_law_330 ?_
    refine lv_topi (fun y_1 ey_1 => ?_)
    have ty_1 : y_1.toInt = i0.toInt + 1 := xI_add rfl rfl ey_1 (by omega) (by omega)
    refine va_sld hx hb hX hbl hbA hS (vin (by omega) (by omega)) dL_law_331 ?_
    refine lv_topi (fun y_2 ey_2 => ?_)
    have u_3 : y_2.toInt = (xs (i0 + 1).toNatClampNeg).toInt := by rw [ey_2, ey_1]
    refine lv_aload_n hx hb dL_law_332 rfl (lv_at hl 0 rfl) ?_
    refine lv_iload_n hx hb dL_law_333 rfl (lv_at hl 3 rfl) ?_
    refine lv_iconst (v := 2) hx hb dL_law_334 (by decide) ?_
    refine lv_iadd hx hb dL_law_335 ?_
    refine lv_topi (fun y_4 ey_4 => ?_)
    have ty_4 : y_4.toInt = i0.toInt + 2 := xI_add rfl rfl ey_4 (by omega) (by omega)
    refine va_sld hx hb hX hbl hbA hS (vin (by omega) (by omega)) dL_law_336 ?_
    refine lv_topi (fun y_5 ey_5 => ?_)
    have u_6 : y_5.toInt = (xs (i0 + 2).toNatClampNeg).toInt := by rw [ey_5, ey_4]
    refine lv_aload_n hx hb dL_law_337 rfl (lv_at hl 0 rfl) ?_
    refine lv_iload_n hx hb dL_law_338 rfl (lv_at hl 3 rfl) ?_
    refine lv_iconst (v := 3) hx hb dL_law_339 (by decide) ?_
    refine lv_iadd hx hb dL_law_340 ?_
    refine lv_topi (fun y_7 ey_7 => ?_)
    have ty_7 : y_7.toInt = i0.toInt + 3 := xI_add rfl rfl ey_7 (by omega) (by omega)
    refine va_sld hx hb hX hbl hbA hS (vin (by omega) (by omega)) dL_law_341 ?_
    refine lv_topi (fun y_8 ey_8 => ?_)
    have u_9 : y_8.toInt = (xs (i0 + 3).toNatClampNeg).toInt := by rw [ey_8, ey_7]
    refine S_calli (va_runV (As := [.int y_2, .int y_5, .int y_8]) (rest := []) ⟨hx, hb, hml, hown, hts⟩ (k_Winch_2 l D k A a z G y_2 y_5 y_8 hv_0_0 hv_0_1 hv_6_4) (cwV 3 hts (gd_V hgd m878 m879 m880 m117 m881) rfl rfl rfl (by decide +kernel) ⟨Nat.le_of_ble_eq_true rfl, Nat.le_of_ble_eq_true rfl⟩) (pre_V hW hB_G hK hZ hS kd_0 rfl) rfl rfl hl.1 rfl (lv_room (Nat.le_of_ble_eq_true rfl)) dL_law_342 ⟨Nat.le_of_ble_eq_true rfl, Nat.le_of_ble_eq_true rfl⟩) hS (fun r_10 G_11 H locs hpo hW hS => ?_)
    have hX_14 : P_Winch_2 y_2 y_5 y_8 G r_10 G_11 := hpo
    obtain ⟨hB_G_11, hq_12, -⟩ := hpo
    refine lv_pop hx hb dL_law_345 rfl ?_
    refine lv_aload_n hx hb dL_law_346 rfl (lv_at hl 2 rfl) ?_
    refine lv_aload_n hx hb dL_law_347 rfl (lv_at hl 0 rfl) ?_
    refine lv_iload_n hx hb dL_law_348 rfl (lv_at hl 3 rfl) ?_
    refine lv_iconst (v := 1) hx hb dL_law_349 (by decide) ?_
    refine lv_iadd hx hb dL_law_350 ?_
    refine lv_topi (fun y_15 ey_15 => ?_)
    have ty_15 : y_15.toInt = i0.toInt + 1 := xI_add rfl rfl ey_15 (by omega) (by omega)
    refine va_sld hx hb hX hbl hbA hS (vin (by omega) (by omega)) dL_law_351 ?_
    refine lv_topi (fun y_16 ey_16 => ?_)
    have u_17 : y_16.toInt = (xs (i0 + 1).toNatClampNeg).toInt := by rw [ey_16, ey_15]
    refine lv_aload_n hx hb dL_law_352 rfl (lv_at hl 0 rfl) ?_
    refine lv_iload_n hx hb dL_law_353 rfl (lv_at hl 3 rfl) ?_
    refine lv_iconst (v := 2) hx hb dL_law_354 (by decide) ?_
    refine lv_iadd hx hb dL_law_355 ?_
    refine lv_topi (fun y_18 ey_18 => ?_)
    have ty_18 : y_18.toInt = i0.toInt + 2 := xI_add rfl rfl ey_18 (by omega) (by omega)
    refine va_sld hx hb hX hbl hbA hS (vin (by omega) (by omega)) dL_law_356 ?_
    refine lv_topi (fun y_19 ey_19 => ?_)
    have u_20 : y_19.toInt = (xs (i0 + 2).toNatClampNeg).toInt := by rw [ey_19, ey_18]
    refine lv_aload_n hx hb dL_law_357 rfl (lv_at hl 0 rfl) ?_
    refine lv_iload_n hx hb dL_law_358 rfl (lv_at hl 3 rfl) ?_
    refine lv_iconst (v := 3) hx hb dL_law_359 (by decide) ?_
    refine lv_iadd hx hb dL_law_360 ?_
    refine lv_topi (fun y_21 ey_21 => ?_)
    have ty_21 : y_21.toInt = i0.toInt + 3 := xI_add rfl rfl ey_21 (by omega) (by omega)
    refine va_sld hx hb hX hbl hbA hS (vin (by omega) (by omega)) dL_law_361 ?_
    refine lv_topi (fun y_22 ey_22 => ?_)
    have u_23 : y_22.toInt = (xs (i0 + 3).toNatClampNeg).toInt := by rw [ey_22, ey_21]
    refine S_calli (va_runV (As := [.int y_16, .int y_19, .int y_22]) (rest := []) ⟨hx, hb, hml, hown, hts⟩ (n_inch l D k A a z G_11 y_16 y_19 y_22 ) (cwV 3 hts (gd_V hgd m1773 m1774 m1775 m131 m1776) rfl rfl rfl (by decide +kernel) ⟨Nat.le_of_ble_eq_true rfl, Nat.le_of_ble_eq_true rfl⟩) (pre_V hW hB_G_11 hK hZ hS kd_66 rfl) rfl rfl hl.1 rfl (lv_room (Nat.le_of_ble_eq_true rfl)) dL_law_362 ⟨Nat.le_of_ble_eq_true rfl, Nat.le_of_ble_eq_true rfl⟩) hS (fun r_24 G_25 H locs hpo hW hS => ?_)
    have hX_28 : Q_inch y_16 y_19 y_22 G_11 r_24 G_25 := hpo
    obtain ⟨hB_G_25, hq_26, -⟩ := hpo
    have u_29 := L_inch_2 hX_14 hX_28 (by omega) (by omega) (by omega) (by omega)
    refine lv_pop hx hb dL_law_365 rfl ?_
    refine lv_goto (tgt := 1641) hx hb dL_law_366 (by decide) ?_
    have g_30 : gIB G_25 = gIB G := gIB_fr (rs := []) (fs := []) ((Fr.rf.call hq_12 (by decide) (by decide)).call hq_26 (by decide) (by decide)) (by decide) (by decide)
    have g_31 : gO G_25 = gO G := gO_fr (rs := []) (fs := []) ((Fr.rf.call hq_12 (by decide) (by decide)).call hq_26 (by decide) (by decide)) (by decide) (by decide)
    have g_32 : gP G_25 = gP G := gP_fr (rs := []) (fs := []) ((Fr.rf.call hq_12 (by decide) (by decide)).call hq_26 (by decide) (by decide)) (by decide) (by decide)
    have g_33 : gS G_25 = gS G := gS_fr (rs := []) (fs := []) ((Fr.rf.call hq_12 (by decide) (by decide)).call hq_26 (by decide) (by decide)) (by decide) (by decide)
    have g_34 : gTE G_25 = gTE G := gTE_fr (rs := []) (fs := []) ((Fr.rf.call hq_12 (by decide) (by decide)).call hq_26 (by decide) (by decide)) (by decide) (by decide)
    have g_35 : gW G_25 = gW G := gW_fr (rs := []) (fs := []) ((Fr.rf.call hq_12 (by decide) (by decide)).call hq_26 (by decide) (by decide)) (by decide) (by decide)
    have b_36 : 0 ≤ (G.1 0 11).toInt ∧ (G.1 0 11).toInt ≤ 1600 := hB_G.i 0 11 rfl rfl
    have g_37 : (G_25.1 0 11).toInt = (G.1 0 11).toInt := by rw [show G_25.1 0 11 = (G.1 0 11) from ((hq_26.i 0 11 (by decide) (by decide)).trans (hq_12.i 0 11 (by decide) (by decide)))]
    have b_38 : 0 ≤ (G.1 3 7).toInt ∧ (G.1 3 7).toInt ≤ 4 := hB_G.i 3 7 rfl rfl
    have g_39 : (G_25.1 3 7).toInt = (G.1 3 7).toInt := by rw [show G_25.1 3 7 = (G.1 3 7) from ((hq_26.i 3 7 (by decide) (by decide)).trans (hq_12.i 3 7 (by decide) (by decide)))]
    have b_40 : (-1) ≤ (G.1 3 8).toInt ∧ (G.1 3 8).toInt ≤ 1600 := hB_G.i 3 8 rfl rfl
    have g_41 : (G_25.1 3 8).toInt = (G.1 3 8).toInt := by rw [show G_25.1 3 8 = (G.1 3 8) from ((hq_26.i 3 8 (by decide) (by decide)).trans (hq_12.i 3 8 (by decide) (by decide)))]
    have b_42 : 0 ≤ (G.1 30 4).toInt ∧ (G.1 30 4).toInt ≤ 40 := hB_G.i 30 4 rfl rfl
    have g_43 : (G_25.1 30 4).toInt = (G.1 30 4).toInt := by rw [show G_25.1 30 4 = (G.1 30 4) from ((hq_26.i 30 4 (by decide) (by decide)).trans (hq_12.i 30 4 (by decide) (by decide)))]
    have b_44 : 0 ≤ (G.1 30 5).toInt ∧ (G.1 30 5).toInt ≤ 40 := hB_G.i 30 5 rfl rfl
    have g_45 : (G_25.1 30 5).toInt = (G.1 30 5).toInt := by rw [show G_25.1 30 5 = (G.1 30 5) from ((hq_26.i 30 5 (by decide) (by decide)).trans (hq_12.i 30 5 (by decide) (by decide)))]
    have b_46 : 0 ≤ (G.1 31 6).toInt ∧ (G.1 31 6).toInt ≤ 100000 := hB_G.i 31 6 rfl rfl
    have g_47 : (G_25.1 31 6).toInt = (G.1 31 6).toInt := by rw [show G_25.1 31 6 = (G.1 31 6) from ((hq_26.i 31 6 (by decide) (by decide)).trans (hq_12.i 31 6 (by decide) (by decide)))]
    have b_48 : 0 ≤ (G.1 66 1).toInt ∧ (G.1 66 1).toInt ≤ 1600 := hB_G.i 66 1 rfl rfl
    have g_49 : (G_25.1 66 1).toInt = (G.1 66 1).toInt := by rw [show G_25.1 66 1 = (G.1 66 1) from ((hq_26.i 66 1 (by decide) (by decide)).trans (hq_12.i 66 1 (by decide) (by decide)))]
    have b_50 : 0 ≤ (G.1 66 2).toInt ∧ (G.1 66 2).toInt ≤ 4 := hB_G.i 66 2 rfl rfl
    have g_51 : (G_25.1 66 2).toInt = (G.1 66 2).toInt := by rw [show G_25.1 66 2 = (G.1 66 2) from ((hq_26.i 66 2 (by decide) (by decide)).trans (hq_12.i 66 2 (by decide) (by decide)))]
    have b_52 : (-1) ≤ (G.1 66 3).toInt ∧ (G.1 66 3).toInt ≤ 1600 := hB_G.i 66 3 rfl rfl
    have g_53 : (G_25.1 66 3).toInt = (G.1 66 3).toInt := by rw [show G_25.1 66 3 = (G.1 66 3) from ((hq_26.i 66 3 (by decide) (by decide)).trans (hq_12.i 66 3 (by decide) (by decide)))]
    have b_54 : 0 ≤ (G.1 66 78).toInt ∧ (G.1 66 78).toInt ≤ 40 := hB_G.i 66 78 rfl rfl
    have g_55 : (G_25.1 66 78).toInt = (G.1 66 78).toInt := by rw [show G_25.1 66 78 = (G.1 66 78) from ((hq_26.i 66 78 (by decide) (by decide)).trans (hq_12.i 66 78 (by decide) (by decide)))]
    have b_56 : 0 ≤ (G.1 66 79).toInt ∧ (G.1 66 79).toInt ≤ 40 := hB_G.i 66 79 rfl rfl
    have g_57 : (G_25.1 66 79).toInt = (G.1 66 79).toInt := by rw [show G_25.1 66 79 = (G.1 66 79) from ((hq_26.i 66 79 (by decide) (by decide)).trans (hq_12.i 66 79 (by decide) (by decide)))]
    have b_58 : 0 ≤ (G.1 66 86).toInt ∧ (G.1 66 86).toInt ≤ 100000 := hB_G.i 66 86 rfl rfl
    have g_59 : (G_25.1 66 86).toInt = (G.1 66 86).toInt := by rw [show G_25.1 66 86 = (G.1 66 86) from ((hq_26.i 66 86 (by decide) (by decide)).trans (hq_12.i 66 86 (by decide) (by decide)))]
    have b_60 : 0 ≤ (G.1 96 0).toInt ∧ (G.1 96 0).toInt ≤ 9 := hB_G.i 96 0 rfl rfl
    have g_61 : (G_25.1 96 0).toInt = (G.1 96 0).toInt := by rw [show G_25.1 96 0 = (G.1 96 0) from ((hq_26.i 96 0 (by decide) (by decide)).trans (hq_12.i 96 0 (by decide) (by decide)))]
    have b_62 : 0 ≤ (G.1 96 1).toInt ∧ (G.1 96 1).toInt ≤ 9 := hB_G.i 96 1 rfl rfl
    have g_63 : (G_25.1 96 1).toInt = (G.1 96 1).toInt := by rw [show G_25.1 96 1 = (G.1 96 1) from ((hq_26.i 96 1 (by decide) (by decide)).trans (hq_12.i 96 1 (by decide) (by decide)))]
    have b_64 : 0 ≤ (G.1 96 2).toInt ∧ (G.1 96 2).toInt ≤ 9 := hB_G.i 96 2 rfl rfl
    have g_65 : (G_25.1 96 2).toInt = (G.1 96 2).toInt := by rw [show G_25.1 96 2 = (G.1 96 2) from ((hq_26.i 96 2 (by decide) (by decide)).trans (hq_12.i 96 2 (by decide) (by decide)))]
    exact K G_25 _ _ _ (Or.inr ⟨((((hq_26.r 0 0 (by decide) (by decide)).trans (hq_12.r 0 0 (by decide) (by decide)))).trans (hv_0_0)), ((((hq_26.r 0 1 (by decide) (by decide)).trans (hq_12.r 0 1 (by decide) (by decide)))).trans (hv_0_1)), ((((hq_26.r 6 4 (by decide) (by decide)).trans (hq_12.r 6 4 (by decide) (by decide)))).trans (hv_6_4)), by omega, by omega, by omega, by omega, by omega, by omega, by omega, by omega, by omega, by omega, by omega, by omega, by omega⟩) hB_G_25 hW hS (lv_sub hl [0, 1, 2, 3] rfl)

set_option maxHeartbeats 4000000 in
set_option maxRecDepth 100000 in
theorem law_5 {p : Program} {l : Launch} {e : Env} {s : State} {m : MethodId} {below : List Frame} {meth : Method} {c : Code} {D : va_G} {k : KT} {A : Nat → Prop} {a : Nat → Nat} {z : SK} {b L : Nat} {xs : Nat → Int32} (hL : L ≤ 3072) (C0 : lw_At p s m meth c b L xs) (hK : cK D k s) (hZ : Sx A z s) (hbA : ¬ A b) {G : GS} {i0 : Int32} (hi0 : 0 ≤ i0.toInt) (hi6 : i0.toInt + 6 ≤ L) (hI : LI G) (hB_G : Bd G) {H : Heap} {locs : List Loc} {ls : Array Slot} (hW : Wd D k A a G H) (hS : va_S A s.heap H locs) (hl : lv_has ls 4 [(0, .ref b), (1, .ref (a 0)), (2, .ref (a 66)), (3, .int i0)]) (K : ∀ (G1 : GS) (H1 : Heap) (locs1 : List Loc) (ls1 : Array Slot), LI G1 → Bd G1 → Wd D k A a G1 H1 → va_S A s.heap H1 locs1 → lv_has ls1 4 [(0, .ref b), (1, .ref (a 0)), (2, .ref (a 66)), (3, .int i0)] → W p l e room_1 s m #[Value.ref b] below meth c H1 locs1 119 46443 (lw_Z below #[Value.ref b] s) (F0 m 1641 ls1 [])) : W p l e room_1 s m #[Value.ref b] below meth c H locs 119 46443 (lw_Z below #[Value.ref b] s) (F0 m 369 ls []) := by
  obtain ⟨hx, hb, hr, hml, hown, hts, hX, hbl, hlocks, hgv⟩ := id C0
  have hown : s.vm.findClass RL = some m.cls := hown
  have hgd : ∀ w ∈ gd, w ∈ lw_tbl := fun w h => (List.mem_filter.mp h).1
  have hg : ∀ w ∈ gd, w.before #[Value.ref b] s = true := fun w h => hts w (hgd w h)
  rcases hI with ⟨hv_0_0, hv_0_1, hv_6_4, hj0, hj1, hj2, hj3, hj4, hj5, hj6, hj7, hj8, hj9, hj10, hj11⟩ | ⟨hv_0_0, hv_0_1, hv_6_4, hj0, hj1, hj2, hj3, hj4, hj5, hj6, hj7, hj8, hj9, hj10, hj11⟩
  · skip
    refine lv_aload_n hx hb dL_law_369 rfl (lv_at hl 1 rfl) ?_
    refine lv_aload_n hx hb dL_law_370 rfl (lv_at hl 0 rfl) ?_
    refine lv_iload_n hx hb dL_law_371 rfl (lv_at hl 3 rfl) ?_
    refine lv_iconst (v := 1) hx hb dL_law_372 (by decide) ?_
    refine lv_iadd hx hb dL_law_373 ?_
    refine lv_topi (fun y_1 ey_1 => ?_)
    have ty_1 : y_1.toInt = i0.toInt + 1 := xI_add rfl rfl ey_1 (by omega) (by omega)
    refine va_sld hx hb hX hbl hbA hS (vin (by omega) (by omega)) dL_law_374 ?_
    refine lv_topi (fun y_2 ey_2 => ?_)
    have u_3 : y_2.toInt = (xs (i0 + 1).toNatClampNeg).toInt := by rw [ey_2, ey_1]
    refine S_calli (va_runV (As := [.int y_2]) (rest := []) ⟨hx, hb, hml, hown, hts⟩ (k_Wlength_1 l D k A a z G y_2 hv_0_0 hv_0_1 hv_6_4) (cwV 1 hts (gd_V hgd m898 m899 m900 m117 m901) rfl rfl rfl (by decide +kernel) ⟨Nat.le_of_ble_eq_true rfl, Nat.le_of_ble_eq_true rfl⟩) (pre_V hW hB_G hK hZ hS kd_0 rfl) rfl rfl hl.1 rfl (lv_room (Nat.le_of_ble_eq_true rfl)) dL_law_375 ⟨Nat.le_of_ble_eq_true rfl, Nat.le_of_ble_eq_true rfl⟩) hS (fun r_4 G_5 H locs hpo hW hS => ?_)
    have hX_8 : P_Wlength_1 y_2 G r_4 G_5 := hpo
    obtain ⟨hB_G_5, hq_6, -⟩ := hpo
    refine lv_aload_n hx hb dL_law_378 rfl (lv_at hl 2 rfl) ?_
    refine lv_aload_n hx hb dL_law_379 rfl (lv_at hl 0 rfl) ?_
    refine lv_iload_n hx hb dL_law_380 rfl (lv_at hl 3 rfl) ?_
    refine lv_iconst (v := 1) hx hb dL_law_381 (by decide) ?_
    refine lv_iadd hx hb dL_law_382 ?_
    refine lv_topi (fun y_9 ey_9 => ?_)
    have ty_9 : y_9.toInt = i0.toInt + 1 := xI_add rfl rfl ey_9 (by omega) (by omega)
    refine va_sld hx hb hX hbl hbA hS (vin (by omega) (by omega)) dL_law_383 ?_
    refine lv_topi (fun y_10 ey_10 => ?_)
    have u_11 : y_10.toInt = (xs (i0 + 1).toNatClampNeg).toInt := by rw [ey_10, ey_9]
    refine S_calli (va_runV (As := [.int y_10]) (rest := [.int r_4]) ⟨hx, hb, hml, hown, hts⟩ (n_length l D k A a z G_5 y_10 ) (cwV 1 hts (gd_V hgd m1791 m1792 m1793 m131 m1794) rfl rfl rfl (by decide +kernel) ⟨Nat.le_of_ble_eq_true rfl, Nat.le_of_ble_eq_true rfl⟩) (pre_V hW hB_G_5 hK hZ hS kd_66 rfl) rfl rfl hl.1 rfl (lv_room (Nat.le_of_ble_eq_true rfl)) dL_law_384 ⟨Nat.le_of_ble_eq_true rfl, Nat.le_of_ble_eq_true rfl⟩) hS (fun r_12 G_13 H locs hpo hW hS => ?_)
    have hX_16 : Q_length y_10 G_5 r_12 G_13 := hpo
    obtain ⟨hB_G_13, hq_14, -⟩ := hpo
    have u_17 := L_length_1 hX_8 hX_16 (by omega) (by omega)
    refine lv_icmp_eq (tgt := 1641) hx hb dL_law_387 (by decide) (fun c_18 => ?_) (fun c_18 => ?_)
    · have c_18 : r_4.toInt = r_12.toInt := xI_eq rfl rfl c_18
      have g_19 : gIA G_13 = gIA G := gIA_fr (rs := []) (fs := []) ((Fr.rf.call hq_6 (by decide) (by decide)).call hq_14 (by decide) (by decide)) (by decide) (by decide)
      have g_20 : gO G_13 = gO G := gO_fr (rs := []) (fs := []) ((Fr.rf.call hq_6 (by decide) (by decide)).call hq_14 (by decide) (by decide)) (by decide) (by decide)
      have g_21 : gP G_13 = gP G := gP_fr (rs := []) (fs := []) ((Fr.rf.call hq_6 (by decide) (by decide)).call hq_14 (by decide) (by decide)) (by decide) (by decide)
      have g_22 : gS G_13 = gS G := gS_fr (rs := []) (fs := []) ((Fr.rf.call hq_6 (by decide) (by decide)).call hq_14 (by decide) (by decide)) (by decide) (by decide)
      have g_23 : gTE G_13 = gTE G := gTE_fr (rs := []) (fs := []) ((Fr.rf.call hq_6 (by decide) (by decide)).call hq_14 (by decide) (by decide)) (by decide) (by decide)
      have g_24 : gW G_13 = gW G := gW_fr (rs := []) (fs := []) ((Fr.rf.call hq_6 (by decide) (by decide)).call hq_14 (by decide) (by decide)) (by decide) (by decide)
      have b_25 : 0 ≤ (G.1 0 11).toInt ∧ (G.1 0 11).toInt ≤ 1600 := hB_G.i 0 11 rfl rfl
      have g_26 : (G_13.1 0 11).toInt = (G.1 0 11).toInt := by rw [show G_13.1 0 11 = (G.1 0 11) from ((hq_14.i 0 11 (by decide) (by decide)).trans (hq_6.i 0 11 (by decide) (by decide)))]
      have b_27 : 0 ≤ (G.1 3 7).toInt ∧ (G.1 3 7).toInt ≤ 4 := hB_G.i 3 7 rfl rfl
      have g_28 : (G_13.1 3 7).toInt = (G.1 3 7).toInt := by rw [show G_13.1 3 7 = (G.1 3 7) from ((hq_14.i 3 7 (by decide) (by decide)).trans (hq_6.i 3 7 (by decide) (by decide)))]
      have b_29 : (-1) ≤ (G.1 3 8).toInt ∧ (G.1 3 8).toInt ≤ 1600 := hB_G.i 3 8 rfl rfl
      have g_30 : (G_13.1 3 8).toInt = (G.1 3 8).toInt := by rw [show G_13.1 3 8 = (G.1 3 8) from ((hq_14.i 3 8 (by decide) (by decide)).trans (hq_6.i 3 8 (by decide) (by decide)))]
      have b_31 : 0 ≤ (G.1 30 4).toInt ∧ (G.1 30 4).toInt ≤ 40 := hB_G.i 30 4 rfl rfl
      have g_32 : (G_13.1 30 4).toInt = (G.1 30 4).toInt := by rw [show G_13.1 30 4 = (G.1 30 4) from ((hq_14.i 30 4 (by decide) (by decide)).trans (hq_6.i 30 4 (by decide) (by decide)))]
      have b_33 : 0 ≤ (G.1 30 5).toInt ∧ (G.1 30 5).toInt ≤ 40 := hB_G.i 30 5 rfl rfl
      have g_34 : (G_13.1 30 5).toInt = (G.1 30 5).toInt := by rw [show G_13.1 30 5 = (G.1 30 5) from ((hq_14.i 30 5 (by decide) (by decide)).trans (hq_6.i 30 5 (by decide) (by decide)))]
      have b_35 : 0 ≤ (G.1 31 6).toInt ∧ (G.1 31 6).toInt ≤ 100000 := hB_G.i 31 6 rfl rfl
      have g_36 : (G_13.1 31 6).toInt = (G.1 31 6).toInt := by rw [show G_13.1 31 6 = (G.1 31 6) from ((hq_14.i 31 6 (by decide) (by decide)).trans (hq_6.i 31 6 (by decide) (by decide)))]
      have b_37 : 0 ≤ (G.1 66 1).toInt ∧ (G.1 66 1).toInt ≤ 1600 := hB_G.i 66 1 rfl rfl
      have g_38 : (G_13.1 66 1).toInt = (G.1 66 1).toInt := by rw [show G_13.1 66 1 = (G.1 66 1) from ((hq_14.i 66 1 (by decide) (by decide)).trans (hq_6.i 66 1 (by decide) (by decide)))]
      have b_39 : 0 ≤ (G.1 66 2).toInt ∧ (G.1 66 2).toInt ≤ 4 := hB_G.i 66 2 rfl rfl
      have g_40 : (G_13.1 66 2).toInt = (G.1 66 2).toInt := by rw [show G_13.1 66 2 = (G.1 66 2) from ((hq_14.i 66 2 (by decide) (by decide)).trans (hq_6.i 66 2 (by decide) (by decide)))]
      have b_41 : (-1) ≤ (G.1 66 3).toInt ∧ (G.1 66 3).toInt ≤ 1600 := hB_G.i 66 3 rfl rfl
      have g_42 : (G_13.1 66 3).toInt = (G.1 66 3).toInt := by rw [show G_13.1 66 3 = (G.1 66 3) from ((hq_14.i 66 3 (by decide) (by decide)).trans (hq_6.i 66 3 (by decide) (by decide)))]
      have b_43 : 0 ≤ (G.1 66 78).toInt ∧ (G.1 66 78).toInt ≤ 40 := hB_G.i 66 78 rfl rfl
      have g_44 : (G_13.1 66 78).toInt = (G.1 66 78).toInt := by rw [show G_13.1 66 78 = (G.1 66 78) from ((hq_14.i 66 78 (by decide) (by decide)).trans (hq_6.i 66 78 (by decide) (by decide)))]
      have b_45 : 0 ≤ (G.1 66 79).toInt ∧ (G.1 66 79).toInt ≤ 40 := hB_G.i 66 79 rfl rfl
      have g_46 : (G_13.1 66 79).toInt = (G.1 66 79).toInt := by rw [show G_13.1 66 79 = (G.1 66 79) from ((hq_14.i 66 79 (by decide) (by decide)).trans (hq_6.i 66 79 (by decide) (by decide)))]
      have b_47 : 0 ≤ (G.1 66 86).toInt ∧ (G.1 66 86).toInt ≤ 100000 := hB_G.i 66 86 rfl rfl
      have g_48 : (G_13.1 66 86).toInt = (G.1 66 86).toInt := by rw [show G_13.1 66 86 = (G.1 66 86) from ((hq_14.i 66 86 (by decide) (by decide)).trans (hq_6.i 66 86 (by decide) (by decide)))]
      have b_49 : 0 ≤ (G.1 96 0).toInt ∧ (G.1 96 0).toInt ≤ 9 := hB_G.i 96 0 rfl rfl
      have g_50 : (G_13.1 96 0).toInt = (G.1 96 0).toInt := by rw [show G_13.1 96 0 = (G.1 96 0) from ((hq_14.i 96 0 (by decide) (by decide)).trans (hq_6.i 96 0 (by decide) (by decide)))]
      have b_51 : 0 ≤ (G.1 96 1).toInt ∧ (G.1 96 1).toInt ≤ 9 := hB_G.i 96 1 rfl rfl
      have g_52 : (G_13.1 96 1).toInt = (G.1 96 1).toInt := by rw [show G_13.1 96 1 = (G.1 96 1) from ((hq_14.i 96 1 (by decide) (by decide)).trans (hq_6.i 96 1 (by decide) (by decide)))]
      have b_53 : 0 ≤ (G.1 96 2).toInt ∧ (G.1 96 2).toInt ≤ 9 := hB_G.i 96 2 rfl rfl
      have g_54 : (G_13.1 96 2).toInt = (G.1 96 2).toInt := by rw [show G_13.1 96 2 = (G.1 96 2) from ((hq_14.i 96 2 (by decide) (by decide)).trans (hq_6.i 96 2 (by decide) (by decide)))]
      exact K G_13 _ _ _ (Or.inl ⟨((((hq_14.r 0 0 (by decide) (by decide)).trans (hq_6.r 0 0 (by decide) (by decide)))).trans (hv_0_0)), ((((hq_14.r 0 1 (by decide) (by decide)).trans (hq_6.r 0 1 (by decide) (by decide)))).trans (hv_0_1)), ((((hq_14.r 6 4 (by decide) (by decide)).trans (hq_6.r 6 4 (by decide) (by decide)))).trans (hv_6_4)), by omega, by omega, by omega, by omega, by omega, by omega, by omega, by omega, by omega, by omega, by omega, by omega, by omega⟩) hB_G_13 hW hS (lv_sub hl [0, 1, 2, 3] rfl)
    · have c_18 : r_4.toInt ≠ r_12.toInt := xI_ne rfl rfl c_18
      exfalso; omega
  · skip
    refine lv_aload_n hx hb dL_law_369 rfl (lv_at hl 1 rfl) ?_
    refine lv_aload_n hx hb dL_law_370 rfl (lv_at hl 0 rfl) ?_
    refine lv_iload_n hx hb dL_law_371 rfl (lv_at hl 3 rfl) ?_
    refine lv_iconst (v := 1) hx hb dL_law_372 (by decide) ?_
    refine lv_iadd hx hb dL_law_373 ?_
    refine lv_topi (fun y_1 ey_1 => ?_)
    have ty_1 : y_1.toInt = i0.toInt + 1 := xI_add rfl rfl ey_1 (by omega) (by omega)
    refine va_sld hx hb hX hbl hbA hS (vin (by omega) (by omega)) dL_law_374 ?_
    refine lv_topi (fun y_2 ey_2 => ?_)
    have u_3 : y_2.toInt = (xs (i0 + 1).toNatClampNeg).toInt := by rw [ey_2, ey_1]
    refine S_calli (va_runV (As := [.int y_2]) (rest := []) ⟨hx, hb, hml, hown, hts⟩ (k_Wlength_2 l D k A a z G y_2 hv_0_0 hv_0_1 hv_6_4) (cwV 1 hts (gd_V hgd m898 m899 m900 m117 m901) rfl rfl rfl (by decide +kernel) ⟨Nat.le_of_ble_eq_true rfl, Nat.le_of_ble_eq_true rfl⟩) (pre_V hW hB_G hK hZ hS kd_0 rfl) rfl rfl hl.1 rfl (lv_room (Nat.le_of_ble_eq_true rfl)) dL_law_375 ⟨Nat.le_of_ble_eq_true rfl, Nat.le_of_ble_eq_true rfl⟩) hS (fun r_4 G_5 H locs hpo hW hS => ?_)
    have hX_8 : P_Wlength_2 y_2 G r_4 G_5 := hpo
    obtain ⟨hB_G_5, hq_6, -⟩ := hpo
    refine lv_aload_n hx hb dL_law_378 rfl (lv_at hl 2 rfl) ?_
    refine lv_aload_n hx hb dL_law_379 rfl (lv_at hl 0 rfl) ?_
    refine lv_iload_n hx hb dL_law_380 rfl (lv_at hl 3 rfl) ?_
    refine lv_iconst (v := 1) hx hb dL_law_381 (by decide) ?_
    refine lv_iadd hx hb dL_law_382 ?_
    refine lv_topi (fun y_9 ey_9 => ?_)
    have ty_9 : y_9.toInt = i0.toInt + 1 := xI_add rfl rfl ey_9 (by omega) (by omega)
    refine va_sld hx hb hX hbl hbA hS (vin (by omega) (by omega)) dL_law_383 ?_
    refine lv_topi (fun y_10 ey_10 => ?_)
    have u_11 : y_10.toInt = (xs (i0 + 1).toNatClampNeg).toInt := by rw [ey_10, ey_9]
    refine S_calli (va_runV (As := [.int y_10]) (rest := [.int r_4]) ⟨hx, hb, hml, hown, hts⟩ (n_length l D k A a z G_5 y_10 ) (cwV 1 hts (gd_V hgd m1791 m1792 m1793 m131 m1794) rfl rfl rfl (by decide +kernel) ⟨Nat.le_of_ble_eq_true rfl, Nat.le_of_ble_eq_true rfl⟩) (pre_V hW hB_G_5 hK hZ hS kd_66 rfl) rfl rfl hl.1 rfl (lv_room (Nat.le_of_ble_eq_true rfl)) dL_law_384 ⟨Nat.le_of_ble_eq_true rfl, Nat.le_of_ble_eq_true rfl⟩) hS (fun r_12 G_13 H locs hpo hW hS => ?_)
    have hX_16 : Q_length y_10 G_5 r_12 G_13 := hpo
    obtain ⟨hB_G_13, hq_14, -⟩ := hpo
    have u_17 := L_length_2 hX_8 hX_16 (by omega) (by omega)
    refine lv_icmp_eq (tgt := 1641) hx hb dL_law_387 (by decide) (fun c_18 => ?_) (fun c_18 => ?_)
    · have c_18 : r_4.toInt = r_12.toInt := xI_eq rfl rfl c_18
      have g_19 : gIB G_13 = gIB G := gIB_fr (rs := []) (fs := []) ((Fr.rf.call hq_6 (by decide) (by decide)).call hq_14 (by decide) (by decide)) (by decide) (by decide)
      have g_20 : gO G_13 = gO G := gO_fr (rs := []) (fs := []) ((Fr.rf.call hq_6 (by decide) (by decide)).call hq_14 (by decide) (by decide)) (by decide) (by decide)
      have g_21 : gP G_13 = gP G := gP_fr (rs := []) (fs := []) ((Fr.rf.call hq_6 (by decide) (by decide)).call hq_14 (by decide) (by decide)) (by decide) (by decide)
      have g_22 : gS G_13 = gS G := gS_fr (rs := []) (fs := []) ((Fr.rf.call hq_6 (by decide) (by decide)).call hq_14 (by decide) (by decide)) (by decide) (by decide)
      have g_23 : gTE G_13 = gTE G := gTE_fr (rs := []) (fs := []) ((Fr.rf.call hq_6 (by decide) (by decide)).call hq_14 (by decide) (by decide)) (by decide) (by decide)
      have g_24 : gW G_13 = gW G := gW_fr (rs := []) (fs := []) ((Fr.rf.call hq_6 (by decide) (by decide)).call hq_14 (by decide) (by decide)) (by decide) (by decide)
      have b_25 : 0 ≤ (G.1 0 11).toInt ∧ (G.1 0 11).toInt ≤ 1600 := hB_G.i 0 11 rfl rfl
      have g_26 : (G_13.1 0 11).toInt = (G.1 0 11).toInt := by rw [show G_13.1 0 11 = (G.1 0 11) from ((hq_14.i 0 11 (by decide) (by decide)).trans (hq_6.i 0 11 (by decide) (by decide)))]
      have b_27 : 0 ≤ (G.1 3 7).toInt ∧ (G.1 3 7).toInt ≤ 4 := hB_G.i 3 7 rfl rfl
      have g_28 : (G_13.1 3 7).toInt = (G.1 3 7).toInt := by rw [show G_13.1 3 7 = (G.1 3 7) from ((hq_14.i 3 7 (by decide) (by decide)).trans (hq_6.i 3 7 (by decide) (by decide)))]
      have b_29 : (-1) ≤ (G.1 3 8).toInt ∧ (G.1 3 8).toInt ≤ 1600 := hB_G.i 3 8 rfl rfl
      have g_30 : (G_13.1 3 8).toInt = (G.1 3 8).toInt := by rw [show G_13.1 3 8 = (G.1 3 8) from ((hq_14.i 3 8 (by decide) (by decide)).trans (hq_6.i 3 8 (by decide) (by decide)))]
      have b_31 : 0 ≤ (G.1 30 4).toInt ∧ (G.1 30 4).toInt ≤ 40 := hB_G.i 30 4 rfl rfl
      have g_32 : (G_13.1 30 4).toInt = (G.1 30 4).toInt := by rw [show G_13.1 30 4 = (G.1 30 4) from ((hq_14.i 30 4 (by decide) (by decide)).trans (hq_6.i 30 4 (by decide) (by decide)))]
      have b_33 : 0 ≤ (G.1 30 5).toInt ∧ (G.1 30 5).toInt ≤ 40 := hB_G.i 30 5 rfl rfl
      have g_34 : (G_13.1 30 5).toInt = (G.1 30 5).toInt := by rw [show G_13.1 30 5 = (G.1 30 5) from ((hq_14.i 30 5 (by decide) (by decide)).trans (hq_6.i 30 5 (by decide) (by decide)))]
      have b_35 : 0 ≤ (G.1 31 6).toInt ∧ (G.1 31 6).toInt ≤ 100000 := hB_G.i 31 6 rfl rfl
      have g_36 : (G_13.1 31 6).toInt = (G.1 31 6).toInt := by rw [show G_13.1 31 6 = (G.1 31 6) from ((hq_14.i 31 6 (by decide) (by decide)).trans (hq_6.i 31 6 (by decide) (by decide)))]
      have b_37 : 0 ≤ (G.1 66 1).toInt ∧ (G.1 66 1).toInt ≤ 1600 := hB_G.i 66 1 rfl rfl
      have g_38 : (G_13.1 66 1).toInt = (G.1 66 1).toInt := by rw [show G_13.1 66 1 = (G.1 66 1) from ((hq_14.i 66 1 (by decide) (by decide)).trans (hq_6.i 66 1 (by decide) (by decide)))]
      have b_39 : 0 ≤ (G.1 66 2).toInt ∧ (G.1 66 2).toInt ≤ 4 := hB_G.i 66 2 rfl rfl
      have g_40 : (G_13.1 66 2).toInt = (G.1 66 2).toInt := by rw [show G_13.1 66 2 = (G.1 66 2) from ((hq_14.i 66 2 (by decide) (by decide)).trans (hq_6.i 66 2 (by decide) (by decide)))]
      have b_41 : (-1) ≤ (G.1 66 3).toInt ∧ (G.1 66 3).toInt ≤ 1600 := hB_G.i 66 3 rfl rfl
      have g_42 : (G_13.1 66 3).toInt = (G.1 66 3).toInt := by rw [show G_13.1 66 3 = (G.1 66 3) from ((hq_14.i 66 3 (by decide) (by decide)).trans (hq_6.i 66 3 (by decide) (by decide)))]
      have b_43 : 0 ≤ (G.1 66 78).toInt ∧ (G.1 66 78).toInt ≤ 40 := hB_G.i 66 78 rfl rfl
      have g_44 : (G_13.1 66 78).toInt = (G.1 66 78).toInt := by rw [show G_13.1 66 78 = (G.1 66 78) from ((hq_14.i 66 78 (by decide) (by decide)).trans (hq_6.i 66 78 (by decide) (by decide)))]
      have b_45 : 0 ≤ (G.1 66 79).toInt ∧ (G.1 66 79).toInt ≤ 40 := hB_G.i 66 79 rfl rfl
      have g_46 : (G_13.1 66 79).toInt = (G.1 66 79).toInt := by rw [show G_13.1 66 79 = (G.1 66 79) from ((hq_14.i 66 79 (by decide) (by decide)).trans (hq_6.i 66 79 (by decide) (by decide)))]
      have b_47 : 0 ≤ (G.1 66 86).toInt ∧ (G.1 66 86).toInt ≤ 100000 := hB_G.i 66 86 rfl rfl
      have g_48 : (G_13.1 66 86).toInt = (G.1 66 86).toInt := by rw [show G_13.1 66 86 = (G.1 66 86) from ((hq_14.i 66 86 (by decide) (by decide)).trans (hq_6.i 66 86 (by decide) (by decide)))]
      have b_49 : 0 ≤ (G.1 96 0).toInt ∧ (G.1 96 0).toInt ≤ 9 := hB_G.i 96 0 rfl rfl
      have g_50 : (G_13.1 96 0).toInt = (G.1 96 0).toInt := by rw [show G_13.1 96 0 = (G.1 96 0) from ((hq_14.i 96 0 (by decide) (by decide)).trans (hq_6.i 96 0 (by decide) (by decide)))]
      have b_51 : 0 ≤ (G.1 96 1).toInt ∧ (G.1 96 1).toInt ≤ 9 := hB_G.i 96 1 rfl rfl
      have g_52 : (G_13.1 96 1).toInt = (G.1 96 1).toInt := by rw [show G_13.1 96 1 = (G.1 96 1) from ((hq_14.i 96 1 (by decide) (by decide)).trans (hq_6.i 96 1 (by decide) (by decide)))]
      have b_53 : 0 ≤ (G.1 96 2).toInt ∧ (G.1 96 2).toInt ≤ 9 := hB_G.i 96 2 rfl rfl
      have g_54 : (G_13.1 96 2).toInt = (G.1 96 2).toInt := by rw [show G_13.1 96 2 = (G.1 96 2) from ((hq_14.i 96 2 (by decide) (by decide)).trans (hq_6.i 96 2 (by decide) (by decide)))]
      exact K G_13 _ _ _ (Or.inr ⟨((((hq_14.r 0 0 (by decide) (by decide)).trans (hq_6.r 0 0 (by decide) (by decide)))).trans (hv_0_0)), ((((hq_14.r 0 1 (by decide) (by decide)).trans (hq_6.r 0 1 (by decide) (by decide)))).trans (hv_0_1)), ((((hq_14.r 6 4 (by decide) (by decide)).trans (hq_6.r 6 4 (by decide) (by decide)))).trans (hv_6_4)), by omega, by omega, by omega, by omega, by omega, by omega, by omega, by omega, by omega, by omega, by omega, by omega, by omega⟩) hB_G_13 hW hS (lv_sub hl [0, 1, 2, 3] rfl)
    · have c_18 : r_4.toInt ≠ r_12.toInt := xI_ne rfl rfl c_18
      exfalso; omega

set_option maxHeartbeats 4000000 in
set_option maxRecDepth 100000 in
theorem law_6 {p : Program} {l : Launch} {e : Env} {s : State} {m : MethodId} {below : List Frame} {meth : Method} {c : Code} {D : va_G} {k : KT} {A : Nat → Prop} {a : Nat → Nat} {z : SK} {b L : Nat} {xs : Nat → Int32} (hL : L ≤ 3072) (C0 : lw_At p s m meth c b L xs) (hK : cK D k s) (hZ : Sx A z s) (hbA : ¬ A b) {G : GS} {i0 : Int32} (hi0 : 0 ≤ i0.toInt) (hi6 : i0.toInt + 6 ≤ L) (hI : LI G) (hB_G : Bd G) {H : Heap} {locs : List Loc} {ls : Array Slot} (hW : Wd D k A a G H) (hS : va_S A s.heap H locs) (hl : lv_has ls 4 [(0, .ref b), (1, .ref (a 0)), (2, .ref (a 66)), (3, .int i0)]) (K : ∀ (G1 : GS) (H1 : Heap) (locs1 : List Loc) (ls1 : Array Slot), LI G1 → Bd G1 → Wd D k A a G1 H1 → va_S A s.heap H1 locs1 → lv_has ls1 4 [(0, .ref b), (1, .ref (a 0)), (2, .ref (a 66)), (3, .int i0)] → W p l e room_1 s m #[Value.ref b] below meth c H1 locs1 119 46443 (lw_Z below #[Value.ref b] s) (F0 m 1641 ls1 [])) : W p l e room_1 s m #[Value.ref b] below meth c H locs 119 46443 (lw_Z below #[Value.ref b] s) (F0 m 392 ls []) := by
  obtain ⟨hx, hb, hr, hml, hown, hts, hX, hbl, hlocks, hgv⟩ := id C0
  have hown : s.vm.findClass RL = some m.cls := hown
  have hgd : ∀ w ∈ gd, w ∈ lw_tbl := fun w h => (List.mem_filter.mp h).1
  have hg : ∀ w ∈ gd, w.before #[Value.ref b] s = true := fun w h => hts w (hgd w h)
  rcases hI with ⟨hv_0_0, hv_0_1, hv_6_4, hj0, hj1, hj2, hj3, hj4, hj5, hj6, hj7, hj8, hj9, hj10, hj11⟩ | ⟨hv_0_0, hv_0_1, hv_6_4, hj0, hj1, hj2, hj3, hj4, hj5, hj6, hj7, hj8, hj9, hj10, hj11⟩
  · skip
    refine lv_aload_n hx hb dL_law_392 rfl (lv_at hl 1 rfl) ?_
    refine lv_aload_n hx hb dL_law_393 rfl (lv_at hl 0 rfl) ?_
    refine lv_iload_n hx hb dL_law_394 rfl (lv_at hl 3 rfl) ?_
    refine lv_iconst (v := 1) hx hb dL_law_395 (by decide) ?_
    refine lv_iadd hx hb dL_law_396 ?_
    refine lv_topi (fun y_1 ey_1 => ?_)
    have ty_1 : y_1.toInt = i0.toInt + 1 := xI_add rfl rfl ey_1 (by omega) (by omega)
    refine va_sld hx hb hX hbl hbA hS (vin (by omega) (by omega)) dL_law_397 ?_
    refine lv_topi (fun y_2 ey_2 => ?_)
    have u_3 : y_2.toInt = (xs (i0 + 1).toNatClampNeg).toInt := by rw [ey_2, ey_1]
    refine lv_aload_n hx hb dL_law_398 rfl (lv_at hl 0 rfl) ?_
    refine lv_iload_n hx hb dL_law_399 rfl (lv_at hl 3 rfl) ?_
    refine lv_iconst (v := 2) hx hb dL_law_400 (by decide) ?_
    refine lv_iadd hx hb dL_law_401 ?_
    refine lv_topi (fun y_4 ey_4 => ?_)
    have ty_4 : y_4.toInt = i0.toInt + 2 := xI_add rfl rfl ey_4 (by omega) (by omega)
    refine va_sld hx hb hX hbl hbA hS (vin (by omega) (by omega)) dL_law_402 ?_
    refine lv_topi (fun y_5 ey_5 => ?_)
    have u_6 : y_5.toInt = (xs (i0 + 2).toNatClampNeg).toInt := by rw [ey_5, ey_4]
    refine lv_aload_n hx hb dL_law_403 rfl (lv_at hl 0 rfl) ?_
    refine lv_iload_n hx hb dL_law_404 rfl (lv_at hl 3 rfl) ?_
    refine lv_iconst (v := 3) hx hb dL_law_405 (by decide) ?_
    refine lv_iadd hx hb dL_law_406 ?_
    refine lv_topi (fun y_7 ey_7 => ?_)
    have ty_7 : y_7.toInt = i0.toInt + 3 := xI_add rfl rfl ey_7 (by omega) (by omega)
    refine va_sld hx hb hX hbl hbA hS (vin (by omega) (by omega)) dL_law_407 ?_
    refine lv_topi (fun y_8 ey_8 => ?_)
    have u_9 : y_8.toInt = (xs (i0 + 3).toNatClampNeg).toInt := by rw [ey_8, ey_7]
    refine S_calli (va_runV (As := [.int y_2, .int y_5, .int y_8]) (rest := []) ⟨hx, hb, hml, hown, hts⟩ (k_Wline_1 l D k A a z G y_2 y_5 y_8 hv_0_0 hv_0_1 hv_6_4) (cwV 3 hts (gd_V hgd m903 m904 m905 m117 m906) rfl rfl rfl (by decide +kernel) ⟨Nat.le_of_ble_eq_true rfl, Nat.le_of_ble_eq_true rfl⟩) (pre_V hW hB_G hK hZ hS kd_0 rfl) rfl rfl hl.1 rfl (lv_room (Nat.le_of_ble_eq_true rfl)) dL_law_408 ⟨Nat.le_of_ble_eq_true rfl, Nat.le_of_ble_eq_true rfl⟩) hS (fun r_10 G_11 H locs hpo hW hS => ?_)
    have hX_14 : P_Wline_1 y_2 y_5 y_8 G r_10 G_11 := hpo
    obtain ⟨hB_G_11, hq_12, -⟩ := hpo
    refine lv_pop hx hb dL_law_411 rfl ?_
    refine lv_aload_n hx hb dL_law_412 rfl (lv_at hl 2 rfl) ?_
    refine lv_aload_n hx hb dL_law_413 rfl (lv_at hl 0 rfl) ?_
    refine lv_iload_n hx hb dL_law_414 rfl (lv_at hl 3 rfl) ?_
    refine lv_iconst (v := 1) hx hb dL_law_415 (by decide) ?_
    refine lv_iadd hx hb dL_law_416 ?_
    refine lv_topi (fun y_15 ey_15 => ?_)
    have ty_15 : y_15.toInt = i0.toInt + 1 := xI_add rfl rfl ey_15 (by omega) (by omega)
    refine va_sld hx hb hX hbl hbA hS (vin (by omega) (by omega)) dL_law_417 ?_
    refine lv_topi (fun y_16 ey_16 => ?_)
    have u_17 : y_16.toInt = (xs (i0 + 1).toNatClampNeg).toInt := by rw [ey_16, ey_15]
    refine lv_aload_n hx hb dL_law_418 rfl (lv_at hl 0 rfl) ?_
    refine lv_iload_n hx hb dL_law_419 rfl (lv_at hl 3 rfl) ?_
    refine lv_iconst (v := 2) hx hb dL_law_420 (by decide) ?_
    refine lv_iadd hx hb dL_law_421 ?_
    refine lv_topi (fun y_18 ey_18 => ?_)
    have ty_18 : y_18.toInt = i0.toInt + 2 := xI_add rfl rfl ey_18 (by omega) (by omega)
    refine va_sld hx hb hX hbl hbA hS (vin (by omega) (by omega)) dL_law_422 ?_
    refine lv_topi (fun y_19 ey_19 => ?_)
    have u_20 : y_19.toInt = (xs (i0 + 2).toNatClampNeg).toInt := by rw [ey_19, ey_18]
    refine lv_aload_n hx hb dL_law_423 rfl (lv_at hl 0 rfl) ?_
    refine lv_iload_n hx hb dL_law_424 rfl (lv_at hl 3 rfl) ?_
    refine lv_iconst (v := 3) hx hb dL_law_425 (by decide) ?_
    refine lv_iadd hx hb dL_law_426 ?_
    refine lv_topi (fun y_21 ey_21 => ?_)
    have ty_21 : y_21.toInt = i0.toInt + 3 := xI_add rfl rfl ey_21 (by omega) (by omega)
    refine va_sld hx hb hX hbl hbA hS (vin (by omega) (by omega)) dL_law_427 ?_
    refine lv_topi (fun y_22 ey_22 => ?_)
    have u_23 : y_22.toInt = (xs (i0 + 3).toNatClampNeg).toInt := by rw [ey_22, ey_21]
    have g_24 : gP G_11 = gP G := gP_fr (rs := [37, 38, 39]) (fs := [(6, 3)]) (Fr.rf.call hq_12 (by decide) (by decide)) (by decide) (by decide)
    refine S_calli (va_runV (As := [.int y_16, .int y_19, .int y_22]) (rest := []) ⟨hx, hb, hml, hown, hts⟩ (n_line l D k A a z G_11 y_16 y_19 y_22 (by omega)) (cwV 3 hts (gd_V hgd m1795 m1796 m1797 m131 m1798) rfl rfl rfl (by decide +kernel) ⟨Nat.le_of_ble_eq_true rfl, Nat.le_of_ble_eq_true rfl⟩) (pre_V hW hB_G_11 hK hZ hS kd_66 rfl) rfl rfl hl.1 rfl (lv_room (Nat.le_of_ble_eq_true rfl)) dL_law_428 ⟨Nat.le_of_ble_eq_true rfl, Nat.le_of_ble_eq_true rfl⟩) hS (fun r_25 G_26 H locs hpo hW hS => ?_)
    have hX_29 : Q_line y_16 y_19 y_22 G_11 r_25 G_26 := hpo
    obtain ⟨hB_G_26, hq_27, -⟩ := hpo
    obtain ⟨u_30, u_31⟩ := L_line_1 hX_14 hX_29 (by omega) (by omega) (by omega) (by omega)
    refine lv_pop hx hb dL_law_431 rfl ?_
    refine lv_goto (tgt := 1641) hx hb dL_law_432 (by decide) ?_
    have g_32 : gO G_26 = gO G := gO_fr (rs := [37, 38, 39, 76]) (fs := [(6, 3)]) ((Fr.rf.call hq_12 (by decide) (by decide)).call hq_27 (by decide) (by decide)) (by decide) (by decide)
    have g_33 : gP G_26 = gP G := gP_fr (rs := [37, 38, 39, 76]) (fs := [(6, 3)]) ((Fr.rf.call hq_12 (by decide) (by decide)).call hq_27 (by decide) (by decide)) (by decide) (by decide)
    have g_34 : gS G_26 = gS G := gS_fr (rs := [37, 38, 39, 76]) (fs := [(6, 3)]) ((Fr.rf.call hq_12 (by decide) (by decide)).call hq_27 (by decide) (by decide)) (by decide) (by decide)
    have g_35 : gTE G_26 = gTE G := gTE_fr (rs := [37, 38, 39, 76]) (fs := [(6, 3)]) ((Fr.rf.call hq_12 (by decide) (by decide)).call hq_27 (by decide) (by decide)) (by decide) (by decide)
    have g_36 : gW G_26 = gW G := gW_fr (rs := [37, 38, 39, 76]) (fs := [(6, 3)]) ((Fr.rf.call hq_12 (by decide) (by decide)).call hq_27 (by decide) (by decide)) (by decide) (by decide)
    have b_37 : 0 ≤ (G.1 0 11).toInt ∧ (G.1 0 11).toInt ≤ 1600 := hB_G.i 0 11 rfl rfl
    have g_38 : (G_26.1 0 11).toInt = (G.1 0 11).toInt := by rw [show G_26.1 0 11 = (G.1 0 11) from ((hq_27.i 0 11 (by decide) (by decide)).trans (hq_12.i 0 11 (by decide) (by decide)))]
    have b_39 : 0 ≤ (G.1 3 7).toInt ∧ (G.1 3 7).toInt ≤ 4 := hB_G.i 3 7 rfl rfl
    have g_40 : (G_26.1 3 7).toInt = (G.1 3 7).toInt := by rw [show G_26.1 3 7 = (G.1 3 7) from ((hq_27.i 3 7 (by decide) (by decide)).trans (hq_12.i 3 7 (by decide) (by decide)))]
    have b_41 : (-1) ≤ (G.1 3 8).toInt ∧ (G.1 3 8).toInt ≤ 1600 := hB_G.i 3 8 rfl rfl
    have g_42 : (G_26.1 3 8).toInt = (G.1 3 8).toInt := by rw [show G_26.1 3 8 = (G.1 3 8) from ((hq_27.i 3 8 (by decide) (by decide)).trans (hq_12.i 3 8 (by decide) (by decide)))]
    have b_43 : 0 ≤ (G.1 30 4).toInt ∧ (G.1 30 4).toInt ≤ 40 := hB_G.i 30 4 rfl rfl
    have g_44 : (G_26.1 30 4).toInt = (G.1 30 4).toInt := by rw [show G_26.1 30 4 = (G.1 30 4) from ((hq_27.i 30 4 (by decide) (by decide)).trans (hq_12.i 30 4 (by decide) (by decide)))]
    have b_45 : 0 ≤ (G.1 30 5).toInt ∧ (G.1 30 5).toInt ≤ 40 := hB_G.i 30 5 rfl rfl
    have g_46 : (G_26.1 30 5).toInt = (G.1 30 5).toInt := by rw [show G_26.1 30 5 = (G.1 30 5) from ((hq_27.i 30 5 (by decide) (by decide)).trans (hq_12.i 30 5 (by decide) (by decide)))]
    have b_47 : 0 ≤ (G.1 31 6).toInt ∧ (G.1 31 6).toInt ≤ 100000 := hB_G.i 31 6 rfl rfl
    have g_48 : (G_26.1 31 6).toInt = (G.1 31 6).toInt := by rw [show G_26.1 31 6 = (G.1 31 6) from ((hq_27.i 31 6 (by decide) (by decide)).trans (hq_12.i 31 6 (by decide) (by decide)))]
    have b_49 : 0 ≤ (G.1 66 1).toInt ∧ (G.1 66 1).toInt ≤ 1600 := hB_G.i 66 1 rfl rfl
    have g_50 : (G_26.1 66 1).toInt = (G.1 66 1).toInt := by rw [show G_26.1 66 1 = (G.1 66 1) from ((hq_27.i 66 1 (by decide) (by decide)).trans (hq_12.i 66 1 (by decide) (by decide)))]
    have b_51 : 0 ≤ (G.1 66 2).toInt ∧ (G.1 66 2).toInt ≤ 4 := hB_G.i 66 2 rfl rfl
    have g_52 : (G_26.1 66 2).toInt = (G.1 66 2).toInt := by rw [show G_26.1 66 2 = (G.1 66 2) from ((hq_27.i 66 2 (by decide) (by decide)).trans (hq_12.i 66 2 (by decide) (by decide)))]
    have b_53 : (-1) ≤ (G.1 66 3).toInt ∧ (G.1 66 3).toInt ≤ 1600 := hB_G.i 66 3 rfl rfl
    have g_54 : (G_26.1 66 3).toInt = (G.1 66 3).toInt := by rw [show G_26.1 66 3 = (G.1 66 3) from ((hq_27.i 66 3 (by decide) (by decide)).trans (hq_12.i 66 3 (by decide) (by decide)))]
    have b_55 : 0 ≤ (G.1 66 78).toInt ∧ (G.1 66 78).toInt ≤ 40 := hB_G.i 66 78 rfl rfl
    have g_56 : (G_26.1 66 78).toInt = (G.1 66 78).toInt := by rw [show G_26.1 66 78 = (G.1 66 78) from ((hq_27.i 66 78 (by decide) (by decide)).trans (hq_12.i 66 78 (by decide) (by decide)))]
    have b_57 : 0 ≤ (G.1 66 79).toInt ∧ (G.1 66 79).toInt ≤ 40 := hB_G.i 66 79 rfl rfl
    have g_58 : (G_26.1 66 79).toInt = (G.1 66 79).toInt := by rw [show G_26.1 66 79 = (G.1 66 79) from ((hq_27.i 66 79 (by decide) (by decide)).trans (hq_12.i 66 79 (by decide) (by decide)))]
    have b_59 : 0 ≤ (G.1 66 86).toInt ∧ (G.1 66 86).toInt ≤ 100000 := hB_G.i 66 86 rfl rfl
    have g_60 : (G_26.1 66 86).toInt = (G.1 66 86).toInt := by rw [show G_26.1 66 86 = (G.1 66 86) from ((hq_27.i 66 86 (by decide) (by decide)).trans (hq_12.i 66 86 (by decide) (by decide)))]
    have b_61 : 0 ≤ (G.1 96 0).toInt ∧ (G.1 96 0).toInt ≤ 9 := hB_G.i 96 0 rfl rfl
    have g_62 : (G_26.1 96 0).toInt = (G.1 96 0).toInt := by rw [show G_26.1 96 0 = (G.1 96 0) from ((hq_27.i 96 0 (by decide) (by decide)).trans (hq_12.i 96 0 (by decide) (by decide)))]
    have b_63 : 0 ≤ (G.1 96 1).toInt ∧ (G.1 96 1).toInt ≤ 9 := hB_G.i 96 1 rfl rfl
    have g_64 : (G_26.1 96 1).toInt = (G.1 96 1).toInt := by rw [show G_26.1 96 1 = (G.1 96 1) from ((hq_27.i 96 1 (by decide) (by decide)).trans (hq_12.i 96 1 (by decide) (by decide)))]
    have b_65 : 0 ≤ (G.1 96 2).toInt ∧ (G.1 96 2).toInt ≤ 9 := hB_G.i 96 2 rfl rfl
    have g_66 : (G_26.1 96 2).toInt = (G.1 96 2).toInt := by rw [show G_26.1 96 2 = (G.1 96 2) from ((hq_27.i 96 2 (by decide) (by decide)).trans (hq_12.i 96 2 (by decide) (by decide)))]
    exact K G_26 _ _ _ (Or.inl ⟨((((hq_27.r 0 0 (by decide) (by decide)).trans (hq_12.r 0 0 (by decide) (by decide)))).trans (hv_0_0)), ((((hq_27.r 0 1 (by decide) (by decide)).trans (hq_12.r 0 1 (by decide) (by decide)))).trans (hv_0_1)), ((((hq_27.r 6 4 (by decide) (by decide)).trans (hq_12.r 6 4 (by decide) (by decide)))).trans (hv_6_4)), by omega, by omega, by omega, by omega, by omega, by omega, by omega, by omega, by omega, by omega, by omega, by omega, by omega⟩) hB_G_26 hW hS (lv_sub hl [0, 1, 2, 3] rfl)
  · skip
    refine lv_aload_n hx hb dL_law_392 rfl (lv_at hl 1 rfl) ?_
    refine lv_aload_n hx hb dL_law_393 rfl (lv_at hl 0 rfl) ?_
    refine lv_iload_n hx hb dL_law_394 rfl (lv_at hl 3 rfl) ?_
    refine lv_iconst (v := 1) hx hb dL_law_395 (by decide) ?_
    refine lv_iadd hx hb dL_law_396 ?_
    refine lv_topi (fun y_1 ey_1 => ?_)
    have ty_1 : y_1.toInt = i0.toInt + 1 := xI_add rfl rfl ey_1 (by omega) (by omega)
    refine va_sld hx hb hX hbl hbA hS (vin (by omega) (by omega)) dL_law_397 ?_
    refine lv_topi (fun y_2 ey_2 => ?_)
    have u_3 : y_2.toInt = (xs (i0 + 1).toNatClampNeg).toInt := by rw [ey_2, ey_1]
    refine lv_aload_n hx hb dL_law_398 rfl (lv_at hl 0 rfl) ?_
    refine lv_iload_n hx hb dL_law_399 rfl (lv_at hl 3 rfl) ?_
    refine lv_iconst (v := 2) hx hb dL_law_400 (by decide) ?_
    refine lv_iadd hx hb dL_law_401 ?_
    refine lv_topi (fun y_4 ey_4 => ?_)
    have ty_4 : y_4.toInt = i0.toInt + 2 := xI_add rfl rfl ey_4 (by omega) (by omega)
    refine va_sld hx hb hX hbl hbA hS (vin (by omega) (by omega)) dL_law_402 ?_
    refine lv_topi (fun y_5 ey_5 => ?_)
    have u_6 : y_5.toInt = (xs (i0 + 2).toNatClampNeg).toInt := by rw [ey_5, ey_4]
    refine lv_aload_n hx hb dL_law_403 rfl (lv_at hl 0 rfl) ?_
    refine lv_iload_n hx hb dL_law_404 rfl (lv_at hl 3 rfl) ?_
    refine lv_iconst (v := 3) hx hb dL_law_405 (by decide) ?_
    refine lv_iadd hx hb dL_law_406 ?_
    refine lv_topi (fun y_7 ey_7 => ?_)
    have ty_7 : y_7.toInt = i0.toInt + 3 := xI_add rfl rfl ey_7 (by omega) (by omega)
    refine va_sld hx hb hX hbl hbA hS (vin (by omega) (by omega)) dL_law_407 ?_
    refine lv_topi (fun y_8 ey_8 => ?_)
    have u_9 : y_8.toInt = (xs (i0 + 3).toNatClampNeg).toInt := by rw [ey_8, ey_7]
    refine S_calli (va_runV (As := [.int y_2, .int y_5, .int y_8]) (rest := []) ⟨hx, hb, hml, hown, hts⟩ (k_Wline_2 l D k A a z G y_2 y_5 y_8 hv_0_0 hv_0_1 hv_6_4) (cwV 3 hts (gd_V hgd m903 m904 m905 m117 m906) rfl rfl rfl (by decide +kernel) ⟨Nat.le_of_ble_eq_true rfl, Nat.le_of_ble_eq_true rfl⟩) (pre_V hW hB_G hK hZ hS kd_0 rfl) rfl rfl hl.1 rfl (lv_room (Nat.le_of_ble_eq_true rfl)) dL_law_408 ⟨Nat.le_of_ble_eq_true rfl, Nat.le_of_ble_eq_true rfl⟩) hS (fun r_10 G_11 H locs hpo hW hS => ?_)
    have hX_14 : P_Wline_2 y_2 y_5 y_8 G r_10 G_11 := hpo
    obtain ⟨hB_G_11, hq_12, -⟩ := hpo
    refine lv_pop hx hb dL_law_411 rfl ?_
    refine lv_aload_n hx hb dL_law_412 rfl (lv_at hl 2 rfl) ?_
    refine lv_aload_n hx hb dL_law_413 rfl (lv_at hl 0 rfl) ?_
    refine lv_iload_n hx hb dL_law_414 rfl (lv_at hl 3 rfl) ?_
    refine lv_iconst (v := 1) hx hb dL_law_415 (by decide) ?_
    refine lv_iadd hx hb dL_law_416 ?_
    refine lv_topi (fun y_15 ey_15 => ?_)
    have ty_15 : y_15.toInt = i0.toInt + 1 := xI_add rfl rfl ey_15 (by omega) (by omega)
    refine va_sld hx hb hX hbl hbA hS (vin (by omega) (by omega)) dL_law_417 ?_
    refine lv_topi (fun y_16 ey_16 => ?_)
    have u_17 : y_16.toInt = (xs (i0 + 1).toNatClampNeg).toInt := by rw [ey_16, ey_15]
    refine lv_aload_n hx hb dL_law_418 rfl (lv_at hl 0 rfl) ?_
    refine lv_iload_n hx hb dL_law_419 rfl (lv_at hl 3 rfl) ?_
    refine lv_iconst (v := 2) hx hb dL_law_420 (by decide) ?_
    refine lv_iadd hx hb dL_law_421 ?_
    refine lv_topi (fun y_18 ey_18 => ?_)
    have ty_18 : y_18.toInt = i0.toInt + 2 := xI_add rfl rfl ey_18 (by omega) (by omega)
    refine va_sld hx hb hX hbl hbA hS (vin (by omega) (by omega)) dL_law_422 ?_
    refine lv_topi (fun y_19 ey_19 => ?_)
    have u_20 : y_19.toInt = (xs (i0 + 2).toNatClampNeg).toInt := by rw [ey_19, ey_18]
    refine lv_aload_n hx hb dL_law_423 rfl (lv_at hl 0 rfl) ?_
    refine lv_iload_n hx hb dL_law_424 rfl (lv_at hl 3 rfl) ?_
    refine lv_iconst (v := 3) hx hb dL_law_425 (by decide) ?_
    refine lv_iadd hx hb dL_law_426 ?_
    refine lv_topi (fun y_21 ey_21 => ?_)
    have ty_21 : y_21.toInt = i0.toInt + 3 := xI_add rfl rfl ey_21 (by omega) (by omega)
    refine va_sld hx hb hX hbl hbA hS (vin (by omega) (by omega)) dL_law_427 ?_
    refine lv_topi (fun y_22 ey_22 => ?_)
    have u_23 : y_22.toInt = (xs (i0 + 3).toNatClampNeg).toInt := by rw [ey_22, ey_21]
    have g_24 : gP G_11 = gP G := gP_fr (rs := [37, 38, 39]) (fs := [(6, 3)]) (Fr.rf.call hq_12 (by decide) (by decide)) (by decide) (by decide)
    refine S_calli (va_runV (As := [.int y_16, .int y_19, .int y_22]) (rest := []) ⟨hx, hb, hml, hown, hts⟩ (n_line l D k A a z G_11 y_16 y_19 y_22 (by omega)) (cwV 3 hts (gd_V hgd m1795 m1796 m1797 m131 m1798) rfl rfl rfl (by decide +kernel) ⟨Nat.le_of_ble_eq_true rfl, Nat.le_of_ble_eq_true rfl⟩) (pre_V hW hB_G_11 hK hZ hS kd_66 rfl) rfl rfl hl.1 rfl (lv_room (Nat.le_of_ble_eq_true rfl)) dL_law_428 ⟨Nat.le_of_ble_eq_true rfl, Nat.le_of_ble_eq_true rfl⟩) hS (fun r_25 G_26 H locs hpo hW hS => ?_)
    have hX_29 : Q_line y_16 y_19 y_22 G_11 r_25 G_26 := hpo
    obtain ⟨hB_G_26, hq_27, -⟩ := hpo
    obtain ⟨u_30, u_31⟩ := L_line_2 hX_14 hX_29 (by omega) (by omega) (by omega) (by omega)
    refine lv_pop hx hb dL_law_431 rfl ?_
    refine lv_goto (tgt := 1641) hx hb dL_law_432 (by decide) ?_
    have g_32 : gO G_26 = gO G := gO_fr (rs := [37, 38, 39, 76]) (fs := [(6, 3)]) ((Fr.rf.call hq_12 (by decide) (by decide)).call hq_27 (by decide) (by decide)) (by decide) (by decide)
    have g_33 : gP G_26 = gP G := gP_fr (rs := [37, 38, 39, 76]) (fs := [(6, 3)]) ((Fr.rf.call hq_12 (by decide) (by decide)).call hq_27 (by decide) (by decide)) (by decide) (by decide)
    have g_34 : gS G_26 = gS G := gS_fr (rs := [37, 38, 39, 76]) (fs := [(6, 3)]) ((Fr.rf.call hq_12 (by decide) (by decide)).call hq_27 (by decide) (by decide)) (by decide) (by decide)
    have g_35 : gTE G_26 = gTE G := gTE_fr (rs := [37, 38, 39, 76]) (fs := [(6, 3)]) ((Fr.rf.call hq_12 (by decide) (by decide)).call hq_27 (by decide) (by decide)) (by decide) (by decide)
    have g_36 : gW G_26 = gW G := gW_fr (rs := [37, 38, 39, 76]) (fs := [(6, 3)]) ((Fr.rf.call hq_12 (by decide) (by decide)).call hq_27 (by decide) (by decide)) (by decide) (by decide)
    have b_37 : 0 ≤ (G.1 0 11).toInt ∧ (G.1 0 11).toInt ≤ 1600 := hB_G.i 0 11 rfl rfl
    have g_38 : (G_26.1 0 11).toInt = (G.1 0 11).toInt := by rw [show G_26.1 0 11 = (G.1 0 11) from ((hq_27.i 0 11 (by decide) (by decide)).trans (hq_12.i 0 11 (by decide) (by decide)))]
    have b_39 : 0 ≤ (G.1 3 7).toInt ∧ (G.1 3 7).toInt ≤ 4 := hB_G.i 3 7 rfl rfl
    have g_40 : (G_26.1 3 7).toInt = (G.1 3 7).toInt := by rw [show G_26.1 3 7 = (G.1 3 7) from ((hq_27.i 3 7 (by decide) (by decide)).trans (hq_12.i 3 7 (by decide) (by decide)))]
    have b_41 : (-1) ≤ (G.1 3 8).toInt ∧ (G.1 3 8).toInt ≤ 1600 := hB_G.i 3 8 rfl rfl
    have g_42 : (G_26.1 3 8).toInt = (G.1 3 8).toInt := by rw [show G_26.1 3 8 = (G.1 3 8) from ((hq_27.i 3 8 (by decide) (by decide)).trans (hq_12.i 3 8 (by decide) (by decide)))]
    have b_43 : 0 ≤ (G.1 30 4).toInt ∧ (G.1 30 4).toInt ≤ 40 := hB_G.i 30 4 rfl rfl
    have g_44 : (G_26.1 30 4).toInt = (G.1 30 4).toInt := by rw [show G_26.1 30 4 = (G.1 30 4) from ((hq_27.i 30 4 (by decide) (by decide)).trans (hq_12.i 30 4 (by decide) (by decide)))]
    have b_45 : 0 ≤ (G.1 30 5).toInt ∧ (G.1 30 5).toInt ≤ 40 := hB_G.i 30 5 rfl rfl
    have g_46 : (G_26.1 30 5).toInt = (G.1 30 5).toInt := by rw [show G_26.1 30 5 = (G.1 30 5) from ((hq_27.i 30 5 (by decide) (by decide)).trans (hq_12.i 30 5 (by decide) (by decide)))]
    have b_47 : 0 ≤ (G.1 31 6).toInt ∧ (G.1 31 6).toInt ≤ 100000 := hB_G.i 31 6 rfl rfl
    have g_48 : (G_26.1 31 6).toInt = (G.1 31 6).toInt := by rw [show G_26.1 31 6 = (G.1 31 6) from ((hq_27.i 31 6 (by decide) (by decide)).trans (hq_12.i 31 6 (by decide) (by decide)))]
    have b_49 : 0 ≤ (G.1 66 1).toInt ∧ (G.1 66 1).toInt ≤ 1600 := hB_G.i 66 1 rfl rfl
    have g_50 : (G_26.1 66 1).toInt = (G.1 66 1).toInt := by rw [show G_26.1 66 1 = (G.1 66 1) from ((hq_27.i 66 1 (by decide) (by decide)).trans (hq_12.i 66 1 (by decide) (by decide)))]
    have b_51 : 0 ≤ (G.1 66 2).toInt ∧ (G.1 66 2).toInt ≤ 4 := hB_G.i 66 2 rfl rfl
    have g_52 : (G_26.1 66 2).toInt = (G.1 66 2).toInt := by rw [show G_26.1 66 2 = (G.1 66 2) from ((hq_27.i 66 2 (by decide) (by decide)).trans (hq_12.i 66 2 (by decide) (by decide)))]
    have b_53 : (-1) ≤ (G.1 66 3).toInt ∧ (G.1 66 3).toInt ≤ 1600 := hB_G.i 66 3 rfl rfl
    have g_54 : (G_26.1 66 3).toInt = (G.1 66 3).toInt := by rw [show G_26.1 66 3 = (G.1 66 3) from ((hq_27.i 66 3 (by decide) (by decide)).trans (hq_12.i 66 3 (by decide) (by decide)))]
    have b_55 : 0 ≤ (G.1 66 78).toInt ∧ (G.1 66 78).toInt ≤ 40 := hB_G.i 66 78 rfl rfl
    have g_56 : (G_26.1 66 78).toInt = (G.1 66 78).toInt := by rw [show G_26.1 66 78 = (G.1 66 78) from ((hq_27.i 66 78 (by decide) (by decide)).trans (hq_12.i 66 78 (by decide) (by decide)))]
    have b_57 : 0 ≤ (G.1 66 79).toInt ∧ (G.1 66 79).toInt ≤ 40 := hB_G.i 66 79 rfl rfl
    have g_58 : (G_26.1 66 79).toInt = (G.1 66 79).toInt := by rw [show G_26.1 66 79 = (G.1 66 79) from ((hq_27.i 66 79 (by decide) (by decide)).trans (hq_12.i 66 79 (by decide) (by decide)))]
    have b_59 : 0 ≤ (G.1 66 86).toInt ∧ (G.1 66 86).toInt ≤ 100000 := hB_G.i 66 86 rfl rfl
    have g_60 : (G_26.1 66 86).toInt = (G.1 66 86).toInt := by rw [show G_26.1 66 86 = (G.1 66 86) from ((hq_27.i 66 86 (by decide) (by decide)).trans (hq_12.i 66 86 (by decide) (by decide)))]
    have b_61 : 0 ≤ (G.1 96 0).toInt ∧ (G.1 96 0).toInt ≤ 9 := hB_G.i 96 0 rfl rfl
    have g_62 : (G_26.1 96 0).toInt = (G.1 96 0).toInt := by rw [show G_26.1 96 0 = (G.1 96 0) from ((hq_27.i 96 0 (by decide) (by decide)).trans (hq_12.i 96 0 (by decide) (by decide)))]
    have b_63 : 0 ≤ (G.1 96 1).toInt ∧ (G.1 96 1).toInt ≤ 9 := hB_G.i 96 1 rfl rfl
    have g_64 : (G_26.1 96 1).toInt = (G.1 96 1).toInt := by rw [show G_26.1 96 1 = (G.1 96 1) from ((hq_27.i 96 1 (by decide) (by decide)).trans (hq_12.i 96 1 (by decide) (by decide)))]
    have b_65 : 0 ≤ (G.1 96 2).toInt ∧ (G.1 96 2).toInt ≤ 9 := hB_G.i 96 2 rfl rfl
    have g_66 : (G_26.1 96 2).toInt = (G.1 96 2).toInt := by rw [show G_26.1 96 2 = (G.1 96 2) from ((hq_27.i 96 2 (by decide) (by decide)).trans (hq_12.i 96 2 (by decide) (by decide)))]
    exact K G_26 _ _ _ (Or.inr ⟨((((hq_27.r 0 0 (by decide) (by decide)).trans (hq_12.r 0 0 (by decide) (by decide)))).trans (hv_0_0)), ((((hq_27.r 0 1 (by decide) (by decide)).trans (hq_12.r 0 1 (by decide) (by decide)))).trans (hv_0_1)), ((((hq_27.r 6 4 (by decide) (by decide)).trans (hq_12.r 6 4 (by decide) (by decide)))).trans (hv_6_4)), by omega, by omega, by omega, by omega, by omega, by omega, by omega, by omega, by omega, by omega, by omega, by omega, by omega⟩) hB_G_26 hW hS (lv_sub hl [0, 1, 2, 3] rfl)

set_option maxHeartbeats 4000000 in
set_option maxRecDepth 100000 in
theorem law_7 {p : Program} {l : Launch} {e : Env} {s : State} {m : MethodId} {below : List Frame} {meth : Method} {c : Code} {D : va_G} {k : KT} {A : Nat → Prop} {a : Nat → Nat} {z : SK} {b L : Nat} {xs : Nat → Int32} (hL : L ≤ 3072) (C0 : lw_At p s m meth c b L xs) (hK : cK D k s) (hZ : Sx A z s) (hbA : ¬ A b) {G : GS} {i0 : Int32} (hi0 : 0 ≤ i0.toInt) (hi6 : i0.toInt + 6 ≤ L) (hI : LI G) (hB_G : Bd G) {H : Heap} {locs : List Loc} {ls : Array Slot} (hW : Wd D k A a G H) (hS : va_S A s.heap H locs) (hl : lv_has ls 4 [(0, .ref b), (1, .ref (a 0)), (2, .ref (a 66)), (3, .int i0)]) (K : ∀ (G1 : GS) (H1 : Heap) (locs1 : List Loc) (ls1 : Array Slot), LI G1 → Bd G1 → Wd D k A a G1 H1 → va_S A s.heap H1 locs1 → lv_has ls1 4 [(0, .ref b), (1, .ref (a 0)), (2, .ref (a 66)), (3, .int i0)] → W p l e room_1 s m #[Value.ref b] below meth c H1 locs1 119 46443 (lw_Z below #[Value.ref b] s) (F0 m 1641 ls1 [])) : W p l e room_1 s m #[Value.ref b] below meth c H locs 119 46443 (lw_Z below #[Value.ref b] s) (F0 m 435 ls []) := by
  obtain ⟨hx, hb, hr, hml, hown, hts, hX, hbl, hlocks, hgv⟩ := id C0
  have hown : s.vm.findClass RL = some m.cls := hown
  have hgd : ∀ w ∈ gd, w ∈ lw_tbl := fun w h => (List.mem_filter.mp h).1
  have hg : ∀ w ∈ gd, w.before #[Value.ref b] s = true := fun w h => hts w (hgd w h)
  rcases hI with ⟨hv_0_0, hv_0_1, hv_6_4, hj0, hj1, hj2, hj3, hj4, hj5, hj6, hj7, hj8, hj9, hj10, hj11⟩ | ⟨hv_0_0, hv_0_1, hv_6_4, hj0, hj1, hj2, hj3, hj4, hj5, hj6, hj7, hj8, hj9, hj10, hj11⟩
  · skip
    refine lv_aload_n hx hb dL_law_435 rfl (lv_at hl 1 rfl) ?_
    refine lv_aload_n hx hb dL_law_436 rfl (lv_at hl 0 rfl) ?_
    refine lv_iload_n hx hb dL_law_437 rfl (lv_at hl 3 rfl) ?_
    refine lv_iconst (v := 1) hx hb dL_law_438 (by decide) ?_
    refine lv_iadd hx hb dL_law_439 ?_
    refine lv_topi (fun y_1 ey_1 => ?_)
    have ty_1 : y_1.toInt = i0.toInt + 1 := xI_add rfl rfl ey_1 (by omega) (by omega)
    refine va_sld hx hb hX hbl hbA hS (vin (by omega) (by omega)) dL_law_440 ?_
    refine lv_topi (fun y_2 ey_2 => ?_)
    have u_3 : y_2.toInt = (xs (i0 + 1).toNatClampNeg).toInt := by rw [ey_2, ey_1]
    refine lv_aload_n hx hb dL_law_441 rfl (lv_at hl 0 rfl) ?_
    refine lv_iload_n hx hb dL_law_442 rfl (lv_at hl 3 rfl) ?_
    refine lv_iconst (v := 2) hx hb dL_law_443 (by decide) ?_
    refine lv_iadd hx hb dL_law_444 ?_
    refine lv_topi (fun y_4 ey_4 => ?_)
    have ty_4 : y_4.toInt = i0.toInt + 2 := xI_add rfl rfl ey_4 (by omega) (by omega)
    refine va_sld hx hb hX hbl hbA hS (vin (by omega) (by omega)) dL_law_445 ?_
    refine lv_topi (fun y_5 ey_5 => ?_)
    have u_6 : y_5.toInt = (xs (i0 + 2).toNatClampNeg).toInt := by rw [ey_5, ey_4]
    refine lv_aload_n hx hb dL_law_446 rfl (lv_at hl 0 rfl) ?_
    refine lv_iload_n hx hb dL_law_447 rfl (lv_at hl 3 rfl) ?_
    refine lv_iconst (v := 3) hx hb dL_law_448 (by decide) ?_
    refine lv_iadd hx hb dL_law_449 ?_
    refine lv_topi (fun y_7 ey_7 => ?_)
    have ty_7 : y_7.toInt = i0.toInt + 3 := xI_add rfl rfl ey_7 (by omega) (by omega)
    refine va_sld hx hb hX hbl hbA hS (vin (by omega) (by omega)) dL_law_450 ?_
    refine lv_topi (fun y_8 ey_8 => ?_)
    have u_9 : y_8.toInt = (xs (i0 + 3).toNatClampNeg).toInt := by rw [ey_8, ey_7]
    refine S_calli (va_runV (As := [.int y_2, .int y_5, .int y_8]) (rest := []) ⟨hx, hb, hml, hown, hts⟩ (k_Wgap_1 l D k A a z G y_2 y_5 y_8 hv_0_0 hv_0_1 hv_6_4) (cwV 3 hts (gd_V hgd m945 m946 m947 m117 m948) rfl rfl rfl (by decide +kernel) ⟨Nat.le_of_ble_eq_true rfl, Nat.le_of_ble_eq_true rfl⟩) (pre_V hW hB_G hK hZ hS kd_0 rfl) rfl rfl hl.1 rfl (lv_room (Nat.le_of_ble_eq_true rfl)) dL_law_451 ⟨Nat.le_of_ble_eq_true rfl, Nat.le_of_ble_eq_true rfl⟩) hS (fun r_10 G_11 H locs hpo hW hS => ?_)
    have hX_14 : P_Wgap_1 y_2 y_5 y_8 G r_10 G_11 := hpo
    obtain ⟨hB_G_11, hq_12, -⟩ := hpo
    refine lv_pop hx hb dL_law_454 rfl ?_
    refine lv_aload_n hx hb dL_law_455 rfl (lv_at hl 2 rfl) ?_
    refine lv_aload_n hx hb dL_law_456 rfl (lv_at hl 0 rfl) ?_
    refine lv_iload_n hx hb dL_law_457 rfl (lv_at hl 3 rfl) ?_
    refine lv_iconst (v := 1) hx hb dL_law_458 (by decide) ?_
    refine lv_iadd hx hb dL_law_459 ?_
    refine lv_topi (fun y_15 ey_15 => ?_)
    have ty_15 : y_15.toInt = i0.toInt + 1 := xI_add rfl rfl ey_15 (by omega) (by omega)
    refine va_sld hx hb hX hbl hbA hS (vin (by omega) (by omega)) dL_law_460 ?_
    refine lv_topi (fun y_16 ey_16 => ?_)
    have u_17 : y_16.toInt = (xs (i0 + 1).toNatClampNeg).toInt := by rw [ey_16, ey_15]
    refine lv_aload_n hx hb dL_law_461 rfl (lv_at hl 0 rfl) ?_
    refine lv_iload_n hx hb dL_law_462 rfl (lv_at hl 3 rfl) ?_
    refine lv_iconst (v := 2) hx hb dL_law_463 (by decide) ?_
    refine lv_iadd hx hb dL_law_464 ?_
    refine lv_topi (fun y_18 ey_18 => ?_)
    have ty_18 : y_18.toInt = i0.toInt + 2 := xI_add rfl rfl ey_18 (by omega) (by omega)
    refine va_sld hx hb hX hbl hbA hS (vin (by omega) (by omega)) dL_law_465 ?_
    refine lv_topi (fun y_19 ey_19 => ?_)
    have u_20 : y_19.toInt = (xs (i0 + 2).toNatClampNeg).toInt := by rw [ey_19, ey_18]
    refine lv_aload_n hx hb dL_law_466 rfl (lv_at hl 0 rfl) ?_
    refine lv_iload_n hx hb dL_law_467 rfl (lv_at hl 3 rfl) ?_
    refine lv_iconst (v := 3) hx hb dL_law_468 (by decide) ?_
    refine lv_iadd hx hb dL_law_469 ?_
    refine lv_topi (fun y_21 ey_21 => ?_)
    have ty_21 : y_21.toInt = i0.toInt + 3 := xI_add rfl rfl ey_21 (by omega) (by omega)
    refine va_sld hx hb hX hbl hbA hS (vin (by omega) (by omega)) dL_law_470 ?_
    refine lv_topi (fun y_22 ey_22 => ?_)
    have u_23 : y_22.toInt = (xs (i0 + 3).toNatClampNeg).toInt := by rw [ey_22, ey_21]
    have g_24 : gP G_11 = gP G := gP_fr (rs := [37, 38, 39]) (fs := [(6, 3)]) (Fr.rf.call hq_12 (by decide) (by decide)) (by decide) (by decide)
    refine S_calli (va_runV (As := [.int y_16, .int y_19, .int y_22]) (rest := []) ⟨hx, hb, hml, hown, hts⟩ (n_gap l D k A a z G_11 y_16 y_19 y_22 (by omega)) (cwV 3 hts (gd_V hgd m1818 m1819 m1820 m131 m1821) rfl rfl rfl (by decide +kernel) ⟨Nat.le_of_ble_eq_true rfl, Nat.le_of_ble_eq_true rfl⟩) (pre_V hW hB_G_11 hK hZ hS kd_66 rfl) rfl rfl hl.1 rfl (lv_room (Nat.le_of_ble_eq_true rfl)) dL_law_471 ⟨Nat.le_of_ble_eq_true rfl, Nat.le_of_ble_eq_true rfl⟩) hS (fun r_25 G_26 H locs hpo hW hS => ?_)
    have hX_29 : Q_gap y_16 y_19 y_22 G_11 r_25 G_26 := hpo
    obtain ⟨hB_G_26, hq_27, -⟩ := hpo
    obtain ⟨u_30, u_31⟩ := L_gap_1 hX_14 hX_29 (by omega) (by omega) (by omega) (by omega)
    refine lv_pop hx hb dL_law_474 rfl ?_
    refine lv_goto (tgt := 1641) hx hb dL_law_475 (by decide) ?_
    have g_32 : gO G_26 = gO G := gO_fr (rs := [37, 38, 39, 76]) (fs := [(6, 3)]) ((Fr.rf.call hq_12 (by decide) (by decide)).call hq_27 (by decide) (by decide)) (by decide) (by decide)
    have g_33 : gP G_26 = gP G := gP_fr (rs := [37, 38, 39, 76]) (fs := [(6, 3)]) ((Fr.rf.call hq_12 (by decide) (by decide)).call hq_27 (by decide) (by decide)) (by decide) (by decide)
    have g_34 : gS G_26 = gS G := gS_fr (rs := [37, 38, 39, 76]) (fs := [(6, 3)]) ((Fr.rf.call hq_12 (by decide) (by decide)).call hq_27 (by decide) (by decide)) (by decide) (by decide)
    have g_35 : gTE G_26 = gTE G := gTE_fr (rs := [37, 38, 39, 76]) (fs := [(6, 3)]) ((Fr.rf.call hq_12 (by decide) (by decide)).call hq_27 (by decide) (by decide)) (by decide) (by decide)
    have g_36 : gW G_26 = gW G := gW_fr (rs := [37, 38, 39, 76]) (fs := [(6, 3)]) ((Fr.rf.call hq_12 (by decide) (by decide)).call hq_27 (by decide) (by decide)) (by decide) (by decide)
    have b_37 : 0 ≤ (G.1 0 11).toInt ∧ (G.1 0 11).toInt ≤ 1600 := hB_G.i 0 11 rfl rfl
    have g_38 : (G_26.1 0 11).toInt = (G.1 0 11).toInt := by rw [show G_26.1 0 11 = (G.1 0 11) from ((hq_27.i 0 11 (by decide) (by decide)).trans (hq_12.i 0 11 (by decide) (by decide)))]
    have b_39 : 0 ≤ (G.1 3 7).toInt ∧ (G.1 3 7).toInt ≤ 4 := hB_G.i 3 7 rfl rfl
    have g_40 : (G_26.1 3 7).toInt = (G.1 3 7).toInt := by rw [show G_26.1 3 7 = (G.1 3 7) from ((hq_27.i 3 7 (by decide) (by decide)).trans (hq_12.i 3 7 (by decide) (by decide)))]
    have b_41 : (-1) ≤ (G.1 3 8).toInt ∧ (G.1 3 8).toInt ≤ 1600 := hB_G.i 3 8 rfl rfl
    have g_42 : (G_26.1 3 8).toInt = (G.1 3 8).toInt := by rw [show G_26.1 3 8 = (G.1 3 8) from ((hq_27.i 3 8 (by decide) (by decide)).trans (hq_12.i 3 8 (by decide) (by decide)))]
    have b_43 : 0 ≤ (G.1 30 4).toInt ∧ (G.1 30 4).toInt ≤ 40 := hB_G.i 30 4 rfl rfl
    have g_44 : (G_26.1 30 4).toInt = (G.1 30 4).toInt := by rw [show G_26.1 30 4 = (G.1 30 4) from ((hq_27.i 30 4 (by decide) (by decide)).trans (hq_12.i 30 4 (by decide) (by decide)))]
    have b_45 : 0 ≤ (G.1 30 5).toInt ∧ (G.1 30 5).toInt ≤ 40 := hB_G.i 30 5 rfl rfl
    have g_46 : (G_26.1 30 5).toInt = (G.1 30 5).toInt := by rw [show G_26.1 30 5 = (G.1 30 5) from ((hq_27.i 30 5 (by decide) (by decide)).trans (hq_12.i 30 5 (by decide) (by decide)))]
    have b_47 : 0 ≤ (G.1 31 6).toInt ∧ (G.1 31 6).toInt ≤ 100000 := hB_G.i 31 6 rfl rfl
    have g_48 : (G_26.1 31 6).toInt = (G.1 31 6).toInt := by rw [show G_26.1 31 6 = (G.1 31 6) from ((hq_27.i 31 6 (by decide) (by decide)).trans (hq_12.i 31 6 (by decide) (by decide)))]
    have b_49 : 0 ≤ (G.1 66 1).toInt ∧ (G.1 66 1).toInt ≤ 1600 := hB_G.i 66 1 rfl rfl
    have g_50 : (G_26.1 66 1).toInt = (G.1 66 1).toInt := by rw [show G_26.1 66 1 = (G.1 66 1) from ((hq_27.i 66 1 (by decide) (by decide)).trans (hq_12.i 66 1 (by decide) (by decide)))]
    have b_51 : 0 ≤ (G.1 66 2).toInt ∧ (G.1 66 2).toInt ≤ 4 := hB_G.i 66 2 rfl rfl
    have g_52 : (G_26.1 66 2).toInt = (G.1 66 2).toInt := by rw [show G_26.1 66 2 = (G.1 66 2) from ((hq_27.i 66 2 (by decide) (by decide)).trans (hq_12.i 66 2 (by decide) (by decide)))]
    have b_53 : (-1) ≤ (G.1 66 3).toInt ∧ (G.1 66 3).toInt ≤ 1600 := hB_G.i 66 3 rfl rfl
    have g_54 : (G_26.1 66 3).toInt = (G.1 66 3).toInt := by rw [show G_26.1 66 3 = (G.1 66 3) from ((hq_27.i 66 3 (by decide) (by decide)).trans (hq_12.i 66 3 (by decide) (by decide)))]
    have b_55 : 0 ≤ (G.1 66 78).toInt ∧ (G.1 66 78).toInt ≤ 40 := hB_G.i 66 78 rfl rfl
    have g_56 : (G_26.1 66 78).toInt = (G.1 66 78).toInt := by rw [show G_26.1 66 78 = (G.1 66 78) from ((hq_27.i 66 78 (by decide) (by decide)).trans (hq_12.i 66 78 (by decide) (by decide)))]
    have b_57 : 0 ≤ (G.1 66 79).toInt ∧ (G.1 66 79).toInt ≤ 40 := hB_G.i 66 79 rfl rfl
    have g_58 : (G_26.1 66 79).toInt = (G.1 66 79).toInt := by rw [show G_26.1 66 79 = (G.1 66 79) from ((hq_27.i 66 79 (by decide) (by decide)).trans (hq_12.i 66 79 (by decide) (by decide)))]
    have b_59 : 0 ≤ (G.1 66 86).toInt ∧ (G.1 66 86).toInt ≤ 100000 := hB_G.i 66 86 rfl rfl
    have g_60 : (G_26.1 66 86).toInt = (G.1 66 86).toInt := by rw [show G_26.1 66 86 = (G.1 66 86) from ((hq_27.i 66 86 (by decide) (by decide)).trans (hq_12.i 66 86 (by decide) (by decide)))]
    have b_61 : 0 ≤ (G.1 96 0).toInt ∧ (G.1 96 0).toInt ≤ 9 := hB_G.i 96 0 rfl rfl
    have g_62 : (G_26.1 96 0).toInt = (G.1 96 0).toInt := by rw [show G_26.1 96 0 = (G.1 96 0) from ((hq_27.i 96 0 (by decide) (by decide)).trans (hq_12.i 96 0 (by decide) (by decide)))]
    have b_63 : 0 ≤ (G.1 96 1).toInt ∧ (G.1 96 1).toInt ≤ 9 := hB_G.i 96 1 rfl rfl
    have g_64 : (G_26.1 96 1).toInt = (G.1 96 1).toInt := by rw [show G_26.1 96 1 = (G.1 96 1) from ((hq_27.i 96 1 (by decide) (by decide)).trans (hq_12.i 96 1 (by decide) (by decide)))]
    have b_65 : 0 ≤ (G.1 96 2).toInt ∧ (G.1 96 2).toInt ≤ 9 := hB_G.i 96 2 rfl rfl
    have g_66 : (G_26.1 96 2).toInt = (G.1 96 2).toInt := by rw [show G_26.1 96 2 = (G.1 96 2) from ((hq_27.i 96 2 (by decide) (by decide)).trans (hq_12.i 96 2 (by decide) (by decide)))]
    exact K G_26 _ _ _ (Or.inl ⟨((((hq_27.r 0 0 (by decide) (by decide)).trans (hq_12.r 0 0 (by decide) (by decide)))).trans (hv_0_0)), ((((hq_27.r 0 1 (by decide) (by decide)).trans (hq_12.r 0 1 (by decide) (by decide)))).trans (hv_0_1)), ((((hq_27.r 6 4 (by decide) (by decide)).trans (hq_12.r 6 4 (by decide) (by decide)))).trans (hv_6_4)), by omega, by omega, by omega, by omega, by omega, by omega, by omega, by omega, by omega, by omega, by omega, by omega, by omega⟩) hB_G_26 hW hS (lv_sub hl [0, 1, 2, 3] rfl)
  · skip
    refine lv_aload_n hx hb dL_law_435 rfl (lv_at hl 1 rfl) ?_
    refine lv_aload_n hx hb dL_law_436 rfl (lv_at hl 0 rfl) ?_
    refine lv_iload_n hx hb dL_law_437 rfl (lv_at hl 3 rfl) ?_
    refine lv_iconst (v := 1) hx hb dL_law_438 (by decide) ?_
    refine lv_iadd hx hb dL_law_439 ?_
    refine lv_topi (fun y_1 ey_1 => ?_)
    have ty_1 : y_1.toInt = i0.toInt + 1 := xI_add rfl rfl ey_1 (by omega) (by omega)
    refine va_sld hx hb hX hbl hbA hS (vin (by omega) (by omega)) dL_law_440 ?_
    refine lv_topi (fun y_2 ey_2 => ?_)
    have u_3 : y_2.toInt = (xs (i0 + 1).toNatClampNeg).toInt := by rw [ey_2, ey_1]
    refine lv_aload_n hx hb dL_law_441 rfl (lv_at hl 0 rfl) ?_
    refine lv_iload_n hx hb dL_law_442 rfl (lv_at hl 3 rfl) ?_
    refine lv_iconst (v := 2) hx hb dL_law_443 (by decide) ?_
    refine lv_iadd hx hb dL_law_444 ?_
    refine lv_topi (fun y_4 ey_4 => ?_)
    have ty_4 : y_4.toInt = i0.toInt + 2 := xI_add rfl rfl ey_4 (by omega) (by omega)
    refine va_sld hx hb hX hbl hbA hS (vin (by omega) (by omega)) dL_law_445 ?_
    refine lv_topi (fun y_5 ey_5 => ?_)
    have u_6 : y_5.toInt = (xs (i0 + 2).toNatClampNeg).toInt := by rw [ey_5, ey_4]
    refine lv_aload_n hx hb dL_law_446 rfl (lv_at hl 0 rfl) ?_
    refine lv_iload_n hx hb dL_law_447 rfl (lv_at hl 3 rfl) ?_
    refine lv_iconst (v := 3) hx hb dL_law_448 (by decide) ?_
    refine lv_iadd hx hb dL_law_449 ?_
    refine lv_topi (fun y_7 ey_7 => ?_)
    have ty_7 : y_7.toInt = i0.toInt + 3 := xI_add rfl rfl ey_7 (by omega) (by omega)
    refine va_sld hx hb hX hbl hbA hS (vin (by omega) (by omega)) dL_law_450 ?_
    refine lv_topi (fun y_8 ey_8 => ?_)
    have u_9 : y_8.toInt = (xs (i0 + 3).toNatClampNeg).toInt := by rw [ey_8, ey_7]
    refine S_calli (va_runV (As := [.int y_2, .int y_5, .int y_8]) (rest := []) ⟨hx, hb, hml, hown, hts⟩ (k_Wgap_2 l D k A a z G y_2 y_5 y_8 hv_0_0 hv_0_1 hv_6_4) (cwV 3 hts (gd_V hgd m945 m946 m947 m117 m948) rfl rfl rfl (by decide +kernel) ⟨Nat.le_of_ble_eq_true rfl, Nat.le_of_ble_eq_true rfl⟩) (pre_V hW hB_G hK hZ hS kd_0 rfl) rfl rfl hl.1 rfl (lv_room (Nat.le_of_ble_eq_true rfl)) dL_law_451 ⟨Nat.le_of_ble_eq_true rfl, Nat.le_of_ble_eq_true rfl⟩) hS (fun r_10 G_11 H locs hpo hW hS => ?_)
    have hX_14 : P_Wgap_2 y_2 y_5 y_8 G r_10 G_11 := hpo
    obtain ⟨hB_G_11, hq_12, -⟩ := hpo
    refine lv_pop hx hb dL_law_454 rfl ?_
    refine lv_aload_n hx hb dL_law_455 rfl (lv_at hl 2 rfl) ?_
    refine lv_aload_n hx hb dL_law_456 rfl (lv_at hl 0 rfl) ?_
    refine lv_iload_n hx hb dL_law_457 rfl (lv_at hl 3 rfl) ?_
    refine lv_iconst (v := 1) hx hb dL_law_458 (by decide) ?_
    refine lv_iadd hx hb dL_law_459 ?_
    refine lv_topi (fun y_15 ey_15 => ?_)
    have ty_15 : y_15.toInt = i0.toInt + 1 := xI_add rfl rfl ey_15 (by omega) (by omega)
    refine va_sld hx hb hX hbl hbA hS (vin (by omega) (by omega)) dL_law_460 ?_
    refine lv_topi (fun y_16 ey_16 => ?_)
    have u_17 : y_16.toInt = (xs (i0 + 1).toNatClampNeg).toInt := by rw [ey_16, ey_15]
    refine lv_aload_n hx hb dL_law_461 rfl (lv_at hl 0 rfl) ?_
    refine lv_iload_n hx hb dL_law_462 rfl (lv_at hl 3 rfl) ?_
    refine lv_iconst (v := 2) hx hb dL_law_463 (by decide) ?_
    refine lv_iadd hx hb dL_law_464 ?_
    refine lv_topi (fun y_18 ey_18 => ?_)
    have ty_18 : y_18.toInt = i0.toInt + 2 := xI_add rfl rfl ey_18 (by omega) (by omega)
    refine va_sld hx hb hX hbl hbA hS (vin (by omega) (by omega)) dL_law_465 ?_
    refine lv_topi (fun y_19 ey_19 => ?_)
    have u_20 : y_19.toInt = (xs (i0 + 2).toNatClampNeg).toInt := by rw [ey_19, ey_18]
    refine lv_aload_n hx hb dL_law_466 rfl (lv_at hl 0 rfl) ?_
    refine lv_iload_n hx hb dL_law_467 rfl (lv_at hl 3 rfl) ?_
    refine lv_iconst (v := 3) hx hb dL_law_468 (by decide) ?_
    refine lv_iadd hx hb dL_law_469 ?_
    refine lv_topi (fun y_21 ey_21 => ?_)
    have ty_21 : y_21.toInt = i0.toInt + 3 := xI_add rfl rfl ey_21 (by omega) (by omega)
    refine va_sld hx hb hX hbl hbA hS (vin (by omega) (by omega)) dL_law_470 ?_
    refine lv_topi (fun y_22 ey_22 => ?_)
    have u_23 : y_22.toInt = (xs (i0 + 3).toNatClampNeg).toInt := by rw [ey_22, ey_21]
    have g_24 : gP G_11 = gP G := gP_fr (rs := [37, 38, 39]) (fs := [(6, 3)]) (Fr.rf.call hq_12 (by decide) (by decide)) (by decide) (by decide)
    refine S_calli (va_runV (As := [.int y_16, .int y_19, .int y_22]) (rest := []) ⟨hx, hb, hml, hown, hts⟩ (n_gap l D k A a z G_11 y_16 y_19 y_22 (by omega)) (cwV 3 hts (gd_V hgd m1818 m1819 m1820 m131 m1821) rfl rfl rfl (by decide +kernel) ⟨Nat.le_of_ble_eq_true rfl, Nat.le_of_ble_eq_true rfl⟩) (pre_V hW hB_G_11 hK hZ hS kd_66 rfl) rfl rfl hl.1 rfl (lv_room (Nat.le_of_ble_eq_true rfl)) dL_law_471 ⟨Nat.le_of_ble_eq_true rfl, Nat.le_of_ble_eq_true rfl⟩) hS (fun r_25 G_26 H locs hpo hW hS => ?_)
    have hX_29 : Q_gap y_16 y_19 y_22 G_11 r_25 G_26 := hpo
    obtain ⟨hB_G_26, hq_27, -⟩ := hpo
    obtain ⟨u_30, u_31⟩ := L_gap_2 hX_14 hX_29 (by omega) (by omega) (by omega) (by omega)
    refine lv_pop hx hb dL_law_474 rfl ?_
    refine lv_goto (tgt := 1641) hx hb dL_law_475 (by decide) ?_
    have g_32 : gO G_26 = gO G := gO_fr (rs := [37, 38, 39, 76]) (fs := [(6, 3)]) ((Fr.rf.call hq_12 (by decide) (by decide)).call hq_27 (by decide) (by decide)) (by decide) (by decide)
    have g_33 : gP G_26 = gP G := gP_fr (rs := [37, 38, 39, 76]) (fs := [(6, 3)]) ((Fr.rf.call hq_12 (by decide) (by decide)).call hq_27 (by decide) (by decide)) (by decide) (by decide)
    have g_34 : gS G_26 = gS G := gS_fr (rs := [37, 38, 39, 76]) (fs := [(6, 3)]) ((Fr.rf.call hq_12 (by decide) (by decide)).call hq_27 (by decide) (by decide)) (by decide) (by decide)
    have g_35 : gTE G_26 = gTE G := gTE_fr (rs := [37, 38, 39, 76]) (fs := [(6, 3)]) ((Fr.rf.call hq_12 (by decide) (by decide)).call hq_27 (by decide) (by decide)) (by decide) (by decide)
    have g_36 : gW G_26 = gW G := gW_fr (rs := [37, 38, 39, 76]) (fs := [(6, 3)]) ((Fr.rf.call hq_12 (by decide) (by decide)).call hq_27 (by decide) (by decide)) (by decide) (by decide)
    have b_37 : 0 ≤ (G.1 0 11).toInt ∧ (G.1 0 11).toInt ≤ 1600 := hB_G.i 0 11 rfl rfl
    have g_38 : (G_26.1 0 11).toInt = (G.1 0 11).toInt := by rw [show G_26.1 0 11 = (G.1 0 11) from ((hq_27.i 0 11 (by decide) (by decide)).trans (hq_12.i 0 11 (by decide) (by decide)))]
    have b_39 : 0 ≤ (G.1 3 7).toInt ∧ (G.1 3 7).toInt ≤ 4 := hB_G.i 3 7 rfl rfl
    have g_40 : (G_26.1 3 7).toInt = (G.1 3 7).toInt := by rw [show G_26.1 3 7 = (G.1 3 7) from ((hq_27.i 3 7 (by decide) (by decide)).trans (hq_12.i 3 7 (by decide) (by decide)))]
    have b_41 : (-1) ≤ (G.1 3 8).toInt ∧ (G.1 3 8).toInt ≤ 1600 := hB_G.i 3 8 rfl rfl
    have g_42 : (G_26.1 3 8).toInt = (G.1 3 8).toInt := by rw [show G_26.1 3 8 = (G.1 3 8) from ((hq_27.i 3 8 (by decide) (by decide)).trans (hq_12.i 3 8 (by decide) (by decide)))]
    have b_43 : 0 ≤ (G.1 30 4).toInt ∧ (G.1 30 4).toInt ≤ 40 := hB_G.i 30 4 rfl rfl
    have g_44 : (G_26.1 30 4).toInt = (G.1 30 4).toInt := by rw [show G_26.1 30 4 = (G.1 30 4) from ((hq_27.i 30 4 (by decide) (by decide)).trans (hq_12.i 30 4 (by decide) (by decide)))]
    have b_45 : 0 ≤ (G.1 30 5).toInt ∧ (G.1 30 5).toInt ≤ 40 := hB_G.i 30 5 rfl rfl
    have g_46 : (G_26.1 30 5).toInt = (G.1 30 5).toInt := by rw [show G_26.1 30 5 = (G.1 30 5) from ((hq_27.i 30 5 (by decide) (by decide)).trans (hq_12.i 30 5 (by decide) (by decide)))]
    have b_47 : 0 ≤ (G.1 31 6).toInt ∧ (G.1 31 6).toInt ≤ 100000 := hB_G.i 31 6 rfl rfl
    have g_48 : (G_26.1 31 6).toInt = (G.1 31 6).toInt := by rw [show G_26.1 31 6 = (G.1 31 6) from ((hq_27.i 31 6 (by decide) (by decide)).trans (hq_12.i 31 6 (by decide) (by decide)))]
    have b_49 : 0 ≤ (G.1 66 1).toInt ∧ (G.1 66 1).toInt ≤ 1600 := hB_G.i 66 1 rfl rfl
    have g_50 : (G_26.1 66 1).toInt = (G.1 66 1).toInt := by rw [show G_26.1 66 1 = (G.1 66 1) from ((hq_27.i 66 1 (by decide) (by decide)).trans (hq_12.i 66 1 (by decide) (by decide)))]
    have b_51 : 0 ≤ (G.1 66 2).toInt ∧ (G.1 66 2).toInt ≤ 4 := hB_G.i 66 2 rfl rfl
    have g_52 : (G_26.1 66 2).toInt = (G.1 66 2).toInt := by rw [show G_26.1 66 2 = (G.1 66 2) from ((hq_27.i 66 2 (by decide) (by decide)).trans (hq_12.i 66 2 (by decide) (by decide)))]
    have b_53 : (-1) ≤ (G.1 66 3).toInt ∧ (G.1 66 3).toInt ≤ 1600 := hB_G.i 66 3 rfl rfl
    have g_54 : (G_26.1 66 3).toInt = (G.1 66 3).toInt := by rw [show G_26.1 66 3 = (G.1 66 3) from ((hq_27.i 66 3 (by decide) (by decide)).trans (hq_12.i 66 3 (by decide) (by decide)))]
    have b_55 : 0 ≤ (G.1 66 78).toInt ∧ (G.1 66 78).toInt ≤ 40 := hB_G.i 66 78 rfl rfl
    have g_56 : (G_26.1 66 78).toInt = (G.1 66 78).toInt := by rw [show G_26.1 66 78 = (G.1 66 78) from ((hq_27.i 66 78 (by decide) (by decide)).trans (hq_12.i 66 78 (by decide) (by decide)))]
    have b_57 : 0 ≤ (G.1 66 79).toInt ∧ (G.1 66 79).toInt ≤ 40 := hB_G.i 66 79 rfl rfl
    have g_58 : (G_26.1 66 79).toInt = (G.1 66 79).toInt := by rw [show G_26.1 66 79 = (G.1 66 79) from ((hq_27.i 66 79 (by decide) (by decide)).trans (hq_12.i 66 79 (by decide) (by decide)))]
    have b_59 : 0 ≤ (G.1 66 86).toInt ∧ (G.1 66 86).toInt ≤ 100000 := hB_G.i 66 86 rfl rfl
    have g_60 : (G_26.1 66 86).toInt = (G.1 66 86).toInt := by rw [show G_26.1 66 86 = (G.1 66 86) from ((hq_27.i 66 86 (by decide) (by decide)).trans (hq_12.i 66 86 (by decide) (by decide)))]
    have b_61 : 0 ≤ (G.1 96 0).toInt ∧ (G.1 96 0).toInt ≤ 9 := hB_G.i 96 0 rfl rfl
    have g_62 : (G_26.1 96 0).toInt = (G.1 96 0).toInt := by rw [show G_26.1 96 0 = (G.1 96 0) from ((hq_27.i 96 0 (by decide) (by decide)).trans (hq_12.i 96 0 (by decide) (by decide)))]
    have b_63 : 0 ≤ (G.1 96 1).toInt ∧ (G.1 96 1).toInt ≤ 9 := hB_G.i 96 1 rfl rfl
    have g_64 : (G_26.1 96 1).toInt = (G.1 96 1).toInt := by rw [show G_26.1 96 1 = (G.1 96 1) from ((hq_27.i 96 1 (by decide) (by decide)).trans (hq_12.i 96 1 (by decide) (by decide)))]
    have b_65 : 0 ≤ (G.1 96 2).toInt ∧ (G.1 96 2).toInt ≤ 9 := hB_G.i 96 2 rfl rfl
    have g_66 : (G_26.1 96 2).toInt = (G.1 96 2).toInt := by rw [show G_26.1 96 2 = (G.1 96 2) from ((hq_27.i 96 2 (by decide) (by decide)).trans (hq_12.i 96 2 (by decide) (by decide)))]
    exact K G_26 _ _ _ (Or.inr ⟨((((hq_27.r 0 0 (by decide) (by decide)).trans (hq_12.r 0 0 (by decide) (by decide)))).trans (hv_0_0)), ((((hq_27.r 0 1 (by decide) (by decide)).trans (hq_12.r 0 1 (by decide) (by decide)))).trans (hv_0_1)), ((((hq_27.r 6 4 (by decide) (by decide)).trans (hq_12.r 6 4 (by decide) (by decide)))).trans (hv_6_4)), by omega, by omega, by omega, by omega, by omega, by omega, by omega, by omega, by omega, by omega, by omega, by omega, by omega⟩) hB_G_26 hW hS (lv_sub hl [0, 1, 2, 3] rfl)
