theorem m878 : Cond.methodLink RL 32 yX11_inch ∈ gd := gd_mem 878 (by decide +kernel) (by decide +kernel)
theorem m879 : Cond.instanceMethod yX11_inch ∈ gd := gd_mem 879 (by decide +kernel) (by decide +kernel)
theorem m880 : Cond.selects RX11 yX11_inch yX11_inch ∈ gd := gd_mem 880 (by decide +kernel) (by decide +kernel)
theorem m881 : Cond.code yX11_inch cX11_inch 4 (some .int) ∈ gd := gd_mem 881 (by decide +kernel) (by decide +kernel)
theorem m898 : Cond.methodLink RL 37 yX11_length ∈ gd := gd_mem 898 (by decide +kernel) (by decide +kernel)
theorem m899 : Cond.instanceMethod yX11_length ∈ gd := gd_mem 899 (by decide +kernel) (by decide +kernel)
theorem m900 : Cond.selects RX11 yX11_length yX11_length ∈ gd := gd_mem 900 (by decide +kernel) (by decide +kernel)
theorem m901 : Cond.code yX11_length cX11_length 2 (some .int) ∈ gd := gd_mem 901 (by decide +kernel) (by decide +kernel)
theorem m903 : Cond.methodLink RL 41 yX11_line ∈ gd := gd_mem 903 (by decide +kernel) (by decide +kernel)
theorem m904 : Cond.instanceMethod yX11_line ∈ gd := gd_mem 904 (by decide +kernel) (by decide +kernel)
theorem m905 : Cond.selects RX11 yX11_line yX11_line ∈ gd := gd_mem 905 (by decide +kernel) (by decide +kernel)
theorem m906 : Cond.code yX11_line cX11_line 4 (some .int) ∈ gd := gd_mem 906 (by decide +kernel) (by decide +kernel)
theorem m945 : Cond.methodLink RL 45 yX11_gap ∈ gd := gd_mem 945 (by decide +kernel) (by decide +kernel)
theorem m946 : Cond.instanceMethod yX11_gap ∈ gd := gd_mem 946 (by decide +kernel) (by decide +kernel)
theorem m947 : Cond.selects RX11 yX11_gap yX11_gap ∈ gd := gd_mem 947 (by decide +kernel) (by decide +kernel)
theorem m948 : Cond.code yX11_gap cX11_gap 10 (some .int) ∈ gd := gd_mem 948 (by decide +kernel) (by decide +kernel)
theorem m1773 : Cond.methodLink RL 36 yX12_inch ∈ gd := gd_mem 1773 (by decide +kernel) (by decide +kernel)
theorem m1774 : Cond.instanceMethod yX12_inch ∈ gd := gd_mem 1774 (by decide +kernel) (by decide +kernel)
theorem m1775 : Cond.selects RX12 yX12_inch yX12_inch ∈ gd := gd_mem 1775 (by decide +kernel) (by decide +kernel)
theorem m1776 : Cond.code yX12_inch cX12_inch 5 (some .int) ∈ gd := gd_mem 1776 (by decide +kernel) (by decide +kernel)
theorem m1791 : Cond.methodLink RL 40 yX12_length ∈ gd := gd_mem 1791 (by decide +kernel) (by decide +kernel)
theorem m1792 : Cond.instanceMethod yX12_length ∈ gd := gd_mem 1792 (by decide +kernel) (by decide +kernel)
theorem m1793 : Cond.selects RX12 yX12_length yX12_length ∈ gd := gd_mem 1793 (by decide +kernel) (by decide +kernel)
theorem m1794 : Cond.code yX12_length cX12_length 2 (some .int) ∈ gd := gd_mem 1794 (by decide +kernel) (by decide +kernel)
theorem m1795 : Cond.methodLink RL 44 yX12_line ∈ gd := gd_mem 1795 (by decide +kernel) (by decide +kernel)
theorem m1796 : Cond.instanceMethod yX12_line ∈ gd := gd_mem 1796 (by decide +kernel) (by decide +kernel)
theorem m1797 : Cond.selects RX12 yX12_line yX12_line ∈ gd := gd_mem 1797 (by decide +kernel) (by decide +kernel)
theorem m1798 : Cond.code yX12_line cX12_line 4 (some .int) ∈ gd := gd_mem 1798 (by decide +kernel) (by decide +kernel)
theorem m1818 : Cond.methodLink RL 48 yX12_gap ∈ gd := gd_mem 1818 (by decide +kernel) (by decide +kernel)
theorem m1819 : Cond.instanceMethod yX12_gap ∈ gd := gd_mem 1819 (by decide +kernel) (by decide +kernel)
theorem m1820 : Cond.selects RX12 yX12_gap yX12_gap ∈ gd := gd_mem 1820 (by decide +kernel) (by decide +kernel)
theorem m1821 : Cond.code yX12_gap cX12_gap 10 (some .int) ∈ gd := gd_mem 1821 (by decide +kernel) (by decide +kernel)
theorem dL_law_326 : decode cL_law 326 = .ok (.aload_n 1, 1) := by decide +kernel
theorem dL_law_327 : decode cL_law 327 = .ok (.aload_n 0, 1) := by decide +kernel
theorem dL_law_328 : decode cL_law 328 = .ok (.iload_n 3, 1) := by decide +kernel
theorem dL_law_329 : decode cL_law 329 = .ok (.iconst 1, 1) := by decide +kernel
theorem dL_law_330 : decode cL_law 330 = .ok (.iadd, 1) := by decide +kernel
theorem dL_law_331 : decode cL_law 331 = .ok (.iaload, 1) := by decide +kernel
theorem dL_law_332 : decode cL_law 332 = .ok (.aload_n 0, 1) := by decide +kernel
theorem dL_law_333 : decode cL_law 333 = .ok (.iload_n 3, 1) := by decide +kernel
theorem dL_law_334 : decode cL_law 334 = .ok (.iconst 2, 1) := by decide +kernel
theorem dL_law_335 : decode cL_law 335 = .ok (.iadd, 1) := by decide +kernel
theorem dL_law_336 : decode cL_law 336 = .ok (.iaload, 1) := by decide +kernel
theorem dL_law_337 : decode cL_law 337 = .ok (.aload_n 0, 1) := by decide +kernel
theorem dL_law_338 : decode cL_law 338 = .ok (.iload_n 3, 1) := by decide +kernel
theorem dL_law_339 : decode cL_law 339 = .ok (.iconst 3, 1) := by decide +kernel
theorem dL_law_340 : decode cL_law 340 = .ok (.iadd, 1) := by decide +kernel
theorem dL_law_341 : decode cL_law 341 = .ok (.iaload, 1) := by decide +kernel
theorem dL_law_342 : decode cL_law 342 = .ok (.invokevirtual 32, 3) := by decide +kernel
theorem dL_law_345 : decode cL_law 345 = .ok (.pop, 1) := by decide +kernel
theorem dL_law_346 : decode cL_law 346 = .ok (.aload_n 2, 1) := by decide +kernel
theorem dL_law_347 : decode cL_law 347 = .ok (.aload_n 0, 1) := by decide +kernel
theorem dL_law_348 : decode cL_law 348 = .ok (.iload_n 3, 1) := by decide +kernel
theorem dL_law_349 : decode cL_law 349 = .ok (.iconst 1, 1) := by decide +kernel
theorem dL_law_350 : decode cL_law 350 = .ok (.iadd, 1) := by decide +kernel
theorem dL_law_351 : decode cL_law 351 = .ok (.iaload, 1) := by decide +kernel
theorem dL_law_352 : decode cL_law 352 = .ok (.aload_n 0, 1) := by decide +kernel
theorem dL_law_353 : decode cL_law 353 = .ok (.iload_n 3, 1) := by decide +kernel
theorem dL_law_354 : decode cL_law 354 = .ok (.iconst 2, 1) := by decide +kernel
theorem dL_law_355 : decode cL_law 355 = .ok (.iadd, 1) := by decide +kernel
theorem dL_law_356 : decode cL_law 356 = .ok (.iaload, 1) := by decide +kernel
theorem dL_law_357 : decode cL_law 357 = .ok (.aload_n 0, 1) := by decide +kernel
theorem dL_law_358 : decode cL_law 358 = .ok (.iload_n 3, 1) := by decide +kernel
theorem dL_law_359 : decode cL_law 359 = .ok (.iconst 3, 1) := by decide +kernel
theorem dL_law_360 : decode cL_law 360 = .ok (.iadd, 1) := by decide +kernel
theorem dL_law_361 : decode cL_law 361 = .ok (.iaload, 1) := by decide +kernel
theorem dL_law_362 : decode cL_law 362 = .ok (.invokevirtual 36, 3) := by decide +kernel
theorem dL_law_365 : decode cL_law 365 = .ok (.pop, 1) := by decide +kernel
theorem dL_law_366 : decode cL_law 366 = .ok (.goto 1275, 3) := by decide +kernel
theorem dL_law_369 : decode cL_law 369 = .ok (.aload_n 1, 1) := by decide +kernel
theorem dL_law_370 : decode cL_law 370 = .ok (.aload_n 0, 1) := by decide +kernel
theorem dL_law_371 : decode cL_law 371 = .ok (.iload_n 3, 1) := by decide +kernel
theorem dL_law_372 : decode cL_law 372 = .ok (.iconst 1, 1) := by decide +kernel
theorem dL_law_373 : decode cL_law 373 = .ok (.iadd, 1) := by decide +kernel
theorem dL_law_374 : decode cL_law 374 = .ok (.iaload, 1) := by decide +kernel
theorem dL_law_375 : decode cL_law 375 = .ok (.invokevirtual 37, 3) := by decide +kernel
theorem dL_law_378 : decode cL_law 378 = .ok (.pop, 1) := by decide +kernel
theorem dL_law_379 : decode cL_law 379 = .ok (.aload_n 2, 1) := by decide +kernel
theorem dL_law_380 : decode cL_law 380 = .ok (.aload_n 0, 1) := by decide +kernel
theorem dL_law_381 : decode cL_law 381 = .ok (.iload_n 3, 1) := by decide +kernel
theorem dL_law_382 : decode cL_law 382 = .ok (.iconst 1, 1) := by decide +kernel
theorem dL_law_383 : decode cL_law 383 = .ok (.iadd, 1) := by decide +kernel
theorem dL_law_384 : decode cL_law 384 = .ok (.iaload, 1) := by decide +kernel
theorem dL_law_385 : decode cL_law 385 = .ok (.invokevirtual 40, 3) := by decide +kernel
theorem dL_law_388 : decode cL_law 388 = .ok (.pop, 1) := by decide +kernel
theorem dL_law_389 : decode cL_law 389 = .ok (.goto 1252, 3) := by decide +kernel
theorem dL_law_392 : decode cL_law 392 = .ok (.aload_n 1, 1) := by decide +kernel
theorem dL_law_393 : decode cL_law 393 = .ok (.aload_n 0, 1) := by decide +kernel
theorem dL_law_394 : decode cL_law 394 = .ok (.iload_n 3, 1) := by decide +kernel
theorem dL_law_395 : decode cL_law 395 = .ok (.iconst 1, 1) := by decide +kernel
theorem dL_law_396 : decode cL_law 396 = .ok (.iadd, 1) := by decide +kernel
theorem dL_law_397 : decode cL_law 397 = .ok (.iaload, 1) := by decide +kernel
theorem dL_law_398 : decode cL_law 398 = .ok (.aload_n 0, 1) := by decide +kernel
theorem dL_law_399 : decode cL_law 399 = .ok (.iload_n 3, 1) := by decide +kernel
theorem dL_law_400 : decode cL_law 400 = .ok (.iconst 2, 1) := by decide +kernel
theorem dL_law_401 : decode cL_law 401 = .ok (.iadd, 1) := by decide +kernel
theorem dL_law_402 : decode cL_law 402 = .ok (.iaload, 1) := by decide +kernel
theorem dL_law_403 : decode cL_law 403 = .ok (.aload_n 0, 1) := by decide +kernel
theorem dL_law_404 : decode cL_law 404 = .ok (.iload_n 3, 1) := by decide +kernel
theorem dL_law_405 : decode cL_law 405 = .ok (.iconst 3, 1) := by decide +kernel
theorem dL_law_406 : decode cL_law 406 = .ok (.iadd, 1) := by decide +kernel
theorem dL_law_407 : decode cL_law 407 = .ok (.iaload, 1) := by decide +kernel
theorem dL_law_408 : decode cL_law 408 = .ok (.invokevirtual 41, 3) := by decide +kernel
theorem dL_law_411 : decode cL_law 411 = .ok (.pop, 1) := by decide +kernel
theorem dL_law_412 : decode cL_law 412 = .ok (.aload_n 2, 1) := by decide +kernel
theorem dL_law_413 : decode cL_law 413 = .ok (.aload_n 0, 1) := by decide +kernel
theorem dL_law_414 : decode cL_law 414 = .ok (.iload_n 3, 1) := by decide +kernel
theorem dL_law_415 : decode cL_law 415 = .ok (.iconst 1, 1) := by decide +kernel
theorem dL_law_416 : decode cL_law 416 = .ok (.iadd, 1) := by decide +kernel
theorem dL_law_417 : decode cL_law 417 = .ok (.iaload, 1) := by decide +kernel
theorem dL_law_418 : decode cL_law 418 = .ok (.aload_n 0, 1) := by decide +kernel
theorem dL_law_419 : decode cL_law 419 = .ok (.iload_n 3, 1) := by decide +kernel
theorem dL_law_420 : decode cL_law 420 = .ok (.iconst 2, 1) := by decide +kernel
theorem dL_law_421 : decode cL_law 421 = .ok (.iadd, 1) := by decide +kernel
theorem dL_law_422 : decode cL_law 422 = .ok (.iaload, 1) := by decide +kernel
theorem dL_law_423 : decode cL_law 423 = .ok (.aload_n 0, 1) := by decide +kernel
theorem dL_law_424 : decode cL_law 424 = .ok (.iload_n 3, 1) := by decide +kernel
theorem dL_law_425 : decode cL_law 425 = .ok (.iconst 3, 1) := by decide +kernel
theorem dL_law_426 : decode cL_law 426 = .ok (.iadd, 1) := by decide +kernel
theorem dL_law_427 : decode cL_law 427 = .ok (.iaload, 1) := by decide +kernel
theorem dL_law_428 : decode cL_law 428 = .ok (.invokevirtual 44, 3) := by decide +kernel
theorem dL_law_431 : decode cL_law 431 = .ok (.pop, 1) := by decide +kernel
theorem dL_law_432 : decode cL_law 432 = .ok (.goto 1209, 3) := by decide +kernel
theorem dL_law_435 : decode cL_law 435 = .ok (.aload_n 1, 1) := by decide +kernel
theorem dL_law_436 : decode cL_law 436 = .ok (.aload_n 0, 1) := by decide +kernel
theorem dL_law_437 : decode cL_law 437 = .ok (.iload_n 3, 1) := by decide +kernel
theorem dL_law_438 : decode cL_law 438 = .ok (.iconst 1, 1) := by decide +kernel
theorem dL_law_439 : decode cL_law 439 = .ok (.iadd, 1) := by decide +kernel
theorem dL_law_440 : decode cL_law 440 = .ok (.iaload, 1) := by decide +kernel
theorem dL_law_441 : decode cL_law 441 = .ok (.aload_n 0, 1) := by decide +kernel
theorem dL_law_442 : decode cL_law 442 = .ok (.iload_n 3, 1) := by decide +kernel
theorem dL_law_443 : decode cL_law 443 = .ok (.iconst 2, 1) := by decide +kernel
theorem dL_law_444 : decode cL_law 444 = .ok (.iadd, 1) := by decide +kernel
theorem dL_law_445 : decode cL_law 445 = .ok (.iaload, 1) := by decide +kernel
theorem dL_law_446 : decode cL_law 446 = .ok (.aload_n 0, 1) := by decide +kernel
theorem dL_law_447 : decode cL_law 447 = .ok (.iload_n 3, 1) := by decide +kernel
theorem dL_law_448 : decode cL_law 448 = .ok (.iconst 3, 1) := by decide +kernel
theorem dL_law_449 : decode cL_law 449 = .ok (.iadd, 1) := by decide +kernel
theorem dL_law_450 : decode cL_law 450 = .ok (.iaload, 1) := by decide +kernel
theorem dL_law_451 : decode cL_law 451 = .ok (.invokevirtual 45, 3) := by decide +kernel
theorem dL_law_454 : decode cL_law 454 = .ok (.pop, 1) := by decide +kernel
theorem dL_law_455 : decode cL_law 455 = .ok (.aload_n 2, 1) := by decide +kernel
theorem dL_law_456 : decode cL_law 456 = .ok (.aload_n 0, 1) := by decide +kernel
theorem dL_law_457 : decode cL_law 457 = .ok (.iload_n 3, 1) := by decide +kernel
theorem dL_law_458 : decode cL_law 458 = .ok (.iconst 1, 1) := by decide +kernel
theorem dL_law_459 : decode cL_law 459 = .ok (.iadd, 1) := by decide +kernel
theorem dL_law_460 : decode cL_law 460 = .ok (.iaload, 1) := by decide +kernel
theorem dL_law_461 : decode cL_law 461 = .ok (.aload_n 0, 1) := by decide +kernel
theorem dL_law_462 : decode cL_law 462 = .ok (.iload_n 3, 1) := by decide +kernel
theorem dL_law_463 : decode cL_law 463 = .ok (.iconst 2, 1) := by decide +kernel
theorem dL_law_464 : decode cL_law 464 = .ok (.iadd, 1) := by decide +kernel
theorem dL_law_465 : decode cL_law 465 = .ok (.iaload, 1) := by decide +kernel
theorem dL_law_466 : decode cL_law 466 = .ok (.aload_n 0, 1) := by decide +kernel
theorem dL_law_467 : decode cL_law 467 = .ok (.iload_n 3, 1) := by decide +kernel
theorem dL_law_468 : decode cL_law 468 = .ok (.iconst 3, 1) := by decide +kernel
theorem dL_law_469 : decode cL_law 469 = .ok (.iadd, 1) := by decide +kernel
theorem dL_law_470 : decode cL_law 470 = .ok (.iaload, 1) := by decide +kernel
theorem dL_law_471 : decode cL_law 471 = .ok (.invokevirtual 48, 3) := by decide +kernel
theorem dL_law_474 : decode cL_law 474 = .ok (.pop, 1) := by decide +kernel
theorem dL_law_475 : decode cL_law 475 = .ok (.goto 1166, 3) := by decide +kernel
set_option maxHeartbeats 4000000 in
set_option maxRecDepth 100000 in
theorem law_4 {p : Program} {l : Launch} {e : Env} {s : State} {m : MethodId} {below : List Frame} {meth : Method} {c : Code} {D : va_G} {k : KT} {A : Nat → Prop} {a : Nat → Nat} {z : SK} {b L : Nat} {xs : Nat → Int32} (hL : L ≤ 3072) (C0 : lw_At p s m meth c b L xs) (hK : cK D k s) (hZ : Sx A z s) (hbA : ¬ A b) {G : GS} {i0 : Int32} (hi0 : 0 ≤ i0.toInt) (hi6 : i0.toInt + 6 ≤ L) (hI : LI G) (hB_G : Bd G) {H : Heap} {locs : List Loc} {ls : Array Slot} (hW : Wd D k A a G H) (hS : va_S A s.heap H locs) (hl : lv_has ls 4 [(0, .ref b), (1, .ref (a 0)), (2, .ref (a 66)), (3, .int i0)]) (K : ∀ (G1 : GS) (H1 : Heap) (locs1 : List Loc) (ls1 : Array Slot), LI G1 → Bd G1 → Wd D k A a G1 H1 → va_S A s.heap H1 locs1 → lv_has ls1 4 [(0, .ref b), (1, .ref (a 0)), (2, .ref (a 66)), (3, .int i0)] → W p l e room_1 s m #[Value.ref b] below meth c H1 locs1 119 46443 (lw_Z below #[Value.ref b] s) (F0 m 1641 ls1 [])) : W p l e room_1 s m #[Value.ref b] below meth c H locs 119 46443 (lw_Z below #[Value.ref b] s) (F0 m 326 ls []) := by
  obtain ⟨hx, hb, hr, hml, hown, hts, hX, hbl, hlocks, hgv⟩ := id C0
  have hown : s.vm.findClass RL = some m.cls := hown
  have hgd : ∀ w ∈ gd, w ∈ lw_tbl := fun w h => (List.mem_filter.mp h).1
  have hg : ∀ w ∈ gd, w.before #[Value.ref b] s = true := fun w h => hts w (hgd w h)
  rcases hI with ⟨hv_0_0, hv_0_1, hv_6_4, hj0, hj1, hj2, hj3, hj4, hj5, hj6, hj7, hj8, hj9, hj10, hj11⟩ | ⟨hv_0_0, hv_0_1, hv_6_4, hj0, hj1, hj2, hj3, hj4, hj5, hj6, hj7, hj8, hj9, hj10, hj11⟩
  · skip
    refine lv_aload_n hx hb dL_law_326 rfl (lv_at hl 1 rfl) ?_
    refine lv_aload_n hx hb dL_law_327 rfl (lv_at hl 0 rfl) ?_
    refine lv_iload_n hx hb dL_law_328 rfl (lv_at hl 3 rfl) ?_
    refine lv_iconst (v := 1) hx hb dL_law_329 (by decide) ?_
    refine lv_iadd hx hb dL_law_330 ?_
    refine lv_topi (fun y_1 ey_1 => ?_)
    have ty_1 : y_1.toInt = i0.toInt + 1 := xI_add rfl rfl ey_1 (by omega) (by omega)
    refine va_sld hx hb hX hbl hbA hS (vin (by omega) (by omega)) dL_law_331 ?_
    refine lv_topi (fun y_2 ey_2 => ?_)
    have u_3 : y_2.toInt = (xs (i0 + 1).toNatClampNeg).toInt := by rw [ey_2, ey_1]
    refine lv_aload_n hx hb dL_law_332 rfl (lv_at hl 0 rfl) ?_
    refine lv_iload_n hx hb dL_law_333 rfl (lv_at hl 3 rfl) ?_
    refine lv_iconst (v := 2) hx hb dL_law_334 (by decide) ?_
    refine lv_iadd hx hb dL_law_335 ?_
    refine lv_topi (fun y_4 ey_4 => ?_)
    have ty_4 : y_4.toInt = i0.toInt + 2 := xI_add rfl rfl ey_4 (by omega) (by omega)
    refine va_sld hx hb hX hbl hbA hS (vin (by omega) (by omega)) dL_law_336 ?_
    refine lv_topi (fun y_5 ey_5 => ?_)
    have u_6 : y_5.toInt = (xs (i0 + 2).toNatClampNeg).toInt := by rw [ey_5, ey_4]
    refine lv_aload_n hx hb dL_law_337 rfl (lv_at hl 0 rfl) ?_
    refine lv_iload_n hx hb dL_law_338 rfl (lv_at hl 3 rfl) ?_
    refine lv_iconst (v := 3) hx hb dL_law_339 (by decide) ?_
    refine lv_iadd hx hb dL_law_340 ?_
    refine lv_topi (fun y_7 ey_7 => ?_)
    have ty_7 : y_7.toInt = i0.toInt + 3 := xI_add rfl rfl ey_7 (by omega) (by omega)
    refine va_sld hx hb hX hbl hbA hS (vin (by omega) (by omega)) dL_law_341 ?_
    refine lv_topi (fun y_8 ey_8 => ?_)
    have u_9 : y_8.toInt = (xs (i0 + 3).toNatClampNeg).toInt := by rw [ey_8, ey_7]
    refine S_calli (va_runV (As := [.int y_2, .int y_5, .int y_8]) (rest := []) ⟨hx, hb, hml, hown, hts⟩ (k_Winch_1 l D k A a z G y_2 y_5 y_8 hv_0_0 hv_0_1 hv_6_4) (cwV 3 hts (gd_V hgd m878 m879 m880 m117 m881) rfl rfl rfl (by decide +kernel) ⟨Nat.le_of_ble_eq_true rfl, Nat.le_of_ble_eq_true rfl⟩) (pre_V hW hB_G hK hZ hS kd_0 rfl) rfl rfl hl.1 rfl (lv_room (Nat.le_of_ble_eq_true rfl)) dL_law_342 ⟨Nat.le_of_ble_eq_true rfl, Nat.le_of_ble_eq_true rfl⟩) hS (fun r_10 G_11 H locs hpo hW hS => ?_)
    obtain ⟨hB_G_11, hq_12⟩ := hpo
    refine lv_pop hx hb dL_law_345 rfl ?_
    refine lv_aload_n hx hb dL_law_346 rfl (lv_at hl 2 rfl) ?_
    refine lv_aload_n hx hb dL_law_347 rfl (lv_at hl 0 rfl) ?_
    refine lv_iload_n hx hb dL_law_348 rfl (lv_at hl 3 rfl) ?_
    refine lv_iconst (v := 1) hx hb dL_law_349 (by decide) ?_
    refine lv_iadd hx hb dL_law_350 ?_
    refine lv_topi (fun y_14 ey_14 => ?_)
    have ty_14 : y_14.toInt = i0.toInt + 1 := xI_add rfl rfl ey_14 (by omega) (by omega)
    refine va_sld hx hb hX hbl hbA hS (vin (by omega) (by omega)) dL_law_351 ?_
    refine lv_topi (fun y_15 ey_15 => ?_)
    have u_16 : y_15.toInt = (xs (i0 + 1).toNatClampNeg).toInt := by rw [ey_15, ey_14]
    refine lv_aload_n hx hb dL_law_352 rfl (lv_at hl 0 rfl) ?_
    refine lv_iload_n hx hb dL_law_353 rfl (lv_at hl 3 rfl) ?_
    refine lv_iconst (v := 2) hx hb dL_law_354 (by decide) ?_
    refine lv_iadd hx hb dL_law_355 ?_
    refine lv_topi (fun y_17 ey_17 => ?_)
    have ty_17 : y_17.toInt = i0.toInt + 2 := xI_add rfl rfl ey_17 (by omega) (by omega)
    refine va_sld hx hb hX hbl hbA hS (vin (by omega) (by omega)) dL_law_356 ?_
    refine lv_topi (fun y_18 ey_18 => ?_)
    have u_19 : y_18.toInt = (xs (i0 + 2).toNatClampNeg).toInt := by rw [ey_18, ey_17]
    refine lv_aload_n hx hb dL_law_357 rfl (lv_at hl 0 rfl) ?_
    refine lv_iload_n hx hb dL_law_358 rfl (lv_at hl 3 rfl) ?_
    refine lv_iconst (v := 3) hx hb dL_law_359 (by decide) ?_
    refine lv_iadd hx hb dL_law_360 ?_
    refine lv_topi (fun y_20 ey_20 => ?_)
    have ty_20 : y_20.toInt = i0.toInt + 3 := xI_add rfl rfl ey_20 (by omega) (by omega)
    refine va_sld hx hb hX hbl hbA hS (vin (by omega) (by omega)) dL_law_361 ?_
    refine lv_topi (fun y_21 ey_21 => ?_)
    have u_22 : y_21.toInt = (xs (i0 + 3).toNatClampNeg).toInt := by rw [ey_21, ey_20]
    refine S_calli (va_runV (As := [.int y_15, .int y_18, .int y_21]) (rest := []) ⟨hx, hb, hml, hown, hts⟩ (n_inch l D k A a z G_11 y_15 y_18 y_21 ) (cwV 3 hts (gd_V hgd m1773 m1774 m1775 m131 m1776) rfl rfl rfl (by decide +kernel) ⟨Nat.le_of_ble_eq_true rfl, Nat.le_of_ble_eq_true rfl⟩) (pre_V hW hB_G_11 hK hZ hS kd_66 rfl) rfl rfl hl.1 rfl (lv_room (Nat.le_of_ble_eq_true rfl)) dL_law_362 ⟨Nat.le_of_ble_eq_true rfl, Nat.le_of_ble_eq_true rfl⟩) hS (fun r_23 G_24 H locs hpo hW hS => ?_)
    obtain ⟨hB_G_24, hq_25⟩ := hpo
    refine lv_pop hx hb dL_law_365 rfl ?_
    refine lv_goto (tgt := 1641) hx hb dL_law_366 (by decide) ?_
    have g_27 : gO G_24 = gO G := gO_fr (rs := []) (fs := []) ((Fr.rf.call hq_12 (by decide) (by decide)).call hq_25 (by decide) (by decide)) (by decide) (by decide)
    have g_28 : gP G_24 = gP G := gP_fr (rs := []) (fs := []) ((Fr.rf.call hq_12 (by decide) (by decide)).call hq_25 (by decide) (by decide)) (by decide) (by decide)
    have g_29 : gS G_24 = gS G := gS_fr (rs := []) (fs := []) ((Fr.rf.call hq_12 (by decide) (by decide)).call hq_25 (by decide) (by decide)) (by decide) (by decide)
    have g_30 : gTE G_24 = gTE G := gTE_fr (rs := []) (fs := []) ((Fr.rf.call hq_12 (by decide) (by decide)).call hq_25 (by decide) (by decide)) (by decide) (by decide)
    have g_31 : gW G_24 = gW G := gW_fr (rs := []) (fs := []) ((Fr.rf.call hq_12 (by decide) (by decide)).call hq_25 (by decide) (by decide)) (by decide) (by decide)
    have b_32 : 0 ≤ (G.1 0 11).toInt ∧ (G.1 0 11).toInt ≤ 1600 := hB_G.i 0 11 rfl rfl
    have g_33 : (G_24.1 0 11).toInt = (G.1 0 11).toInt := by rw [show G_24.1 0 11 = (G.1 0 11) from ((hq_25.i 0 11 (by decide) (by decide)).trans (hq_12.i 0 11 (by decide) (by decide)))]
    have b_34 : 0 ≤ (G.1 3 7).toInt ∧ (G.1 3 7).toInt ≤ 4 := hB_G.i 3 7 rfl rfl
    have g_35 : (G_24.1 3 7).toInt = (G.1 3 7).toInt := by rw [show G_24.1 3 7 = (G.1 3 7) from ((hq_25.i 3 7 (by decide) (by decide)).trans (hq_12.i 3 7 (by decide) (by decide)))]
    have b_36 : (-1) ≤ (G.1 3 8).toInt ∧ (G.1 3 8).toInt ≤ 1600 := hB_G.i 3 8 rfl rfl
    have g_37 : (G_24.1 3 8).toInt = (G.1 3 8).toInt := by rw [show G_24.1 3 8 = (G.1 3 8) from ((hq_25.i 3 8 (by decide) (by decide)).trans (hq_12.i 3 8 (by decide) (by decide)))]
    have b_38 : 0 ≤ (G.1 30 4).toInt ∧ (G.1 30 4).toInt ≤ 40 := hB_G.i 30 4 rfl rfl
    have g_39 : (G_24.1 30 4).toInt = (G.1 30 4).toInt := by rw [show G_24.1 30 4 = (G.1 30 4) from ((hq_25.i 30 4 (by decide) (by decide)).trans (hq_12.i 30 4 (by decide) (by decide)))]
    have b_40 : 0 ≤ (G.1 30 5).toInt ∧ (G.1 30 5).toInt ≤ 40 := hB_G.i 30 5 rfl rfl
    have g_41 : (G_24.1 30 5).toInt = (G.1 30 5).toInt := by rw [show G_24.1 30 5 = (G.1 30 5) from ((hq_25.i 30 5 (by decide) (by decide)).trans (hq_12.i 30 5 (by decide) (by decide)))]
    have b_42 : 0 ≤ (G.1 31 6).toInt ∧ (G.1 31 6).toInt ≤ 100000 := hB_G.i 31 6 rfl rfl
    have g_43 : (G_24.1 31 6).toInt = (G.1 31 6).toInt := by rw [show G_24.1 31 6 = (G.1 31 6) from ((hq_25.i 31 6 (by decide) (by decide)).trans (hq_12.i 31 6 (by decide) (by decide)))]
    have b_44 : 0 ≤ (G.1 66 1).toInt ∧ (G.1 66 1).toInt ≤ 1600 := hB_G.i 66 1 rfl rfl
    have g_45 : (G_24.1 66 1).toInt = (G.1 66 1).toInt := by rw [show G_24.1 66 1 = (G.1 66 1) from ((hq_25.i 66 1 (by decide) (by decide)).trans (hq_12.i 66 1 (by decide) (by decide)))]
    have b_46 : 0 ≤ (G.1 66 2).toInt ∧ (G.1 66 2).toInt ≤ 4 := hB_G.i 66 2 rfl rfl
    have g_47 : (G_24.1 66 2).toInt = (G.1 66 2).toInt := by rw [show G_24.1 66 2 = (G.1 66 2) from ((hq_25.i 66 2 (by decide) (by decide)).trans (hq_12.i 66 2 (by decide) (by decide)))]
    have b_48 : (-1) ≤ (G.1 66 3).toInt ∧ (G.1 66 3).toInt ≤ 1600 := hB_G.i 66 3 rfl rfl
    have g_49 : (G_24.1 66 3).toInt = (G.1 66 3).toInt := by rw [show G_24.1 66 3 = (G.1 66 3) from ((hq_25.i 66 3 (by decide) (by decide)).trans (hq_12.i 66 3 (by decide) (by decide)))]
    have b_50 : 0 ≤ (G.1 66 78).toInt ∧ (G.1 66 78).toInt ≤ 40 := hB_G.i 66 78 rfl rfl
    have g_51 : (G_24.1 66 78).toInt = (G.1 66 78).toInt := by rw [show G_24.1 66 78 = (G.1 66 78) from ((hq_25.i 66 78 (by decide) (by decide)).trans (hq_12.i 66 78 (by decide) (by decide)))]
    have b_52 : 0 ≤ (G.1 66 79).toInt ∧ (G.1 66 79).toInt ≤ 40 := hB_G.i 66 79 rfl rfl
    have g_53 : (G_24.1 66 79).toInt = (G.1 66 79).toInt := by rw [show G_24.1 66 79 = (G.1 66 79) from ((hq_25.i 66 79 (by decide) (by decide)).trans (hq_12.i 66 79 (by decide) (by decide)))]
    have b_54 : 0 ≤ (G.1 66 86).toInt ∧ (G.1 66 86).toInt ≤ 100000 := hB_G.i 66 86 rfl rfl
    have g_55 : (G_24.1 66 86).toInt = (G.1 66 86).toInt := by rw [show G_24.1 66 86 = (G.1 66 86) from ((hq_25.i 66 86 (by decide) (by decide)).trans (hq_12.i 66 86 (by decide) (by decide)))]
    have b_56 : 0 ≤ (G.1 96 0).toInt ∧ (G.1 96 0).toInt ≤ 9 := hB_G.i 96 0 rfl rfl
    have g_57 : (G_24.1 96 0).toInt = (G.1 96 0).toInt := by rw [show G_24.1 96 0 = (G.1 96 0) from ((hq_25.i 96 0 (by decide) (by decide)).trans (hq_12.i 96 0 (by decide) (by decide)))]
    have b_58 : 0 ≤ (G.1 96 1).toInt ∧ (G.1 96 1).toInt ≤ 9 := hB_G.i 96 1 rfl rfl
    have g_59 : (G_24.1 96 1).toInt = (G.1 96 1).toInt := by rw [show G_24.1 96 1 = (G.1 96 1) from ((hq_25.i 96 1 (by decide) (by decide)).trans (hq_12.i 96 1 (by decide) (by decide)))]
    have b_60 : 0 ≤ (G.1 96 2).toInt ∧ (G.1 96 2).toInt ≤ 9 := hB_G.i 96 2 rfl rfl
    have g_61 : (G_24.1 96 2).toInt = (G.1 96 2).toInt := by rw [show G_24.1 96 2 = (G.1 96 2) from ((hq_25.i 96 2 (by decide) (by decide)).trans (hq_12.i 96 2 (by decide) (by decide)))]
    exact K G_24 _ _ _ (Or.inl ⟨((((hq_25.r 0 0 (by decide) (by decide)).trans (hq_12.r 0 0 (by decide) (by decide)))).trans (hv_0_0)), ((((hq_25.r 0 1 (by decide) (by decide)).trans (hq_12.r 0 1 (by decide) (by decide)))).trans (hv_0_1)), ((((hq_25.r 6 4 (by decide) (by decide)).trans (hq_12.r 6 4 (by decide) (by decide)))).trans (hv_6_4)), by omega, by omega, by omega, by omega, by omega, by omega, by omega, by omega, by omega, by omega, by omega, by omega⟩) hB_G_24 hW hS (lv_sub hl [0, 1, 2, 3] rfl)
  · skip
    refine lv_aload_n hx hb dL_law_326 rfl (lv_at hl 1 rfl) ?_
    refine lv_aload_n hx hb dL_law_327 rfl (lv_at hl 0 rfl) ?_
    refine lv_iload_n hx hb dL_law_328 rfl (lv_at hl 3 rfl) ?_
    refine lv_iconst (v := 1) hx hb dL_law_329 (by decide) ?_
    refine lv_iadd hx hb dL_law_330 ?_
    refine lv_topi (fun y_1 ey_1 => ?_)
    have ty_1 : y_1.toInt = i0.toInt + 1 := xI_add rfl rfl ey_1 (by omega) (by omega)
    refine va_sld hx hb hX hbl hbA hS (vin (by omega) (by omega)) dL_law_331 ?_
    refine lv_topi (fun y_2 ey_2 => ?_)
    have u_3 : y_2.toInt = (xs (i0 + 1).toNatClampNeg).toInt := by rw [ey_2, ey_1]
    refine lv_aload_n hx hb dL_law_332 rfl (lv_at hl 0 rfl) ?_
    refine lv_iload_n hx hb dL_law_333 rfl (lv_at hl 3 rfl) ?_
    refine lv_iconst (v := 2) hx hb dL_law_334 (by decide) ?_
    refine lv_iadd hx hb dL_law_335 ?_
    refine lv_topi (fun y_4 ey_4 => ?_)
    have ty_4 : y_4.toInt = i0.toInt + 2 := xI_add rfl rfl ey_4 (by omega) (by omega)
    refine va_sld hx hb hX hbl hbA hS (vin (by omega) (by omega)) dL_law_336 ?_
    refine lv_topi (fun y_5 ey_5 => ?_)
    have u_6 : y_5.toInt = (xs (i0 + 2).toNatClampNeg).toInt := by rw [ey_5, ey_4]
    refine lv_aload_n hx hb dL_law_337 rfl (lv_at hl 0 rfl) ?_
    refine lv_iload_n hx hb dL_law_338 rfl (lv_at hl 3 rfl) ?_
    refine lv_iconst (v := 3) hx hb dL_law_339 (by decide) ?_
    refine lv_iadd hx hb dL_law_340 ?_
    refine lv_topi (fun y_7 ey_7 => ?_)
    have ty_7 : y_7.toInt = i0.toInt + 3 := xI_add rfl rfl ey_7 (by omega) (by omega)
    refine va_sld hx hb hX hbl hbA hS (vin (by omega) (by omega)) dL_law_341 ?_
    refine lv_topi (fun y_8 ey_8 => ?_)
    have u_9 : y_8.toInt = (xs (i0 + 3).toNatClampNeg).toInt := by rw [ey_8, ey_7]
    refine S_calli (va_runV (As := [.int y_2, .int y_5, .int y_8]) (rest := []) ⟨hx, hb, hml, hown, hts⟩ (k_Winch_2 l D k A a z G y_2 y_5 y_8 hv_0_0 hv_0_1 hv_6_4) (cwV 3 hts (gd_V hgd m878 m879 m880 m117 m881) rfl rfl rfl (by decide +kernel) ⟨Nat.le_of_ble_eq_true rfl, Nat.le_of_ble_eq_true rfl⟩) (pre_V hW hB_G hK hZ hS kd_0 rfl) rfl rfl hl.1 rfl (lv_room (Nat.le_of_ble_eq_true rfl)) dL_law_342 ⟨Nat.le_of_ble_eq_true rfl, Nat.le_of_ble_eq_true rfl⟩) hS (fun r_10 G_11 H locs hpo hW hS => ?_)
    obtain ⟨hB_G_11, hq_12⟩ := hpo
    refine lv_pop hx hb dL_law_345 rfl ?_
    refine lv_aload_n hx hb dL_law_346 rfl (lv_at hl 2 rfl) ?_
    refine lv_aload_n hx hb dL_law_347 rfl (lv_at hl 0 rfl) ?_
    refine lv_iload_n hx hb dL_law_348 rfl (lv_at hl 3 rfl) ?_
    refine lv_iconst (v := 1) hx hb dL_law_349 (by decide) ?_
    refine lv_iadd hx hb dL_law_350 ?_
    refine lv_topi (fun y_14 ey_14 => ?_)
    have ty_14 : y_14.toInt = i0.toInt + 1 := xI_add rfl rfl ey_14 (by omega) (by omega)
    refine va_sld hx hb hX hbl hbA hS (vin (by omega) (by omega)) dL_law_351 ?_
    refine lv_topi (fun y_15 ey_15 => ?_)
    have u_16 : y_15.toInt = (xs (i0 + 1).toNatClampNeg).toInt := by rw [ey_15, ey_14]
    refine lv_aload_n hx hb dL_law_352 rfl (lv_at hl 0 rfl) ?_
    refine lv_iload_n hx hb dL_law_353 rfl (lv_at hl 3 rfl) ?_
    refine lv_iconst (v := 2) hx hb dL_law_354 (by decide) ?_
    refine lv_iadd hx hb dL_law_355 ?_
    refine lv_topi (fun y_17 ey_17 => ?_)
    have ty_17 : y_17.toInt = i0.toInt + 2 := xI_add rfl rfl ey_17 (by omega) (by omega)
    refine va_sld hx hb hX hbl hbA hS (vin (by omega) (by omega)) dL_law_356 ?_
    refine lv_topi (fun y_18 ey_18 => ?_)
    have u_19 : y_18.toInt = (xs (i0 + 2).toNatClampNeg).toInt := by rw [ey_18, ey_17]
    refine lv_aload_n hx hb dL_law_357 rfl (lv_at hl 0 rfl) ?_
    refine lv_iload_n hx hb dL_law_358 rfl (lv_at hl 3 rfl) ?_
    refine lv_iconst (v := 3) hx hb dL_law_359 (by decide) ?_
    refine lv_iadd hx hb dL_law_360 ?_
    refine lv_topi (fun y_20 ey_20 => ?_)
    have ty_20 : y_20.toInt = i0.toInt + 3 := xI_add rfl rfl ey_20 (by omega) (by omega)
    refine va_sld hx hb hX hbl hbA hS (vin (by omega) (by omega)) dL_law_361 ?_
    refine lv_topi (fun y_21 ey_21 => ?_)
    have u_22 : y_21.toInt = (xs (i0 + 3).toNatClampNeg).toInt := by rw [ey_21, ey_20]
    refine S_calli (va_runV (As := [.int y_15, .int y_18, .int y_21]) (rest := []) ⟨hx, hb, hml, hown, hts⟩ (n_inch l D k A a z G_11 y_15 y_18 y_21 ) (cwV 3 hts (gd_V hgd m1773 m1774 m1775 m131 m1776) rfl rfl rfl (by decide +kernel) ⟨Nat.le_of_ble_eq_true rfl, Nat.le_of_ble_eq_true rfl⟩) (pre_V hW hB_G_11 hK hZ hS kd_66 rfl) rfl rfl hl.1 rfl (lv_room (Nat.le_of_ble_eq_true rfl)) dL_law_362 ⟨Nat.le_of_ble_eq_true rfl, Nat.le_of_ble_eq_true rfl⟩) hS (fun r_23 G_24 H locs hpo hW hS => ?_)
    obtain ⟨hB_G_24, hq_25⟩ := hpo
    refine lv_pop hx hb dL_law_365 rfl ?_
    refine lv_goto (tgt := 1641) hx hb dL_law_366 (by decide) ?_
    have g_27 : gO G_24 = gO G := gO_fr (rs := []) (fs := []) ((Fr.rf.call hq_12 (by decide) (by decide)).call hq_25 (by decide) (by decide)) (by decide) (by decide)
    have g_28 : gP G_24 = gP G := gP_fr (rs := []) (fs := []) ((Fr.rf.call hq_12 (by decide) (by decide)).call hq_25 (by decide) (by decide)) (by decide) (by decide)
    have g_29 : gS G_24 = gS G := gS_fr (rs := []) (fs := []) ((Fr.rf.call hq_12 (by decide) (by decide)).call hq_25 (by decide) (by decide)) (by decide) (by decide)
    have g_30 : gTE G_24 = gTE G := gTE_fr (rs := []) (fs := []) ((Fr.rf.call hq_12 (by decide) (by decide)).call hq_25 (by decide) (by decide)) (by decide) (by decide)
    have g_31 : gW G_24 = gW G := gW_fr (rs := []) (fs := []) ((Fr.rf.call hq_12 (by decide) (by decide)).call hq_25 (by decide) (by decide)) (by decide) (by decide)
    have b_32 : 0 ≤ (G.1 0 11).toInt ∧ (G.1 0 11).toInt ≤ 1600 := hB_G.i 0 11 rfl rfl
    have g_33 : (G_24.1 0 11).toInt = (G.1 0 11).toInt := by rw [show G_24.1 0 11 = (G.1 0 11) from ((hq_25.i 0 11 (by decide) (by decide)).trans (hq_12.i 0 11 (by decide) (by decide)))]
    have b_34 : 0 ≤ (G.1 3 7).toInt ∧ (G.1 3 7).toInt ≤ 4 := hB_G.i 3 7 rfl rfl
    have g_35 : (G_24.1 3 7).toInt = (G.1 3 7).toInt := by rw [show G_24.1 3 7 = (G.1 3 7) from ((hq_25.i 3 7 (by decide) (by decide)).trans (hq_12.i 3 7 (by decide) (by decide)))]
    have b_36 : (-1) ≤ (G.1 3 8).toInt ∧ (G.1 3 8).toInt ≤ 1600 := hB_G.i 3 8 rfl rfl
    have g_37 : (G_24.1 3 8).toInt = (G.1 3 8).toInt := by rw [show G_24.1 3 8 = (G.1 3 8) from ((hq_25.i 3 8 (by decide) (by decide)).trans (hq_12.i 3 8 (by decide) (by decide)))]
    have b_38 : 0 ≤ (G.1 30 4).toInt ∧ (G.1 30 4).toInt ≤ 40 := hB_G.i 30 4 rfl rfl
    have g_39 : (G_24.1 30 4).toInt = (G.1 30 4).toInt := by rw [show G_24.1 30 4 = (G.1 30 4) from ((hq_25.i 30 4 (by decide) (by decide)).trans (hq_12.i 30 4 (by decide) (by decide)))]
    have b_40 : 0 ≤ (G.1 30 5).toInt ∧ (G.1 30 5).toInt ≤ 40 := hB_G.i 30 5 rfl rfl
    have g_41 : (G_24.1 30 5).toInt = (G.1 30 5).toInt := by rw [show G_24.1 30 5 = (G.1 30 5) from ((hq_25.i 30 5 (by decide) (by decide)).trans (hq_12.i 30 5 (by decide) (by decide)))]
    have b_42 : 0 ≤ (G.1 31 6).toInt ∧ (G.1 31 6).toInt ≤ 100000 := hB_G.i 31 6 rfl rfl
    have g_43 : (G_24.1 31 6).toInt = (G.1 31 6).toInt := by rw [show G_24.1 31 6 = (G.1 31 6) from ((hq_25.i 31 6 (by decide) (by decide)).trans (hq_12.i 31 6 (by decide) (by decide)))]
    have b_44 : 0 ≤ (G.1 66 1).toInt ∧ (G.1 66 1).toInt ≤ 1600 := hB_G.i 66 1 rfl rfl
    have g_45 : (G_24.1 66 1).toInt = (G.1 66 1).toInt := by rw [show G_24.1 66 1 = (G.1 66 1) from ((hq_25.i 66 1 (by decide) (by decide)).trans (hq_12.i 66 1 (by decide) (by decide)))]
    have b_46 : 0 ≤ (G.1 66 2).toInt ∧ (G.1 66 2).toInt ≤ 4 := hB_G.i 66 2 rfl rfl
    have g_47 : (G_24.1 66 2).toInt = (G.1 66 2).toInt := by rw [show G_24.1 66 2 = (G.1 66 2) from ((hq_25.i 66 2 (by decide) (by decide)).trans (hq_12.i 66 2 (by decide) (by decide)))]
    have b_48 : (-1) ≤ (G.1 66 3).toInt ∧ (G.1 66 3).toInt ≤ 1600 := hB_G.i 66 3 rfl rfl
    have g_49 : (G_24.1 66 3).toInt = (G.1 66 3).toInt := by rw [show G_24.1 66 3 = (G.1 66 3) from ((hq_25.i 66 3 (by decide) (by decide)).trans (hq_12.i 66 3 (by decide) (by decide)))]
    have b_50 : 0 ≤ (G.1 66 78).toInt ∧ (G.1 66 78).toInt ≤ 40 := hB_G.i 66 78 rfl rfl
    have g_51 : (G_24.1 66 78).toInt = (G.1 66 78).toInt := by rw [show G_24.1 66 78 = (G.1 66 78) from ((hq_25.i 66 78 (by decide) (by decide)).trans (hq_12.i 66 78 (by decide) (by decide)))]
    have b_52 : 0 ≤ (G.1 66 79).toInt ∧ (G.1 66 79).toInt ≤ 40 := hB_G.i 66 79 rfl rfl
    have g_53 : (G_24.1 66 79).toInt = (G.1 66 79).toInt := by rw [show G_24.1 66 79 = (G.1 66 79) from ((hq_25.i 66 79 (by decide) (by decide)).trans (hq_12.i 66 79 (by decide) (by decide)))]
    have b_54 : 0 ≤ (G.1 66 86).toInt ∧ (G.1 66 86).toInt ≤ 100000 := hB_G.i 66 86 rfl rfl
    have g_55 : (G_24.1 66 86).toInt = (G.1 66 86).toInt := by rw [show G_24.1 66 86 = (G.1 66 86) from ((hq_25.i 66 86 (by decide) (by decide)).trans (hq_12.i 66 86 (by decide) (by decide)))]
    have b_56 : 0 ≤ (G.1 96 0).toInt ∧ (G.1 96 0).toInt ≤ 9 := hB_G.i 96 0 rfl rfl
    have g_57 : (G_24.1 96 0).toInt = (G.1 96 0).toInt := by rw [show G_24.1 96 0 = (G.1 96 0) from ((hq_25.i 96 0 (by decide) (by decide)).trans (hq_12.i 96 0 (by decide) (by decide)))]
    have b_58 : 0 ≤ (G.1 96 1).toInt ∧ (G.1 96 1).toInt ≤ 9 := hB_G.i 96 1 rfl rfl
    have g_59 : (G_24.1 96 1).toInt = (G.1 96 1).toInt := by rw [show G_24.1 96 1 = (G.1 96 1) from ((hq_25.i 96 1 (by decide) (by decide)).trans (hq_12.i 96 1 (by decide) (by decide)))]
    have b_60 : 0 ≤ (G.1 96 2).toInt ∧ (G.1 96 2).toInt ≤ 9 := hB_G.i 96 2 rfl rfl
    have g_61 : (G_24.1 96 2).toInt = (G.1 96 2).toInt := by rw [show G_24.1 96 2 = (G.1 96 2) from ((hq_25.i 96 2 (by decide) (by decide)).trans (hq_12.i 96 2 (by decide) (by decide)))]
    exact K G_24 _ _ _ (Or.inr ⟨((((hq_25.r 0 0 (by decide) (by decide)).trans (hq_12.r 0 0 (by decide) (by decide)))).trans (hv_0_0)), ((((hq_25.r 0 1 (by decide) (by decide)).trans (hq_12.r 0 1 (by decide) (by decide)))).trans (hv_0_1)), ((((hq_25.r 6 4 (by decide) (by decide)).trans (hq_12.r 6 4 (by decide) (by decide)))).trans (hv_6_4)), by omega, by omega, by omega, by omega, by omega, by omega, by omega, by omega, by omega, by omega, by omega, by omega⟩) hB_G_24 hW hS (lv_sub hl [0, 1, 2, 3] rfl)

set_option maxHeartbeats 4000000 in
set_option maxRecDepth 100000 in
theorem law_5 {p : Program} {l : Launch} {e : Env} {s : State} {m : MethodId} {below : List Frame} {meth : Method} {c : Code} {D : va_G} {k : KT} {A : Nat → Prop} {a : Nat → Nat} {z : SK} {b L : Nat} {xs : Nat → Int32} (hL : L ≤ 3072) (C0 : lw_At p s m meth c b L xs) (hK : cK D k s) (hZ : Sx A z s) (hbA : ¬ A b) {G : GS} {i0 : Int32} (hi0 : 0 ≤ i0.toInt) (hi6 : i0.toInt + 6 ≤ L) (hI : LI G) (hB_G : Bd G) {H : Heap} {locs : List Loc} {ls : Array Slot} (hW : Wd D k A a G H) (hS : va_S A s.heap H locs) (hl : lv_has ls 4 [(0, .ref b), (1, .ref (a 0)), (2, .ref (a 66)), (3, .int i0)]) (K : ∀ (G1 : GS) (H1 : Heap) (locs1 : List Loc) (ls1 : Array Slot), LI G1 → Bd G1 → Wd D k A a G1 H1 → va_S A s.heap H1 locs1 → lv_has ls1 4 [(0, .ref b), (1, .ref (a 0)), (2, .ref (a 66)), (3, .int i0)] → W p l e room_1 s m #[Value.ref b] below meth c H1 locs1 119 46443 (lw_Z below #[Value.ref b] s) (F0 m 1641 ls1 [])) : W p l e room_1 s m #[Value.ref b] below meth c H locs 119 46443 (lw_Z below #[Value.ref b] s) (F0 m 369 ls []) := by
  obtain ⟨hx, hb, hr, hml, hown, hts, hX, hbl, hlocks, hgv⟩ := id C0
  have hown : s.vm.findClass RL = some m.cls := hown
  have hgd : ∀ w ∈ gd, w ∈ lw_tbl := fun w h => (List.mem_filter.mp h).1
  have hg : ∀ w ∈ gd, w.before #[Value.ref b] s = true := fun w h => hts w (hgd w h)
  rcases hI with ⟨hv_0_0, hv_0_1, hv_6_4, hj0, hj1, hj2, hj3, hj4, hj5, hj6, hj7, hj8, hj9, hj10, hj11⟩ | ⟨hv_0_0, hv_0_1, hv_6_4, hj0, hj1, hj2, hj3, hj4, hj5, hj6, hj7, hj8, hj9, hj10, hj11⟩
  · skip
    refine lv_aload_n hx hb dL_law_369 rfl (lv_at hl 1 rfl) ?_
    refine lv_aload_n hx hb dL_law_370 rfl (lv_at hl 0 rfl) ?_
    refine lv_iload_n hx hb dL_law_371 rfl (lv_at hl 3 rfl) ?_
    refine lv_iconst (v := 1) hx hb dL_law_372 (by decide) ?_
    refine lv_iadd hx hb dL_law_373 ?_
    refine lv_topi (fun y_1 ey_1 => ?_)
    have ty_1 : y_1.toInt = i0.toInt + 1 := xI_add rfl rfl ey_1 (by omega) (by omega)
    refine va_sld hx hb hX hbl hbA hS (vin (by omega) (by omega)) dL_law_374 ?_
    refine lv_topi (fun y_2 ey_2 => ?_)
    have u_3 : y_2.toInt = (xs (i0 + 1).toNatClampNeg).toInt := by rw [ey_2, ey_1]
    refine S_calli (va_runV (As := [.int y_2]) (rest := []) ⟨hx, hb, hml, hown, hts⟩ (k_Wlength_1 l D k A a z G y_2 hv_0_0 hv_0_1 hv_6_4) (cwV 1 hts (gd_V hgd m898 m899 m900 m117 m901) rfl rfl rfl (by decide +kernel) ⟨Nat.le_of_ble_eq_true rfl, Nat.le_of_ble_eq_true rfl⟩) (pre_V hW hB_G hK hZ hS kd_0 rfl) rfl rfl hl.1 rfl (lv_room (Nat.le_of_ble_eq_true rfl)) dL_law_375 ⟨Nat.le_of_ble_eq_true rfl, Nat.le_of_ble_eq_true rfl⟩) hS (fun r_4 G_5 H locs hpo hW hS => ?_)
    obtain ⟨hB_G_5, hq_6⟩ := hpo
    refine lv_pop hx hb dL_law_378 rfl ?_
    refine lv_aload_n hx hb dL_law_379 rfl (lv_at hl 2 rfl) ?_
    refine lv_aload_n hx hb dL_law_380 rfl (lv_at hl 0 rfl) ?_
    refine lv_iload_n hx hb dL_law_381 rfl (lv_at hl 3 rfl) ?_
    refine lv_iconst (v := 1) hx hb dL_law_382 (by decide) ?_
    refine lv_iadd hx hb dL_law_383 ?_
    refine lv_topi (fun y_8 ey_8 => ?_)
    have ty_8 : y_8.toInt = i0.toInt + 1 := xI_add rfl rfl ey_8 (by omega) (by omega)
    refine va_sld hx hb hX hbl hbA hS (vin (by omega) (by omega)) dL_law_384 ?_
    refine lv_topi (fun y_9 ey_9 => ?_)
    have u_10 : y_9.toInt = (xs (i0 + 1).toNatClampNeg).toInt := by rw [ey_9, ey_8]
    refine S_calli (va_runV (As := [.int y_9]) (rest := []) ⟨hx, hb, hml, hown, hts⟩ (n_length l D k A a z G_5 y_9 ) (cwV 1 hts (gd_V hgd m1791 m1792 m1793 m131 m1794) rfl rfl rfl (by decide +kernel) ⟨Nat.le_of_ble_eq_true rfl, Nat.le_of_ble_eq_true rfl⟩) (pre_V hW hB_G_5 hK hZ hS kd_66 rfl) rfl rfl hl.1 rfl (lv_room (Nat.le_of_ble_eq_true rfl)) dL_law_385 ⟨Nat.le_of_ble_eq_true rfl, Nat.le_of_ble_eq_true rfl⟩) hS (fun r_11 G_12 H locs hpo hW hS => ?_)
    obtain ⟨hB_G_12, hq_13⟩ := hpo
    refine lv_pop hx hb dL_law_388 rfl ?_
    refine lv_goto (tgt := 1641) hx hb dL_law_389 (by decide) ?_
    have g_15 : gO G_12 = gO G := gO_fr (rs := []) (fs := []) ((Fr.rf.call hq_6 (by decide) (by decide)).call hq_13 (by decide) (by decide)) (by decide) (by decide)
    have g_16 : gP G_12 = gP G := gP_fr (rs := []) (fs := []) ((Fr.rf.call hq_6 (by decide) (by decide)).call hq_13 (by decide) (by decide)) (by decide) (by decide)
    have g_17 : gS G_12 = gS G := gS_fr (rs := []) (fs := []) ((Fr.rf.call hq_6 (by decide) (by decide)).call hq_13 (by decide) (by decide)) (by decide) (by decide)
    have g_18 : gTE G_12 = gTE G := gTE_fr (rs := []) (fs := []) ((Fr.rf.call hq_6 (by decide) (by decide)).call hq_13 (by decide) (by decide)) (by decide) (by decide)
    have g_19 : gW G_12 = gW G := gW_fr (rs := []) (fs := []) ((Fr.rf.call hq_6 (by decide) (by decide)).call hq_13 (by decide) (by decide)) (by decide) (by decide)
    have b_20 : 0 ≤ (G.1 0 11).toInt ∧ (G.1 0 11).toInt ≤ 1600 := hB_G.i 0 11 rfl rfl
    have g_21 : (G_12.1 0 11).toInt = (G.1 0 11).toInt := by rw [show G_12.1 0 11 = (G.1 0 11) from ((hq_13.i 0 11 (by decide) (by decide)).trans (hq_6.i 0 11 (by decide) (by decide)))]
    have b_22 : 0 ≤ (G.1 3 7).toInt ∧ (G.1 3 7).toInt ≤ 4 := hB_G.i 3 7 rfl rfl
    have g_23 : (G_12.1 3 7).toInt = (G.1 3 7).toInt := by rw [show G_12.1 3 7 = (G.1 3 7) from ((hq_13.i 3 7 (by decide) (by decide)).trans (hq_6.i 3 7 (by decide) (by decide)))]
    have b_24 : (-1) ≤ (G.1 3 8).toInt ∧ (G.1 3 8).toInt ≤ 1600 := hB_G.i 3 8 rfl rfl
    have g_25 : (G_12.1 3 8).toInt = (G.1 3 8).toInt := by rw [show G_12.1 3 8 = (G.1 3 8) from ((hq_13.i 3 8 (by decide) (by decide)).trans (hq_6.i 3 8 (by decide) (by decide)))]
    have b_26 : 0 ≤ (G.1 30 4).toInt ∧ (G.1 30 4).toInt ≤ 40 := hB_G.i 30 4 rfl rfl
    have g_27 : (G_12.1 30 4).toInt = (G.1 30 4).toInt := by rw [show G_12.1 30 4 = (G.1 30 4) from ((hq_13.i 30 4 (by decide) (by decide)).trans (hq_6.i 30 4 (by decide) (by decide)))]
    have b_28 : 0 ≤ (G.1 30 5).toInt ∧ (G.1 30 5).toInt ≤ 40 := hB_G.i 30 5 rfl rfl
    have g_29 : (G_12.1 30 5).toInt = (G.1 30 5).toInt := by rw [show G_12.1 30 5 = (G.1 30 5) from ((hq_13.i 30 5 (by decide) (by decide)).trans (hq_6.i 30 5 (by decide) (by decide)))]
    have b_30 : 0 ≤ (G.1 31 6).toInt ∧ (G.1 31 6).toInt ≤ 100000 := hB_G.i 31 6 rfl rfl
    have g_31 : (G_12.1 31 6).toInt = (G.1 31 6).toInt := by rw [show G_12.1 31 6 = (G.1 31 6) from ((hq_13.i 31 6 (by decide) (by decide)).trans (hq_6.i 31 6 (by decide) (by decide)))]
    have b_32 : 0 ≤ (G.1 66 1).toInt ∧ (G.1 66 1).toInt ≤ 1600 := hB_G.i 66 1 rfl rfl
    have g_33 : (G_12.1 66 1).toInt = (G.1 66 1).toInt := by rw [show G_12.1 66 1 = (G.1 66 1) from ((hq_13.i 66 1 (by decide) (by decide)).trans (hq_6.i 66 1 (by decide) (by decide)))]
    have b_34 : 0 ≤ (G.1 66 2).toInt ∧ (G.1 66 2).toInt ≤ 4 := hB_G.i 66 2 rfl rfl
    have g_35 : (G_12.1 66 2).toInt = (G.1 66 2).toInt := by rw [show G_12.1 66 2 = (G.1 66 2) from ((hq_13.i 66 2 (by decide) (by decide)).trans (hq_6.i 66 2 (by decide) (by decide)))]
    have b_36 : (-1) ≤ (G.1 66 3).toInt ∧ (G.1 66 3).toInt ≤ 1600 := hB_G.i 66 3 rfl rfl
    have g_37 : (G_12.1 66 3).toInt = (G.1 66 3).toInt := by rw [show G_12.1 66 3 = (G.1 66 3) from ((hq_13.i 66 3 (by decide) (by decide)).trans (hq_6.i 66 3 (by decide) (by decide)))]
    have b_38 : 0 ≤ (G.1 66 78).toInt ∧ (G.1 66 78).toInt ≤ 40 := hB_G.i 66 78 rfl rfl
    have g_39 : (G_12.1 66 78).toInt = (G.1 66 78).toInt := by rw [show G_12.1 66 78 = (G.1 66 78) from ((hq_13.i 66 78 (by decide) (by decide)).trans (hq_6.i 66 78 (by decide) (by decide)))]
    have b_40 : 0 ≤ (G.1 66 79).toInt ∧ (G.1 66 79).toInt ≤ 40 := hB_G.i 66 79 rfl rfl
    have g_41 : (G_12.1 66 79).toInt = (G.1 66 79).toInt := by rw [show G_12.1 66 79 = (G.1 66 79) from ((hq_13.i 66 79 (by decide) (by decide)).trans (hq_6.i 66 79 (by decide) (by decide)))]
    have b_42 : 0 ≤ (G.1 66 86).toInt ∧ (G.1 66 86).toInt ≤ 100000 := hB_G.i 66 86 rfl rfl
    have g_43 : (G_12.1 66 86).toInt = (G.1 66 86).toInt := by rw [show G_12.1 66 86 = (G.1 66 86) from ((hq_13.i 66 86 (by decide) (by decide)).trans (hq_6.i 66 86 (by decide) (by decide)))]
    have b_44 : 0 ≤ (G.1 96 0).toInt ∧ (G.1 96 0).toInt ≤ 9 := hB_G.i 96 0 rfl rfl
    have g_45 : (G_12.1 96 0).toInt = (G.1 96 0).toInt := by rw [show G_12.1 96 0 = (G.1 96 0) from ((hq_13.i 96 0 (by decide) (by decide)).trans (hq_6.i 96 0 (by decide) (by decide)))]
    have b_46 : 0 ≤ (G.1 96 1).toInt ∧ (G.1 96 1).toInt ≤ 9 := hB_G.i 96 1 rfl rfl
    have g_47 : (G_12.1 96 1).toInt = (G.1 96 1).toInt := by rw [show G_12.1 96 1 = (G.1 96 1) from ((hq_13.i 96 1 (by decide) (by decide)).trans (hq_6.i 96 1 (by decide) (by decide)))]
    have b_48 : 0 ≤ (G.1 96 2).toInt ∧ (G.1 96 2).toInt ≤ 9 := hB_G.i 96 2 rfl rfl
    have g_49 : (G_12.1 96 2).toInt = (G.1 96 2).toInt := by rw [show G_12.1 96 2 = (G.1 96 2) from ((hq_13.i 96 2 (by decide) (by decide)).trans (hq_6.i 96 2 (by decide) (by decide)))]
    exact K G_12 _ _ _ (Or.inl ⟨((((hq_13.r 0 0 (by decide) (by decide)).trans (hq_6.r 0 0 (by decide) (by decide)))).trans (hv_0_0)), ((((hq_13.r 0 1 (by decide) (by decide)).trans (hq_6.r 0 1 (by decide) (by decide)))).trans (hv_0_1)), ((((hq_13.r 6 4 (by decide) (by decide)).trans (hq_6.r 6 4 (by decide) (by decide)))).trans (hv_6_4)), by omega, by omega, by omega, by omega, by omega, by omega, by omega, by omega, by omega, by omega, by omega, by omega⟩) hB_G_12 hW hS (lv_sub hl [0, 1, 2, 3] rfl)
  · skip
    refine lv_aload_n hx hb dL_law_369 rfl (lv_at hl 1 rfl) ?_
    refine lv_aload_n hx hb dL_law_370 rfl (lv_at hl 0 rfl) ?_
    refine lv_iload_n hx hb dL_law_371 rfl (lv_at hl 3 rfl) ?_
    refine lv_iconst (v := 1) hx hb dL_law_372 (by decide) ?_
    refine lv_iadd hx hb dL_law_373 ?_
    refine lv_topi (fun y_1 ey_1 => ?_)
    have ty_1 : y_1.toInt = i0.toInt + 1 := xI_add rfl rfl ey_1 (by omega) (by omega)
    refine va_sld hx hb hX hbl hbA hS (vin (by omega) (by omega)) dL_law_374 ?_
    refine lv_topi (fun y_2 ey_2 => ?_)
    have u_3 : y_2.toInt = (xs (i0 + 1).toNatClampNeg).toInt := by rw [ey_2, ey_1]
    refine S_calli (va_runV (As := [.int y_2]) (rest := []) ⟨hx, hb, hml, hown, hts⟩ (k_Wlength_2 l D k A a z G y_2 hv_0_0 hv_0_1 hv_6_4) (cwV 1 hts (gd_V hgd m898 m899 m900 m117 m901) rfl rfl rfl (by decide +kernel) ⟨Nat.le_of_ble_eq_true rfl, Nat.le_of_ble_eq_true rfl⟩) (pre_V hW hB_G hK hZ hS kd_0 rfl) rfl rfl hl.1 rfl (lv_room (Nat.le_of_ble_eq_true rfl)) dL_law_375 ⟨Nat.le_of_ble_eq_true rfl, Nat.le_of_ble_eq_true rfl⟩) hS (fun r_4 G_5 H locs hpo hW hS => ?_)
    obtain ⟨hB_G_5, hq_6⟩ := hpo
    refine lv_pop hx hb dL_law_378 rfl ?_
    refine lv_aload_n hx hb dL_law_379 rfl (lv_at hl 2 rfl) ?_
    refine lv_aload_n hx hb dL_law_380 rfl (lv_at hl 0 rfl) ?_
    refine lv_iload_n hx hb dL_law_381 rfl (lv_at hl 3 rfl) ?_
    refine lv_iconst (v := 1) hx hb dL_law_382 (by decide) ?_
    refine lv_iadd hx hb dL_law_383 ?_
    refine lv_topi (fun y_8 ey_8 => ?_)
    have ty_8 : y_8.toInt = i0.toInt + 1 := xI_add rfl rfl ey_8 (by omega) (by omega)
    refine va_sld hx hb hX hbl hbA hS (vin (by omega) (by omega)) dL_law_384 ?_
    refine lv_topi (fun y_9 ey_9 => ?_)
    have u_10 : y_9.toInt = (xs (i0 + 1).toNatClampNeg).toInt := by rw [ey_9, ey_8]
    refine S_calli (va_runV (As := [.int y_9]) (rest := []) ⟨hx, hb, hml, hown, hts⟩ (n_length l D k A a z G_5 y_9 ) (cwV 1 hts (gd_V hgd m1791 m1792 m1793 m131 m1794) rfl rfl rfl (by decide +kernel) ⟨Nat.le_of_ble_eq_true rfl, Nat.le_of_ble_eq_true rfl⟩) (pre_V hW hB_G_5 hK hZ hS kd_66 rfl) rfl rfl hl.1 rfl (lv_room (Nat.le_of_ble_eq_true rfl)) dL_law_385 ⟨Nat.le_of_ble_eq_true rfl, Nat.le_of_ble_eq_true rfl⟩) hS (fun r_11 G_12 H locs hpo hW hS => ?_)
    obtain ⟨hB_G_12, hq_13⟩ := hpo
    refine lv_pop hx hb dL_law_388 rfl ?_
    refine lv_goto (tgt := 1641) hx hb dL_law_389 (by decide) ?_
    have g_15 : gO G_12 = gO G := gO_fr (rs := []) (fs := []) ((Fr.rf.call hq_6 (by decide) (by decide)).call hq_13 (by decide) (by decide)) (by decide) (by decide)
    have g_16 : gP G_12 = gP G := gP_fr (rs := []) (fs := []) ((Fr.rf.call hq_6 (by decide) (by decide)).call hq_13 (by decide) (by decide)) (by decide) (by decide)
    have g_17 : gS G_12 = gS G := gS_fr (rs := []) (fs := []) ((Fr.rf.call hq_6 (by decide) (by decide)).call hq_13 (by decide) (by decide)) (by decide) (by decide)
    have g_18 : gTE G_12 = gTE G := gTE_fr (rs := []) (fs := []) ((Fr.rf.call hq_6 (by decide) (by decide)).call hq_13 (by decide) (by decide)) (by decide) (by decide)
    have g_19 : gW G_12 = gW G := gW_fr (rs := []) (fs := []) ((Fr.rf.call hq_6 (by decide) (by decide)).call hq_13 (by decide) (by decide)) (by decide) (by decide)
    have b_20 : 0 ≤ (G.1 0 11).toInt ∧ (G.1 0 11).toInt ≤ 1600 := hB_G.i 0 11 rfl rfl
    have g_21 : (G_12.1 0 11).toInt = (G.1 0 11).toInt := by rw [show G_12.1 0 11 = (G.1 0 11) from ((hq_13.i 0 11 (by decide) (by decide)).trans (hq_6.i 0 11 (by decide) (by decide)))]
    have b_22 : 0 ≤ (G.1 3 7).toInt ∧ (G.1 3 7).toInt ≤ 4 := hB_G.i 3 7 rfl rfl
    have g_23 : (G_12.1 3 7).toInt = (G.1 3 7).toInt := by rw [show G_12.1 3 7 = (G.1 3 7) from ((hq_13.i 3 7 (by decide) (by decide)).trans (hq_6.i 3 7 (by decide) (by decide)))]
    have b_24 : (-1) ≤ (G.1 3 8).toInt ∧ (G.1 3 8).toInt ≤ 1600 := hB_G.i 3 8 rfl rfl
    have g_25 : (G_12.1 3 8).toInt = (G.1 3 8).toInt := by rw [show G_12.1 3 8 = (G.1 3 8) from ((hq_13.i 3 8 (by decide) (by decide)).trans (hq_6.i 3 8 (by decide) (by decide)))]
    have b_26 : 0 ≤ (G.1 30 4).toInt ∧ (G.1 30 4).toInt ≤ 40 := hB_G.i 30 4 rfl rfl
    have g_27 : (G_12.1 30 4).toInt = (G.1 30 4).toInt := by rw [show G_12.1 30 4 = (G.1 30 4) from ((hq_13.i 30 4 (by decide) (by decide)).trans (hq_6.i 30 4 (by decide) (by decide)))]
    have b_28 : 0 ≤ (G.1 30 5).toInt ∧ (G.1 30 5).toInt ≤ 40 := hB_G.i 30 5 rfl rfl
    have g_29 : (G_12.1 30 5).toInt = (G.1 30 5).toInt := by rw [show G_12.1 30 5 = (G.1 30 5) from ((hq_13.i 30 5 (by decide) (by decide)).trans (hq_6.i 30 5 (by decide) (by decide)))]
    have b_30 : 0 ≤ (G.1 31 6).toInt ∧ (G.1 31 6).toInt ≤ 100000 := hB_G.i 31 6 rfl rfl
    have g_31 : (G_12.1 31 6).toInt = (G.1 31 6).toInt := by rw [show G_12.1 31 6 = (G.1 31 6) from ((hq_13.i 31 6 (by decide) (by decide)).trans (hq_6.i 31 6 (by decide) (by decide)))]
    have b_32 : 0 ≤ (G.1 66 1).toInt ∧ (G.1 66 1).toInt ≤ 1600 := hB_G.i 66 1 rfl rfl
    have g_33 : (G_12.1 66 1).toInt = (G.1 66 1).toInt := by rw [show G_12.1 66 1 = (G.1 66 1) from ((hq_13.i 66 1 (by decide) (by decide)).trans (hq_6.i 66 1 (by decide) (by decide)))]
    have b_34 : 0 ≤ (G.1 66 2).toInt ∧ (G.1 66 2).toInt ≤ 4 := hB_G.i 66 2 rfl rfl
    have g_35 : (G_12.1 66 2).toInt = (G.1 66 2).toInt := by rw [show G_12.1 66 2 = (G.1 66 2) from ((hq_13.i 66 2 (by decide) (by decide)).trans (hq_6.i 66 2 (by decide) (by decide)))]
    have b_36 : (-1) ≤ (G.1 66 3).toInt ∧ (G.1 66 3).toInt ≤ 1600 := hB_G.i 66 3 rfl rfl
    have g_37 : (G_12.1 66 3).toInt = (G.1 66 3).toInt := by rw [show G_12.1 66 3 = (G.1 66 3) from ((hq_13.i 66 3 (by decide) (by decide)).trans (hq_6.i 66 3 (by decide) (by decide)))]
    have b_38 : 0 ≤ (G.1 66 78).toInt ∧ (G.1 66 78).toInt ≤ 40 := hB_G.i 66 78 rfl rfl
    have g_39 : (G_12.1 66 78).toInt = (G.1 66 78).toInt := by rw [show G_12.1 66 78 = (G.1 66 78) from ((hq_13.i 66 78 (by decide) (by decide)).trans (hq_6.i 66 78 (by decide) (by decide)))]
    have b_40 : 0 ≤ (G.1 66 79).toInt ∧ (G.1 66 79).toInt ≤ 40 := hB_G.i 66 79 rfl rfl
    have g_41 : (G_12.1 66 79).toInt = (G.1 66 79).toInt := by rw [show G_12.1 66 79 = (G.1 66 79) from ((hq_13.i 66 79 (by decide) (by decide)).trans (hq_6.i 66 79 (by decide) (by decide)))]
    have b_42 : 0 ≤ (G.1 66 86).toInt ∧ (G.1 66 86).toInt ≤ 100000 := hB_G.i 66 86 rfl rfl
    have g_43 : (G_12.1 66 86).toInt = (G.1 66 86).toInt := by rw [show G_12.1 66 86 = (G.1 66 86) from ((hq_13.i 66 86 (by decide) (by decide)).trans (hq_6.i 66 86 (by decide) (by decide)))]
    have b_44 : 0 ≤ (G.1 96 0).toInt ∧ (G.1 96 0).toInt ≤ 9 := hB_G.i 96 0 rfl rfl
    have g_45 : (G_12.1 96 0).toInt = (G.1 96 0).toInt := by rw [show G_12.1 96 0 = (G.1 96 0) from ((hq_13.i 96 0 (by decide) (by decide)).trans (hq_6.i 96 0 (by decide) (by decide)))]
    have b_46 : 0 ≤ (G.1 96 1).toInt ∧ (G.1 96 1).toInt ≤ 9 := hB_G.i 96 1 rfl rfl
    have g_47 : (G_12.1 96 1).toInt = (G.1 96 1).toInt := by rw [show G_12.1 96 1 = (G.1 96 1) from ((hq_13.i 96 1 (by decide) (by decide)).trans (hq_6.i 96 1 (by decide) (by decide)))]
    have b_48 : 0 ≤ (G.1 96 2).toInt ∧ (G.1 96 2).toInt ≤ 9 := hB_G.i 96 2 rfl rfl
    have g_49 : (G_12.1 96 2).toInt = (G.1 96 2).toInt := by rw [show G_12.1 96 2 = (G.1 96 2) from ((hq_13.i 96 2 (by decide) (by decide)).trans (hq_6.i 96 2 (by decide) (by decide)))]
    exact K G_12 _ _ _ (Or.inr ⟨((((hq_13.r 0 0 (by decide) (by decide)).trans (hq_6.r 0 0 (by decide) (by decide)))).trans (hv_0_0)), ((((hq_13.r 0 1 (by decide) (by decide)).trans (hq_6.r 0 1 (by decide) (by decide)))).trans (hv_0_1)), ((((hq_13.r 6 4 (by decide) (by decide)).trans (hq_6.r 6 4 (by decide) (by decide)))).trans (hv_6_4)), by omega, by omega, by omega, by omega, by omega, by omega, by omega, by omega, by omega, by omega, by omega, by omega⟩) hB_G_12 hW hS (lv_sub hl [0, 1, 2, 3] rfl)

set_option maxHeartbeats 4000000 in
set_option maxRecDepth 100000 in
theorem law_6 {p : Program} {l : Launch} {e : Env} {s : State} {m : MethodId} {below : List Frame} {meth : Method} {c : Code} {D : va_G} {k : KT} {A : Nat → Prop} {a : Nat → Nat} {z : SK} {b L : Nat} {xs : Nat → Int32} (hL : L ≤ 3072) (C0 : lw_At p s m meth c b L xs) (hK : cK D k s) (hZ : Sx A z s) (hbA : ¬ A b) {G : GS} {i0 : Int32} (hi0 : 0 ≤ i0.toInt) (hi6 : i0.toInt + 6 ≤ L) (hI : LI G) (hB_G : Bd G) {H : Heap} {locs : List Loc} {ls : Array Slot} (hW : Wd D k A a G H) (hS : va_S A s.heap H locs) (hl : lv_has ls 4 [(0, .ref b), (1, .ref (a 0)), (2, .ref (a 66)), (3, .int i0)]) (K : ∀ (G1 : GS) (H1 : Heap) (locs1 : List Loc) (ls1 : Array Slot), LI G1 → Bd G1 → Wd D k A a G1 H1 → va_S A s.heap H1 locs1 → lv_has ls1 4 [(0, .ref b), (1, .ref (a 0)), (2, .ref (a 66)), (3, .int i0)] → W p l e room_1 s m #[Value.ref b] below meth c H1 locs1 119 46443 (lw_Z below #[Value.ref b] s) (F0 m 1641 ls1 [])) : W p l e room_1 s m #[Value.ref b] below meth c H locs 119 46443 (lw_Z below #[Value.ref b] s) (F0 m 392 ls []) := by
  obtain ⟨hx, hb, hr, hml, hown, hts, hX, hbl, hlocks, hgv⟩ := id C0
  have hown : s.vm.findClass RL = some m.cls := hown
  have hgd : ∀ w ∈ gd, w ∈ lw_tbl := fun w h => (List.mem_filter.mp h).1
  have hg : ∀ w ∈ gd, w.before #[Value.ref b] s = true := fun w h => hts w (hgd w h)
  rcases hI with ⟨hv_0_0, hv_0_1, hv_6_4, hj0, hj1, hj2, hj3, hj4, hj5, hj6, hj7, hj8, hj9, hj10, hj11⟩ | ⟨hv_0_0, hv_0_1, hv_6_4, hj0, hj1, hj2, hj3, hj4, hj5, hj6, hj7, hj8, hj9, hj10, hj11⟩
  · skip
    refine lv_aload_n hx hb dL_law_392 rfl (lv_at hl 1 rfl) ?_
    refine lv_aload_n hx hb dL_law_393 rfl (lv_at hl 0 rfl) ?_
    refine lv_iload_n hx hb dL_law_394 rfl (lv_at hl 3 rfl) ?_
    refine lv_iconst (v := 1) hx hb dL_law_395 (by decide) ?_
    refine lv_iadd hx hb dL_law_396 ?_
    refine lv_topi (fun y_1 ey_1 => ?_)
    have ty_1 : y_1.toInt = i0.toInt + 1 := xI_add rfl rfl ey_1 (by omega) (by omega)
    refine va_sld hx hb hX hbl hbA hS (vin (by omega) (by omega)) dL_law_397 ?_
    refine lv_topi (fun y_2 ey_2 => ?_)
    have u_3 : y_2.toInt = (xs (i0 + 1).toNatClampNeg).toInt := by rw [ey_2, ey_1]
    refine lv_aload_n hx hb dL_law_398 rfl (lv_at hl 0 rfl) ?_
    refine lv_iload_n hx hb dL_law_399 rfl (lv_at hl 3 rfl) ?_
    refine lv_iconst (v := 2) hx hb dL_law_400 (by decide) ?_
    refine lv_iadd hx hb dL_law_401 ?_
    refine lv_topi (fun y_4 ey_4 => ?_)
    have ty_4 : y_4.toInt = i0.toInt + 2 := xI_add rfl rfl ey_4 (by omega) (by omega)
    refine va_sld hx hb hX hbl hbA hS (vin (by omega) (by omega)) dL_law_402 ?_
    refine lv_topi (fun y_5 ey_5 => ?_)
    have u_6 : y_5.toInt = (xs (i0 + 2).toNatClampNeg).toInt := by rw [ey_5, ey_4]
    refine lv_aload_n hx hb dL_law_403 rfl (lv_at hl 0 rfl) ?_
    refine lv_iload_n hx hb dL_law_404 rfl (lv_at hl 3 rfl) ?_
    refine lv_iconst (v := 3) hx hb dL_law_405 (by decide) ?_
    refine lv_iadd hx hb dL_law_406 ?_
    refine lv_topi (fun y_7 ey_7 => ?_)
    have ty_7 : y_7.toInt = i0.toInt + 3 := xI_add rfl rfl ey_7 (by omega) (by omega)
    refine va_sld hx hb hX hbl hbA hS (vin (by omega) (by omega)) dL_law_407 ?_
    refine lv_topi (fun y_8 ey_8 => ?_)
    have u_9 : y_8.toInt = (xs (i0 + 3).toNatClampNeg).toInt := by rw [ey_8, ey_7]
    refine S_calli (va_runV (As := [.int y_2, .int y_5, .int y_8]) (rest := []) ⟨hx, hb, hml, hown, hts⟩ (k_Wline_1 l D k A a z G y_2 y_5 y_8 hv_0_0 hv_0_1 hv_6_4) (cwV 3 hts (gd_V hgd m903 m904 m905 m117 m906) rfl rfl rfl (by decide +kernel) ⟨Nat.le_of_ble_eq_true rfl, Nat.le_of_ble_eq_true rfl⟩) (pre_V hW hB_G hK hZ hS kd_0 rfl) rfl rfl hl.1 rfl (lv_room (Nat.le_of_ble_eq_true rfl)) dL_law_408 ⟨Nat.le_of_ble_eq_true rfl, Nat.le_of_ble_eq_true rfl⟩) hS (fun r_10 G_11 H locs hpo hW hS => ?_)
    obtain ⟨hB_G_11, hq_12⟩ := hpo
    refine lv_pop hx hb dL_law_411 rfl ?_
    refine lv_aload_n hx hb dL_law_412 rfl (lv_at hl 2 rfl) ?_
    refine lv_aload_n hx hb dL_law_413 rfl (lv_at hl 0 rfl) ?_
    refine lv_iload_n hx hb dL_law_414 rfl (lv_at hl 3 rfl) ?_
    refine lv_iconst (v := 1) hx hb dL_law_415 (by decide) ?_
    refine lv_iadd hx hb dL_law_416 ?_
    refine lv_topi (fun y_14 ey_14 => ?_)
    have ty_14 : y_14.toInt = i0.toInt + 1 := xI_add rfl rfl ey_14 (by omega) (by omega)
    refine va_sld hx hb hX hbl hbA hS (vin (by omega) (by omega)) dL_law_417 ?_
    refine lv_topi (fun y_15 ey_15 => ?_)
    have u_16 : y_15.toInt = (xs (i0 + 1).toNatClampNeg).toInt := by rw [ey_15, ey_14]
    refine lv_aload_n hx hb dL_law_418 rfl (lv_at hl 0 rfl) ?_
    refine lv_iload_n hx hb dL_law_419 rfl (lv_at hl 3 rfl) ?_
    refine lv_iconst (v := 2) hx hb dL_law_420 (by decide) ?_
    refine lv_iadd hx hb dL_law_421 ?_
    refine lv_topi (fun y_17 ey_17 => ?_)
    have ty_17 : y_17.toInt = i0.toInt + 2 := xI_add rfl rfl ey_17 (by omega) (by omega)
    refine va_sld hx hb hX hbl hbA hS (vin (by omega) (by omega)) dL_law_422 ?_
    refine lv_topi (fun y_18 ey_18 => ?_)
    have u_19 : y_18.toInt = (xs (i0 + 2).toNatClampNeg).toInt := by rw [ey_18, ey_17]
    refine lv_aload_n hx hb dL_law_423 rfl (lv_at hl 0 rfl) ?_
    refine lv_iload_n hx hb dL_law_424 rfl (lv_at hl 3 rfl) ?_
    refine lv_iconst (v := 3) hx hb dL_law_425 (by decide) ?_
    refine lv_iadd hx hb dL_law_426 ?_
    refine lv_topi (fun y_20 ey_20 => ?_)
    have ty_20 : y_20.toInt = i0.toInt + 3 := xI_add rfl rfl ey_20 (by omega) (by omega)
    refine va_sld hx hb hX hbl hbA hS (vin (by omega) (by omega)) dL_law_427 ?_
    refine lv_topi (fun y_21 ey_21 => ?_)
    have u_22 : y_21.toInt = (xs (i0 + 3).toNatClampNeg).toInt := by rw [ey_21, ey_20]
    have g_23 : gP G_11 = gP G := gP_fr (rs := [37, 38, 39]) (fs := [(6, 3)]) (Fr.rf.call hq_12 (by decide) (by decide)) (by decide) (by decide)
    refine S_calli (va_runV (As := [.int y_15, .int y_18, .int y_21]) (rest := []) ⟨hx, hb, hml, hown, hts⟩ (n_line l D k A a z G_11 y_15 y_18 y_21 (by omega)) (cwV 3 hts (gd_V hgd m1795 m1796 m1797 m131 m1798) rfl rfl rfl (by decide +kernel) ⟨Nat.le_of_ble_eq_true rfl, Nat.le_of_ble_eq_true rfl⟩) (pre_V hW hB_G_11 hK hZ hS kd_66 rfl) rfl rfl hl.1 rfl (lv_room (Nat.le_of_ble_eq_true rfl)) dL_law_428 ⟨Nat.le_of_ble_eq_true rfl, Nat.le_of_ble_eq_true rfl⟩) hS (fun r_24 G_25 H locs hpo hW hS => ?_)
    obtain ⟨hB_G_25, hq_26⟩ := hpo
    refine lv_pop hx hb dL_law_431 rfl ?_
    refine lv_goto (tgt := 1641) hx hb dL_law_432 (by decide) ?_
    have g_28 : gO G_25 = gO G := gO_fr (rs := [37, 38, 39, 76]) (fs := [(6, 3)]) ((Fr.rf.call hq_12 (by decide) (by decide)).call hq_26 (by decide) (by decide)) (by decide) (by decide)
    have g_29 : gP G_25 = gP G := gP_fr (rs := [37, 38, 39, 76]) (fs := [(6, 3)]) ((Fr.rf.call hq_12 (by decide) (by decide)).call hq_26 (by decide) (by decide)) (by decide) (by decide)
    have g_30 : gS G_25 = gS G := gS_fr (rs := [37, 38, 39, 76]) (fs := [(6, 3)]) ((Fr.rf.call hq_12 (by decide) (by decide)).call hq_26 (by decide) (by decide)) (by decide) (by decide)
    have g_31 : gTE G_25 = gTE G := gTE_fr (rs := [37, 38, 39, 76]) (fs := [(6, 3)]) ((Fr.rf.call hq_12 (by decide) (by decide)).call hq_26 (by decide) (by decide)) (by decide) (by decide)
    have g_32 : gW G_25 = gW G := gW_fr (rs := [37, 38, 39, 76]) (fs := [(6, 3)]) ((Fr.rf.call hq_12 (by decide) (by decide)).call hq_26 (by decide) (by decide)) (by decide) (by decide)
    have b_33 : 0 ≤ (G.1 0 11).toInt ∧ (G.1 0 11).toInt ≤ 1600 := hB_G.i 0 11 rfl rfl
    have g_34 : (G_25.1 0 11).toInt = (G.1 0 11).toInt := by rw [show G_25.1 0 11 = (G.1 0 11) from ((hq_26.i 0 11 (by decide) (by decide)).trans (hq_12.i 0 11 (by decide) (by decide)))]
    have b_35 : 0 ≤ (G.1 3 7).toInt ∧ (G.1 3 7).toInt ≤ 4 := hB_G.i 3 7 rfl rfl
    have g_36 : (G_25.1 3 7).toInt = (G.1 3 7).toInt := by rw [show G_25.1 3 7 = (G.1 3 7) from ((hq_26.i 3 7 (by decide) (by decide)).trans (hq_12.i 3 7 (by decide) (by decide)))]
    have b_37 : (-1) ≤ (G.1 3 8).toInt ∧ (G.1 3 8).toInt ≤ 1600 := hB_G.i 3 8 rfl rfl
    have g_38 : (G_25.1 3 8).toInt = (G.1 3 8).toInt := by rw [show G_25.1 3 8 = (G.1 3 8) from ((hq_26.i 3 8 (by decide) (by decide)).trans (hq_12.i 3 8 (by decide) (by decide)))]
    have b_39 : 0 ≤ (G.1 30 4).toInt ∧ (G.1 30 4).toInt ≤ 40 := hB_G.i 30 4 rfl rfl
    have g_40 : (G_25.1 30 4).toInt = (G.1 30 4).toInt := by rw [show G_25.1 30 4 = (G.1 30 4) from ((hq_26.i 30 4 (by decide) (by decide)).trans (hq_12.i 30 4 (by decide) (by decide)))]
    have b_41 : 0 ≤ (G.1 30 5).toInt ∧ (G.1 30 5).toInt ≤ 40 := hB_G.i 30 5 rfl rfl
    have g_42 : (G_25.1 30 5).toInt = (G.1 30 5).toInt := by rw [show G_25.1 30 5 = (G.1 30 5) from ((hq_26.i 30 5 (by decide) (by decide)).trans (hq_12.i 30 5 (by decide) (by decide)))]
    have b_43 : 0 ≤ (G.1 31 6).toInt ∧ (G.1 31 6).toInt ≤ 100000 := hB_G.i 31 6 rfl rfl
    have g_44 : (G_25.1 31 6).toInt = (G.1 31 6).toInt := by rw [show G_25.1 31 6 = (G.1 31 6) from ((hq_26.i 31 6 (by decide) (by decide)).trans (hq_12.i 31 6 (by decide) (by decide)))]
    have b_45 : 0 ≤ (G.1 66 1).toInt ∧ (G.1 66 1).toInt ≤ 1600 := hB_G.i 66 1 rfl rfl
    have g_46 : (G_25.1 66 1).toInt = (G.1 66 1).toInt := by rw [show G_25.1 66 1 = (G.1 66 1) from ((hq_26.i 66 1 (by decide) (by decide)).trans (hq_12.i 66 1 (by decide) (by decide)))]
    have b_47 : 0 ≤ (G.1 66 2).toInt ∧ (G.1 66 2).toInt ≤ 4 := hB_G.i 66 2 rfl rfl
    have g_48 : (G_25.1 66 2).toInt = (G.1 66 2).toInt := by rw [show G_25.1 66 2 = (G.1 66 2) from ((hq_26.i 66 2 (by decide) (by decide)).trans (hq_12.i 66 2 (by decide) (by decide)))]
    have b_49 : (-1) ≤ (G.1 66 3).toInt ∧ (G.1 66 3).toInt ≤ 1600 := hB_G.i 66 3 rfl rfl
    have g_50 : (G_25.1 66 3).toInt = (G.1 66 3).toInt := by rw [show G_25.1 66 3 = (G.1 66 3) from ((hq_26.i 66 3 (by decide) (by decide)).trans (hq_12.i 66 3 (by decide) (by decide)))]
    have b_51 : 0 ≤ (G.1 66 78).toInt ∧ (G.1 66 78).toInt ≤ 40 := hB_G.i 66 78 rfl rfl
    have g_52 : (G_25.1 66 78).toInt = (G.1 66 78).toInt := by rw [show G_25.1 66 78 = (G.1 66 78) from ((hq_26.i 66 78 (by decide) (by decide)).trans (hq_12.i 66 78 (by decide) (by decide)))]
    have b_53 : 0 ≤ (G.1 66 79).toInt ∧ (G.1 66 79).toInt ≤ 40 := hB_G.i 66 79 rfl rfl
    have g_54 : (G_25.1 66 79).toInt = (G.1 66 79).toInt := by rw [show G_25.1 66 79 = (G.1 66 79) from ((hq_26.i 66 79 (by decide) (by decide)).trans (hq_12.i 66 79 (by decide) (by decide)))]
    have b_55 : 0 ≤ (G.1 66 86).toInt ∧ (G.1 66 86).toInt ≤ 100000 := hB_G.i 66 86 rfl rfl
    have g_56 : (G_25.1 66 86).toInt = (G.1 66 86).toInt := by rw [show G_25.1 66 86 = (G.1 66 86) from ((hq_26.i 66 86 (by decide) (by decide)).trans (hq_12.i 66 86 (by decide) (by decide)))]
    have b_57 : 0 ≤ (G.1 96 0).toInt ∧ (G.1 96 0).toInt ≤ 9 := hB_G.i 96 0 rfl rfl
    have g_58 : (G_25.1 96 0).toInt = (G.1 96 0).toInt := by rw [show G_25.1 96 0 = (G.1 96 0) from ((hq_26.i 96 0 (by decide) (by decide)).trans (hq_12.i 96 0 (by decide) (by decide)))]
    have b_59 : 0 ≤ (G.1 96 1).toInt ∧ (G.1 96 1).toInt ≤ 9 := hB_G.i 96 1 rfl rfl
    have g_60 : (G_25.1 96 1).toInt = (G.1 96 1).toInt := by rw [show G_25.1 96 1 = (G.1 96 1) from ((hq_26.i 96 1 (by decide) (by decide)).trans (hq_12.i 96 1 (by decide) (by decide)))]
    have b_61 : 0 ≤ (G.1 96 2).toInt ∧ (G.1 96 2).toInt ≤ 9 := hB_G.i 96 2 rfl rfl
    have g_62 : (G_25.1 96 2).toInt = (G.1 96 2).toInt := by rw [show G_25.1 96 2 = (G.1 96 2) from ((hq_26.i 96 2 (by decide) (by decide)).trans (hq_12.i 96 2 (by decide) (by decide)))]
    exact K G_25 _ _ _ (Or.inl ⟨((((hq_26.r 0 0 (by decide) (by decide)).trans (hq_12.r 0 0 (by decide) (by decide)))).trans (hv_0_0)), ((((hq_26.r 0 1 (by decide) (by decide)).trans (hq_12.r 0 1 (by decide) (by decide)))).trans (hv_0_1)), ((((hq_26.r 6 4 (by decide) (by decide)).trans (hq_12.r 6 4 (by decide) (by decide)))).trans (hv_6_4)), by omega, by omega, by omega, by omega, by omega, by omega, by omega, by omega, by omega, by omega, by omega, by omega⟩) hB_G_25 hW hS (lv_sub hl [0, 1, 2, 3] rfl)
  · skip
    refine lv_aload_n hx hb dL_law_392 rfl (lv_at hl 1 rfl) ?_
    refine lv_aload_n hx hb dL_law_393 rfl (lv_at hl 0 rfl) ?_
    refine lv_iload_n hx hb dL_law_394 rfl (lv_at hl 3 rfl) ?_
    refine lv_iconst (v := 1) hx hb dL_law_395 (by decide) ?_
    refine lv_iadd hx hb dL_law_396 ?_
    refine lv_topi (fun y_1 ey_1 => ?_)
    have ty_1 : y_1.toInt = i0.toInt + 1 := xI_add rfl rfl ey_1 (by omega) (by omega)
    refine va_sld hx hb hX hbl hbA hS (vin (by omega) (by omega)) dL_law_397 ?_
    refine lv_topi (fun y_2 ey_2 => ?_)
    have u_3 : y_2.toInt = (xs (i0 + 1).toNatClampNeg).toInt := by rw [ey_2, ey_1]
    refine lv_aload_n hx hb dL_law_398 rfl (lv_at hl 0 rfl) ?_
    refine lv_iload_n hx hb dL_law_399 rfl (lv_at hl 3 rfl) ?_
    refine lv_iconst (v := 2) hx hb dL_law_400 (by decide) ?_
    refine lv_iadd hx hb dL_law_401 ?_
    refine lv_topi (fun y_4 ey_4 => ?_)
    have ty_4 : y_4.toInt = i0.toInt + 2 := xI_add rfl rfl ey_4 (by omega) (by omega)
    refine va_sld hx hb hX hbl hbA hS (vin (by omega) (by omega)) dL_law_402 ?_
    refine lv_topi (fun y_5 ey_5 => ?_)
    have u_6 : y_5.toInt = (xs (i0 + 2).toNatClampNeg).toInt := by rw [ey_5, ey_4]
    refine lv_aload_n hx hb dL_law_403 rfl (lv_at hl 0 rfl) ?_
    refine lv_iload_n hx hb dL_law_404 rfl (lv_at hl 3 rfl) ?_
    refine lv_iconst (v := 3) hx hb dL_law_405 (by decide) ?_
    refine lv_iadd hx hb dL_law_406 ?_
    refine lv_topi (fun y_7 ey_7 => ?_)
    have ty_7 : y_7.toInt = i0.toInt + 3 := xI_add rfl rfl ey_7 (by omega) (by omega)
    refine va_sld hx hb hX hbl hbA hS (vin (by omega) (by omega)) dL_law_407 ?_
    refine lv_topi (fun y_8 ey_8 => ?_)
    have u_9 : y_8.toInt = (xs (i0 + 3).toNatClampNeg).toInt := by rw [ey_8, ey_7]
    refine S_calli (va_runV (As := [.int y_2, .int y_5, .int y_8]) (rest := []) ⟨hx, hb, hml, hown, hts⟩ (k_Wline_2 l D k A a z G y_2 y_5 y_8 hv_0_0 hv_0_1 hv_6_4) (cwV 3 hts (gd_V hgd m903 m904 m905 m117 m906) rfl rfl rfl (by decide +kernel) ⟨Nat.le_of_ble_eq_true rfl, Nat.le_of_ble_eq_true rfl⟩) (pre_V hW hB_G hK hZ hS kd_0 rfl) rfl rfl hl.1 rfl (lv_room (Nat.le_of_ble_eq_true rfl)) dL_law_408 ⟨Nat.le_of_ble_eq_true rfl, Nat.le_of_ble_eq_true rfl⟩) hS (fun r_10 G_11 H locs hpo hW hS => ?_)
    obtain ⟨hB_G_11, hq_12⟩ := hpo
    refine lv_pop hx hb dL_law_411 rfl ?_
    refine lv_aload_n hx hb dL_law_412 rfl (lv_at hl 2 rfl) ?_
    refine lv_aload_n hx hb dL_law_413 rfl (lv_at hl 0 rfl) ?_
    refine lv_iload_n hx hb dL_law_414 rfl (lv_at hl 3 rfl) ?_
    refine lv_iconst (v := 1) hx hb dL_law_415 (by decide) ?_
    refine lv_iadd hx hb dL_law_416 ?_
    refine lv_topi (fun y_14 ey_14 => ?_)
    have ty_14 : y_14.toInt = i0.toInt + 1 := xI_add rfl rfl ey_14 (by omega) (by omega)
    refine va_sld hx hb hX hbl hbA hS (vin (by omega) (by omega)) dL_law_417 ?_
    refine lv_topi (fun y_15 ey_15 => ?_)
    have u_16 : y_15.toInt = (xs (i0 + 1).toNatClampNeg).toInt := by rw [ey_15, ey_14]
    refine lv_aload_n hx hb dL_law_418 rfl (lv_at hl 0 rfl) ?_
    refine lv_iload_n hx hb dL_law_419 rfl (lv_at hl 3 rfl) ?_
    refine lv_iconst (v := 2) hx hb dL_law_420 (by decide) ?_
    refine lv_iadd hx hb dL_law_421 ?_
    refine lv_topi (fun y_17 ey_17 => ?_)
    have ty_17 : y_17.toInt = i0.toInt + 2 := xI_add rfl rfl ey_17 (by omega) (by omega)
    refine va_sld hx hb hX hbl hbA hS (vin (by omega) (by omega)) dL_law_422 ?_
    refine lv_topi (fun y_18 ey_18 => ?_)
    have u_19 : y_18.toInt = (xs (i0 + 2).toNatClampNeg).toInt := by rw [ey_18, ey_17]
    refine lv_aload_n hx hb dL_law_423 rfl (lv_at hl 0 rfl) ?_
    refine lv_iload_n hx hb dL_law_424 rfl (lv_at hl 3 rfl) ?_
    refine lv_iconst (v := 3) hx hb dL_law_425 (by decide) ?_
    refine lv_iadd hx hb dL_law_426 ?_
    refine lv_topi (fun y_20 ey_20 => ?_)
    have ty_20 : y_20.toInt = i0.toInt + 3 := xI_add rfl rfl ey_20 (by omega) (by omega)
    refine va_sld hx hb hX hbl hbA hS (vin (by omega) (by omega)) dL_law_427 ?_
    refine lv_topi (fun y_21 ey_21 => ?_)
    have u_22 : y_21.toInt = (xs (i0 + 3).toNatClampNeg).toInt := by rw [ey_21, ey_20]
    have g_23 : gP G_11 = gP G := gP_fr (rs := [37, 38, 39]) (fs := [(6, 3)]) (Fr.rf.call hq_12 (by decide) (by decide)) (by decide) (by decide)
    refine S_calli (va_runV (As := [.int y_15, .int y_18, .int y_21]) (rest := []) ⟨hx, hb, hml, hown, hts⟩ (n_line l D k A a z G_11 y_15 y_18 y_21 (by omega)) (cwV 3 hts (gd_V hgd m1795 m1796 m1797 m131 m1798) rfl rfl rfl (by decide +kernel) ⟨Nat.le_of_ble_eq_true rfl, Nat.le_of_ble_eq_true rfl⟩) (pre_V hW hB_G_11 hK hZ hS kd_66 rfl) rfl rfl hl.1 rfl (lv_room (Nat.le_of_ble_eq_true rfl)) dL_law_428 ⟨Nat.le_of_ble_eq_true rfl, Nat.le_of_ble_eq_true rfl⟩) hS (fun r_24 G_25 H locs hpo hW hS => ?_)
    obtain ⟨hB_G_25, hq_26⟩ := hpo
    refine lv_pop hx hb dL_law_431 rfl ?_
    refine lv_goto (tgt := 1641) hx hb dL_law_432 (by decide) ?_
    have g_28 : gO G_25 = gO G := gO_fr (rs := [37, 38, 39, 76]) (fs := [(6, 3)]) ((Fr.rf.call hq_12 (by decide) (by decide)).call hq_26 (by decide) (by decide)) (by decide) (by decide)
    have g_29 : gP G_25 = gP G := gP_fr (rs := [37, 38, 39, 76]) (fs := [(6, 3)]) ((Fr.rf.call hq_12 (by decide) (by decide)).call hq_26 (by decide) (by decide)) (by decide) (by decide)
    have g_30 : gS G_25 = gS G := gS_fr (rs := [37, 38, 39, 76]) (fs := [(6, 3)]) ((Fr.rf.call hq_12 (by decide) (by decide)).call hq_26 (by decide) (by decide)) (by decide) (by decide)
    have g_31 : gTE G_25 = gTE G := gTE_fr (rs := [37, 38, 39, 76]) (fs := [(6, 3)]) ((Fr.rf.call hq_12 (by decide) (by decide)).call hq_26 (by decide) (by decide)) (by decide) (by decide)
    have g_32 : gW G_25 = gW G := gW_fr (rs := [37, 38, 39, 76]) (fs := [(6, 3)]) ((Fr.rf.call hq_12 (by decide) (by decide)).call hq_26 (by decide) (by decide)) (by decide) (by decide)
    have b_33 : 0 ≤ (G.1 0 11).toInt ∧ (G.1 0 11).toInt ≤ 1600 := hB_G.i 0 11 rfl rfl
    have g_34 : (G_25.1 0 11).toInt = (G.1 0 11).toInt := by rw [show G_25.1 0 11 = (G.1 0 11) from ((hq_26.i 0 11 (by decide) (by decide)).trans (hq_12.i 0 11 (by decide) (by decide)))]
    have b_35 : 0 ≤ (G.1 3 7).toInt ∧ (G.1 3 7).toInt ≤ 4 := hB_G.i 3 7 rfl rfl
    have g_36 : (G_25.1 3 7).toInt = (G.1 3 7).toInt := by rw [show G_25.1 3 7 = (G.1 3 7) from ((hq_26.i 3 7 (by decide) (by decide)).trans (hq_12.i 3 7 (by decide) (by decide)))]
    have b_37 : (-1) ≤ (G.1 3 8).toInt ∧ (G.1 3 8).toInt ≤ 1600 := hB_G.i 3 8 rfl rfl
    have g_38 : (G_25.1 3 8).toInt = (G.1 3 8).toInt := by rw [show G_25.1 3 8 = (G.1 3 8) from ((hq_26.i 3 8 (by decide) (by decide)).trans (hq_12.i 3 8 (by decide) (by decide)))]
    have b_39 : 0 ≤ (G.1 30 4).toInt ∧ (G.1 30 4).toInt ≤ 40 := hB_G.i 30 4 rfl rfl
    have g_40 : (G_25.1 30 4).toInt = (G.1 30 4).toInt := by rw [show G_25.1 30 4 = (G.1 30 4) from ((hq_26.i 30 4 (by decide) (by decide)).trans (hq_12.i 30 4 (by decide) (by decide)))]
    have b_41 : 0 ≤ (G.1 30 5).toInt ∧ (G.1 30 5).toInt ≤ 40 := hB_G.i 30 5 rfl rfl
    have g_42 : (G_25.1 30 5).toInt = (G.1 30 5).toInt := by rw [show G_25.1 30 5 = (G.1 30 5) from ((hq_26.i 30 5 (by decide) (by decide)).trans (hq_12.i 30 5 (by decide) (by decide)))]
    have b_43 : 0 ≤ (G.1 31 6).toInt ∧ (G.1 31 6).toInt ≤ 100000 := hB_G.i 31 6 rfl rfl
    have g_44 : (G_25.1 31 6).toInt = (G.1 31 6).toInt := by rw [show G_25.1 31 6 = (G.1 31 6) from ((hq_26.i 31 6 (by decide) (by decide)).trans (hq_12.i 31 6 (by decide) (by decide)))]
    have b_45 : 0 ≤ (G.1 66 1).toInt ∧ (G.1 66 1).toInt ≤ 1600 := hB_G.i 66 1 rfl rfl
    have g_46 : (G_25.1 66 1).toInt = (G.1 66 1).toInt := by rw [show G_25.1 66 1 = (G.1 66 1) from ((hq_26.i 66 1 (by decide) (by decide)).trans (hq_12.i 66 1 (by decide) (by decide)))]
    have b_47 : 0 ≤ (G.1 66 2).toInt ∧ (G.1 66 2).toInt ≤ 4 := hB_G.i 66 2 rfl rfl
    have g_48 : (G_25.1 66 2).toInt = (G.1 66 2).toInt := by rw [show G_25.1 66 2 = (G.1 66 2) from ((hq_26.i 66 2 (by decide) (by decide)).trans (hq_12.i 66 2 (by decide) (by decide)))]
    have b_49 : (-1) ≤ (G.1 66 3).toInt ∧ (G.1 66 3).toInt ≤ 1600 := hB_G.i 66 3 rfl rfl
    have g_50 : (G_25.1 66 3).toInt = (G.1 66 3).toInt := by rw [show G_25.1 66 3 = (G.1 66 3) from ((hq_26.i 66 3 (by decide) (by decide)).trans (hq_12.i 66 3 (by decide) (by decide)))]
    have b_51 : 0 ≤ (G.1 66 78).toInt ∧ (G.1 66 78).toInt ≤ 40 := hB_G.i 66 78 rfl rfl
    have g_52 : (G_25.1 66 78).toInt = (G.1 66 78).toInt := by rw [show G_25.1 66 78 = (G.1 66 78) from ((hq_26.i 66 78 (by decide) (by decide)).trans (hq_12.i 66 78 (by decide) (by decide)))]
    have b_53 : 0 ≤ (G.1 66 79).toInt ∧ (G.1 66 79).toInt ≤ 40 := hB_G.i 66 79 rfl rfl
    have g_54 : (G_25.1 66 79).toInt = (G.1 66 79).toInt := by rw [show G_25.1 66 79 = (G.1 66 79) from ((hq_26.i 66 79 (by decide) (by decide)).trans (hq_12.i 66 79 (by decide) (by decide)))]
    have b_55 : 0 ≤ (G.1 66 86).toInt ∧ (G.1 66 86).toInt ≤ 100000 := hB_G.i 66 86 rfl rfl
    have g_56 : (G_25.1 66 86).toInt = (G.1 66 86).toInt := by rw [show G_25.1 66 86 = (G.1 66 86) from ((hq_26.i 66 86 (by decide) (by decide)).trans (hq_12.i 66 86 (by decide) (by decide)))]
    have b_57 : 0 ≤ (G.1 96 0).toInt ∧ (G.1 96 0).toInt ≤ 9 := hB_G.i 96 0 rfl rfl
    have g_58 : (G_25.1 96 0).toInt = (G.1 96 0).toInt := by rw [show G_25.1 96 0 = (G.1 96 0) from ((hq_26.i 96 0 (by decide) (by decide)).trans (hq_12.i 96 0 (by decide) (by decide)))]
    have b_59 : 0 ≤ (G.1 96 1).toInt ∧ (G.1 96 1).toInt ≤ 9 := hB_G.i 96 1 rfl rfl
    have g_60 : (G_25.1 96 1).toInt = (G.1 96 1).toInt := by rw [show G_25.1 96 1 = (G.1 96 1) from ((hq_26.i 96 1 (by decide) (by decide)).trans (hq_12.i 96 1 (by decide) (by decide)))]
    have b_61 : 0 ≤ (G.1 96 2).toInt ∧ (G.1 96 2).toInt ≤ 9 := hB_G.i 96 2 rfl rfl
    have g_62 : (G_25.1 96 2).toInt = (G.1 96 2).toInt := by rw [show G_25.1 96 2 = (G.1 96 2) from ((hq_26.i 96 2 (by decide) (by decide)).trans (hq_12.i 96 2 (by decide) (by decide)))]
    exact K G_25 _ _ _ (Or.inr ⟨((((hq_26.r 0 0 (by decide) (by decide)).trans (hq_12.r 0 0 (by decide) (by decide)))).trans (hv_0_0)), ((((hq_26.r 0 1 (by decide) (by decide)).trans (hq_12.r 0 1 (by decide) (by decide)))).trans (hv_0_1)), ((((hq_26.r 6 4 (by decide) (by decide)).trans (hq_12.r 6 4 (by decide) (by decide)))).trans (hv_6_4)), by omega, by omega, by omega, by omega, by omega, by omega, by omega, by omega, by omega, by omega, by omega, by omega⟩) hB_G_25 hW hS (lv_sub hl [0, 1, 2, 3] rfl)

set_option maxHeartbeats 4000000 in
set_option maxRecDepth 100000 in
theorem law_7 {p : Program} {l : Launch} {e : Env} {s : State} {m : MethodId} {below : List Frame} {meth : Method} {c : Code} {D : va_G} {k : KT} {A : Nat → Prop} {a : Nat → Nat} {z : SK} {b L : Nat} {xs : Nat → Int32} (hL : L ≤ 3072) (C0 : lw_At p s m meth c b L xs) (hK : cK D k s) (hZ : Sx A z s) (hbA : ¬ A b) {G : GS} {i0 : Int32} (hi0 : 0 ≤ i0.toInt) (hi6 : i0.toInt + 6 ≤ L) (hI : LI G) (hB_G : Bd G) {H : Heap} {locs : List Loc} {ls : Array Slot} (hW : Wd D k A a G H) (hS : va_S A s.heap H locs) (hl : lv_has ls 4 [(0, .ref b), (1, .ref (a 0)), (2, .ref (a 66)), (3, .int i0)]) (K : ∀ (G1 : GS) (H1 : Heap) (locs1 : List Loc) (ls1 : Array Slot), LI G1 → Bd G1 → Wd D k A a G1 H1 → va_S A s.heap H1 locs1 → lv_has ls1 4 [(0, .ref b), (1, .ref (a 0)), (2, .ref (a 66)), (3, .int i0)] → W p l e room_1 s m #[Value.ref b] below meth c H1 locs1 119 46443 (lw_Z below #[Value.ref b] s) (F0 m 1641 ls1 [])) : W p l e room_1 s m #[Value.ref b] below meth c H locs 119 46443 (lw_Z below #[Value.ref b] s) (F0 m 435 ls []) := by
  obtain ⟨hx, hb, hr, hml, hown, hts, hX, hbl, hlocks, hgv⟩ := id C0
  have hown : s.vm.findClass RL = some m.cls := hown
  have hgd : ∀ w ∈ gd, w ∈ lw_tbl := fun w h => (List.mem_filter.mp h).1
  have hg : ∀ w ∈ gd, w.before #[Value.ref b] s = true := fun w h => hts w (hgd w h)
  rcases hI with ⟨hv_0_0, hv_0_1, hv_6_4, hj0, hj1, hj2, hj3, hj4, hj5, hj6, hj7, hj8, hj9, hj10, hj11⟩ | ⟨hv_0_0, hv_0_1, hv_6_4, hj0, hj1, hj2, hj3, hj4, hj5, hj6, hj7, hj8, hj9, hj10, hj11⟩
  · skip
    refine lv_aload_n hx hb dL_law_435 rfl (lv_at hl 1 rfl) ?_
    refine lv_aload_n hx hb dL_law_436 rfl (lv_at hl 0 rfl) ?_
    refine lv_iload_n hx hb dL_law_437 rfl (lv_at hl 3 rfl) ?_
    refine lv_iconst (v := 1) hx hb dL_law_438 (by decide) ?_
    refine lv_iadd hx hb dL_law_439 ?_
    refine lv_topi (fun y_1 ey_1 => ?_)
    have ty_1 : y_1.toInt = i0.toInt + 1 := xI_add rfl rfl ey_1 (by omega) (by omega)
    refine va_sld hx hb hX hbl hbA hS (vin (by omega) (by omega)) dL_law_440 ?_
    refine lv_topi (fun y_2 ey_2 => ?_)
    have u_3 : y_2.toInt = (xs (i0 + 1).toNatClampNeg).toInt := by rw [ey_2, ey_1]
    refine lv_aload_n hx hb dL_law_441 rfl (lv_at hl 0 rfl) ?_
    refine lv_iload_n hx hb dL_law_442 rfl (lv_at hl 3 rfl) ?_
    refine lv_iconst (v := 2) hx hb dL_law_443 (by decide) ?_
    refine lv_iadd hx hb dL_law_444 ?_
    refine lv_topi (fun y_4 ey_4 => ?_)
    have ty_4 : y_4.toInt = i0.toInt + 2 := xI_add rfl rfl ey_4 (by omega) (by omega)
    refine va_sld hx hb hX hbl hbA hS (vin (by omega) (by omega)) dL_law_445 ?_
    refine lv_topi (fun y_5 ey_5 => ?_)
    have u_6 : y_5.toInt = (xs (i0 + 2).toNatClampNeg).toInt := by rw [ey_5, ey_4]
    refine lv_aload_n hx hb dL_law_446 rfl (lv_at hl 0 rfl) ?_
    refine lv_iload_n hx hb dL_law_447 rfl (lv_at hl 3 rfl) ?_
    refine lv_iconst (v := 3) hx hb dL_law_448 (by decide) ?_
    refine lv_iadd hx hb dL_law_449 ?_
    refine lv_topi (fun y_7 ey_7 => ?_)
    have ty_7 : y_7.toInt = i0.toInt + 3 := xI_add rfl rfl ey_7 (by omega) (by omega)
    refine va_sld hx hb hX hbl hbA hS (vin (by omega) (by omega)) dL_law_450 ?_
    refine lv_topi (fun y_8 ey_8 => ?_)
    have u_9 : y_8.toInt = (xs (i0 + 3).toNatClampNeg).toInt := by rw [ey_8, ey_7]
    refine S_calli (va_runV (As := [.int y_2, .int y_5, .int y_8]) (rest := []) ⟨hx, hb, hml, hown, hts⟩ (k_Wgap_1 l D k A a z G y_2 y_5 y_8 hv_0_0 hv_0_1 hv_6_4) (cwV 3 hts (gd_V hgd m945 m946 m947 m117 m948) rfl rfl rfl (by decide +kernel) ⟨Nat.le_of_ble_eq_true rfl, Nat.le_of_ble_eq_true rfl⟩) (pre_V hW hB_G hK hZ hS kd_0 rfl) rfl rfl hl.1 rfl (lv_room (Nat.le_of_ble_eq_true rfl)) dL_law_451 ⟨Nat.le_of_ble_eq_true rfl, Nat.le_of_ble_eq_true rfl⟩) hS (fun r_10 G_11 H locs hpo hW hS => ?_)
    obtain ⟨hB_G_11, hq_12⟩ := hpo
    refine lv_pop hx hb dL_law_454 rfl ?_
    refine lv_aload_n hx hb dL_law_455 rfl (lv_at hl 2 rfl) ?_
    refine lv_aload_n hx hb dL_law_456 rfl (lv_at hl 0 rfl) ?_
    refine lv_iload_n hx hb dL_law_457 rfl (lv_at hl 3 rfl) ?_
    refine lv_iconst (v := 1) hx hb dL_law_458 (by decide) ?_
    refine lv_iadd hx hb dL_law_459 ?_
    refine lv_topi (fun y_14 ey_14 => ?_)
    have ty_14 : y_14.toInt = i0.toInt + 1 := xI_add rfl rfl ey_14 (by omega) (by omega)
    refine va_sld hx hb hX hbl hbA hS (vin (by omega) (by omega)) dL_law_460 ?_
    refine lv_topi (fun y_15 ey_15 => ?_)
    have u_16 : y_15.toInt = (xs (i0 + 1).toNatClampNeg).toInt := by rw [ey_15, ey_14]
    refine lv_aload_n hx hb dL_law_461 rfl (lv_at hl 0 rfl) ?_
    refine lv_iload_n hx hb dL_law_462 rfl (lv_at hl 3 rfl) ?_
    refine lv_iconst (v := 2) hx hb dL_law_463 (by decide) ?_
    refine lv_iadd hx hb dL_law_464 ?_
    refine lv_topi (fun y_17 ey_17 => ?_)
    have ty_17 : y_17.toInt = i0.toInt + 2 := xI_add rfl rfl ey_17 (by omega) (by omega)
    refine va_sld hx hb hX hbl hbA hS (vin (by omega) (by omega)) dL_law_465 ?_
    refine lv_topi (fun y_18 ey_18 => ?_)
    have u_19 : y_18.toInt = (xs (i0 + 2).toNatClampNeg).toInt := by rw [ey_18, ey_17]
    refine lv_aload_n hx hb dL_law_466 rfl (lv_at hl 0 rfl) ?_
    refine lv_iload_n hx hb dL_law_467 rfl (lv_at hl 3 rfl) ?_
    refine lv_iconst (v := 3) hx hb dL_law_468 (by decide) ?_
    refine lv_iadd hx hb dL_law_469 ?_
    refine lv_topi (fun y_20 ey_20 => ?_)
    have ty_20 : y_20.toInt = i0.toInt + 3 := xI_add rfl rfl ey_20 (by omega) (by omega)
    refine va_sld hx hb hX hbl hbA hS (vin (by omega) (by omega)) dL_law_470 ?_
    refine lv_topi (fun y_21 ey_21 => ?_)
    have u_22 : y_21.toInt = (xs (i0 + 3).toNatClampNeg).toInt := by rw [ey_21, ey_20]
    have g_23 : gP G_11 = gP G := gP_fr (rs := [37, 38, 39]) (fs := [(6, 3)]) (Fr.rf.call hq_12 (by decide) (by decide)) (by decide) (by decide)
    refine S_calli (va_runV (As := [.int y_15, .int y_18, .int y_21]) (rest := []) ⟨hx, hb, hml, hown, hts⟩ (n_gap l D k A a z G_11 y_15 y_18 y_21 (by omega)) (cwV 3 hts (gd_V hgd m1818 m1819 m1820 m131 m1821) rfl rfl rfl (by decide +kernel) ⟨Nat.le_of_ble_eq_true rfl, Nat.le_of_ble_eq_true rfl⟩) (pre_V hW hB_G_11 hK hZ hS kd_66 rfl) rfl rfl hl.1 rfl (lv_room (Nat.le_of_ble_eq_true rfl)) dL_law_471 ⟨Nat.le_of_ble_eq_true rfl, Nat.le_of_ble_eq_true rfl⟩) hS (fun r_24 G_25 H locs hpo hW hS => ?_)
    obtain ⟨hB_G_25, hq_26⟩ := hpo
    refine lv_pop hx hb dL_law_474 rfl ?_
    refine lv_goto (tgt := 1641) hx hb dL_law_475 (by decide) ?_
    have g_28 : gO G_25 = gO G := gO_fr (rs := [37, 38, 39, 76]) (fs := [(6, 3)]) ((Fr.rf.call hq_12 (by decide) (by decide)).call hq_26 (by decide) (by decide)) (by decide) (by decide)
    have g_29 : gP G_25 = gP G := gP_fr (rs := [37, 38, 39, 76]) (fs := [(6, 3)]) ((Fr.rf.call hq_12 (by decide) (by decide)).call hq_26 (by decide) (by decide)) (by decide) (by decide)
    have g_30 : gS G_25 = gS G := gS_fr (rs := [37, 38, 39, 76]) (fs := [(6, 3)]) ((Fr.rf.call hq_12 (by decide) (by decide)).call hq_26 (by decide) (by decide)) (by decide) (by decide)
    have g_31 : gTE G_25 = gTE G := gTE_fr (rs := [37, 38, 39, 76]) (fs := [(6, 3)]) ((Fr.rf.call hq_12 (by decide) (by decide)).call hq_26 (by decide) (by decide)) (by decide) (by decide)
    have g_32 : gW G_25 = gW G := gW_fr (rs := [37, 38, 39, 76]) (fs := [(6, 3)]) ((Fr.rf.call hq_12 (by decide) (by decide)).call hq_26 (by decide) (by decide)) (by decide) (by decide)
    have b_33 : 0 ≤ (G.1 0 11).toInt ∧ (G.1 0 11).toInt ≤ 1600 := hB_G.i 0 11 rfl rfl
    have g_34 : (G_25.1 0 11).toInt = (G.1 0 11).toInt := by rw [show G_25.1 0 11 = (G.1 0 11) from ((hq_26.i 0 11 (by decide) (by decide)).trans (hq_12.i 0 11 (by decide) (by decide)))]
    have b_35 : 0 ≤ (G.1 3 7).toInt ∧ (G.1 3 7).toInt ≤ 4 := hB_G.i 3 7 rfl rfl
    have g_36 : (G_25.1 3 7).toInt = (G.1 3 7).toInt := by rw [show G_25.1 3 7 = (G.1 3 7) from ((hq_26.i 3 7 (by decide) (by decide)).trans (hq_12.i 3 7 (by decide) (by decide)))]
    have b_37 : (-1) ≤ (G.1 3 8).toInt ∧ (G.1 3 8).toInt ≤ 1600 := hB_G.i 3 8 rfl rfl
    have g_38 : (G_25.1 3 8).toInt = (G.1 3 8).toInt := by rw [show G_25.1 3 8 = (G.1 3 8) from ((hq_26.i 3 8 (by decide) (by decide)).trans (hq_12.i 3 8 (by decide) (by decide)))]
    have b_39 : 0 ≤ (G.1 30 4).toInt ∧ (G.1 30 4).toInt ≤ 40 := hB_G.i 30 4 rfl rfl
    have g_40 : (G_25.1 30 4).toInt = (G.1 30 4).toInt := by rw [show G_25.1 30 4 = (G.1 30 4) from ((hq_26.i 30 4 (by decide) (by decide)).trans (hq_12.i 30 4 (by decide) (by decide)))]
    have b_41 : 0 ≤ (G.1 30 5).toInt ∧ (G.1 30 5).toInt ≤ 40 := hB_G.i 30 5 rfl rfl
    have g_42 : (G_25.1 30 5).toInt = (G.1 30 5).toInt := by rw [show G_25.1 30 5 = (G.1 30 5) from ((hq_26.i 30 5 (by decide) (by decide)).trans (hq_12.i 30 5 (by decide) (by decide)))]
    have b_43 : 0 ≤ (G.1 31 6).toInt ∧ (G.1 31 6).toInt ≤ 100000 := hB_G.i 31 6 rfl rfl
    have g_44 : (G_25.1 31 6).toInt = (G.1 31 6).toInt := by rw [show G_25.1 31 6 = (G.1 31 6) from ((hq_26.i 31 6 (by decide) (by decide)).trans (hq_12.i 31 6 (by decide) (by decide)))]
    have b_45 : 0 ≤ (G.1 66 1).toInt ∧ (G.1 66 1).toInt ≤ 1600 := hB_G.i 66 1 rfl rfl
    have g_46 : (G_25.1 66 1).toInt = (G.1 66 1).toInt := by rw [show G_25.1 66 1 = (G.1 66 1) from ((hq_26.i 66 1 (by decide) (by decide)).trans (hq_12.i 66 1 (by decide) (by decide)))]
    have b_47 : 0 ≤ (G.1 66 2).toInt ∧ (G.1 66 2).toInt ≤ 4 := hB_G.i 66 2 rfl rfl
    have g_48 : (G_25.1 66 2).toInt = (G.1 66 2).toInt := by rw [show G_25.1 66 2 = (G.1 66 2) from ((hq_26.i 66 2 (by decide) (by decide)).trans (hq_12.i 66 2 (by decide) (by decide)))]
    have b_49 : (-1) ≤ (G.1 66 3).toInt ∧ (G.1 66 3).toInt ≤ 1600 := hB_G.i 66 3 rfl rfl
    have g_50 : (G_25.1 66 3).toInt = (G.1 66 3).toInt := by rw [show G_25.1 66 3 = (G.1 66 3) from ((hq_26.i 66 3 (by decide) (by decide)).trans (hq_12.i 66 3 (by decide) (by decide)))]
    have b_51 : 0 ≤ (G.1 66 78).toInt ∧ (G.1 66 78).toInt ≤ 40 := hB_G.i 66 78 rfl rfl
    have g_52 : (G_25.1 66 78).toInt = (G.1 66 78).toInt := by rw [show G_25.1 66 78 = (G.1 66 78) from ((hq_26.i 66 78 (by decide) (by decide)).trans (hq_12.i 66 78 (by decide) (by decide)))]
    have b_53 : 0 ≤ (G.1 66 79).toInt ∧ (G.1 66 79).toInt ≤ 40 := hB_G.i 66 79 rfl rfl
    have g_54 : (G_25.1 66 79).toInt = (G.1 66 79).toInt := by rw [show G_25.1 66 79 = (G.1 66 79) from ((hq_26.i 66 79 (by decide) (by decide)).trans (hq_12.i 66 79 (by decide) (by decide)))]
    have b_55 : 0 ≤ (G.1 66 86).toInt ∧ (G.1 66 86).toInt ≤ 100000 := hB_G.i 66 86 rfl rfl
    have g_56 : (G_25.1 66 86).toInt = (G.1 66 86).toInt := by rw [show G_25.1 66 86 = (G.1 66 86) from ((hq_26.i 66 86 (by decide) (by decide)).trans (hq_12.i 66 86 (by decide) (by decide)))]
    have b_57 : 0 ≤ (G.1 96 0).toInt ∧ (G.1 96 0).toInt ≤ 9 := hB_G.i 96 0 rfl rfl
    have g_58 : (G_25.1 96 0).toInt = (G.1 96 0).toInt := by rw [show G_25.1 96 0 = (G.1 96 0) from ((hq_26.i 96 0 (by decide) (by decide)).trans (hq_12.i 96 0 (by decide) (by decide)))]
    have b_59 : 0 ≤ (G.1 96 1).toInt ∧ (G.1 96 1).toInt ≤ 9 := hB_G.i 96 1 rfl rfl
    have g_60 : (G_25.1 96 1).toInt = (G.1 96 1).toInt := by rw [show G_25.1 96 1 = (G.1 96 1) from ((hq_26.i 96 1 (by decide) (by decide)).trans (hq_12.i 96 1 (by decide) (by decide)))]
    have b_61 : 0 ≤ (G.1 96 2).toInt ∧ (G.1 96 2).toInt ≤ 9 := hB_G.i 96 2 rfl rfl
    have g_62 : (G_25.1 96 2).toInt = (G.1 96 2).toInt := by rw [show G_25.1 96 2 = (G.1 96 2) from ((hq_26.i 96 2 (by decide) (by decide)).trans (hq_12.i 96 2 (by decide) (by decide)))]
    exact K G_25 _ _ _ (Or.inl ⟨((((hq_26.r 0 0 (by decide) (by decide)).trans (hq_12.r 0 0 (by decide) (by decide)))).trans (hv_0_0)), ((((hq_26.r 0 1 (by decide) (by decide)).trans (hq_12.r 0 1 (by decide) (by decide)))).trans (hv_0_1)), ((((hq_26.r 6 4 (by decide) (by decide)).trans (hq_12.r 6 4 (by decide) (by decide)))).trans (hv_6_4)), by omega, by omega, by omega, by omega, by omega, by omega, by omega, by omega, by omega, by omega, by omega, by omega⟩) hB_G_25 hW hS (lv_sub hl [0, 1, 2, 3] rfl)
  · skip
    refine lv_aload_n hx hb dL_law_435 rfl (lv_at hl 1 rfl) ?_
    refine lv_aload_n hx hb dL_law_436 rfl (lv_at hl 0 rfl) ?_
    refine lv_iload_n hx hb dL_law_437 rfl (lv_at hl 3 rfl) ?_
    refine lv_iconst (v := 1) hx hb dL_law_438 (by decide) ?_
    refine lv_iadd hx hb dL_law_439 ?_
    refine lv_topi (fun y_1 ey_1 => ?_)
    have ty_1 : y_1.toInt = i0.toInt + 1 := xI_add rfl rfl ey_1 (by omega) (by omega)
    refine va_sld hx hb hX hbl hbA hS (vin (by omega) (by omega)) dL_law_440 ?_
    refine lv_topi (fun y_2 ey_2 => ?_)
    have u_3 : y_2.toInt = (xs (i0 + 1).toNatClampNeg).toInt := by rw [ey_2, ey_1]
    refine lv_aload_n hx hb dL_law_441 rfl (lv_at hl 0 rfl) ?_
    refine lv_iload_n hx hb dL_law_442 rfl (lv_at hl 3 rfl) ?_
    refine lv_iconst (v := 2) hx hb dL_law_443 (by decide) ?_
    refine lv_iadd hx hb dL_law_444 ?_
    refine lv_topi (fun y_4 ey_4 => ?_)
    have ty_4 : y_4.toInt = i0.toInt + 2 := xI_add rfl rfl ey_4 (by omega) (by omega)
    refine va_sld hx hb hX hbl hbA hS (vin (by omega) (by omega)) dL_law_445 ?_
    refine lv_topi (fun y_5 ey_5 => ?_)
    have u_6 : y_5.toInt = (xs (i0 + 2).toNatClampNeg).toInt := by rw [ey_5, ey_4]
    refine lv_aload_n hx hb dL_law_446 rfl (lv_at hl 0 rfl) ?_
    refine lv_iload_n hx hb dL_law_447 rfl (lv_at hl 3 rfl) ?_
    refine lv_iconst (v := 3) hx hb dL_law_448 (by decide) ?_
    refine lv_iadd hx hb dL_law_449 ?_
    refine lv_topi (fun y_7 ey_7 => ?_)
    have ty_7 : y_7.toInt = i0.toInt + 3 := xI_add rfl rfl ey_7 (by omega) (by omega)
    refine va_sld hx hb hX hbl hbA hS (vin (by omega) (by omega)) dL_law_450 ?_
    refine lv_topi (fun y_8 ey_8 => ?_)
    have u_9 : y_8.toInt = (xs (i0 + 3).toNatClampNeg).toInt := by rw [ey_8, ey_7]
    refine S_calli (va_runV (As := [.int y_2, .int y_5, .int y_8]) (rest := []) ⟨hx, hb, hml, hown, hts⟩ (k_Wgap_2 l D k A a z G y_2 y_5 y_8 hv_0_0 hv_0_1 hv_6_4) (cwV 3 hts (gd_V hgd m945 m946 m947 m117 m948) rfl rfl rfl (by decide +kernel) ⟨Nat.le_of_ble_eq_true rfl, Nat.le_of_ble_eq_true rfl⟩) (pre_V hW hB_G hK hZ hS kd_0 rfl) rfl rfl hl.1 rfl (lv_room (Nat.le_of_ble_eq_true rfl)) dL_law_451 ⟨Nat.le_of_ble_eq_true rfl, Nat.le_of_ble_eq_true rfl⟩) hS (fun r_10 G_11 H locs hpo hW hS => ?_)
    obtain ⟨hB_G_11, hq_12⟩ := hpo
    refine lv_pop hx hb dL_law_454 rfl ?_
    refine lv_aload_n hx hb dL_law_455 rfl (lv_at hl 2 rfl) ?_
    refine lv_aload_n hx hb dL_law_456 rfl (lv_at hl 0 rfl) ?_
    refine lv_iload_n hx hb dL_law_457 rfl (lv_at hl 3 rfl) ?_
    refine lv_iconst (v := 1) hx hb dL_law_458 (by decide) ?_
    refine lv_iadd hx hb dL_law_459 ?_
    refine lv_topi (fun y_14 ey_14 => ?_)
    have ty_14 : y_14.toInt = i0.toInt + 1 := xI_add rfl rfl ey_14 (by omega) (by omega)
    refine va_sld hx hb hX hbl hbA hS (vin (by omega) (by omega)) dL_law_460 ?_
    refine lv_topi (fun y_15 ey_15 => ?_)
    have u_16 : y_15.toInt = (xs (i0 + 1).toNatClampNeg).toInt := by rw [ey_15, ey_14]
    refine lv_aload_n hx hb dL_law_461 rfl (lv_at hl 0 rfl) ?_
    refine lv_iload_n hx hb dL_law_462 rfl (lv_at hl 3 rfl) ?_
    refine lv_iconst (v := 2) hx hb dL_law_463 (by decide) ?_
    refine lv_iadd hx hb dL_law_464 ?_
    refine lv_topi (fun y_17 ey_17 => ?_)
    have ty_17 : y_17.toInt = i0.toInt + 2 := xI_add rfl rfl ey_17 (by omega) (by omega)
    refine va_sld hx hb hX hbl hbA hS (vin (by omega) (by omega)) dL_law_465 ?_
    refine lv_topi (fun y_18 ey_18 => ?_)
    have u_19 : y_18.toInt = (xs (i0 + 2).toNatClampNeg).toInt := by rw [ey_18, ey_17]
    refine lv_aload_n hx hb dL_law_466 rfl (lv_at hl 0 rfl) ?_
    refine lv_iload_n hx hb dL_law_467 rfl (lv_at hl 3 rfl) ?_
    refine lv_iconst (v := 3) hx hb dL_law_468 (by decide) ?_
    refine lv_iadd hx hb dL_law_469 ?_
    refine lv_topi (fun y_20 ey_20 => ?_)
    have ty_20 : y_20.toInt = i0.toInt + 3 := xI_add rfl rfl ey_20 (by omega) (by omega)
    refine va_sld hx hb hX hbl hbA hS (vin (by omega) (by omega)) dL_law_470 ?_
    refine lv_topi (fun y_21 ey_21 => ?_)
    have u_22 : y_21.toInt = (xs (i0 + 3).toNatClampNeg).toInt := by rw [ey_21, ey_20]
    have g_23 : gP G_11 = gP G := gP_fr (rs := [37, 38, 39]) (fs := [(6, 3)]) (Fr.rf.call hq_12 (by decide) (by decide)) (by decide) (by decide)
    refine S_calli (va_runV (As := [.int y_15, .int y_18, .int y_21]) (rest := []) ⟨hx, hb, hml, hown, hts⟩ (n_gap l D k A a z G_11 y_15 y_18 y_21 (by omega)) (cwV 3 hts (gd_V hgd m1818 m1819 m1820 m131 m1821) rfl rfl rfl (by decide +kernel) ⟨Nat.le_of_ble_eq_true rfl, Nat.le_of_ble_eq_true rfl⟩) (pre_V hW hB_G_11 hK hZ hS kd_66 rfl) rfl rfl hl.1 rfl (lv_room (Nat.le_of_ble_eq_true rfl)) dL_law_471 ⟨Nat.le_of_ble_eq_true rfl, Nat.le_of_ble_eq_true rfl⟩) hS (fun r_24 G_25 H locs hpo hW hS => ?_)
    obtain ⟨hB_G_25, hq_26⟩ := hpo
    refine lv_pop hx hb dL_law_474 rfl ?_
    refine lv_goto (tgt := 1641) hx hb dL_law_475 (by decide) ?_
    have g_28 : gO G_25 = gO G := gO_fr (rs := [37, 38, 39, 76]) (fs := [(6, 3)]) ((Fr.rf.call hq_12 (by decide) (by decide)).call hq_26 (by decide) (by decide)) (by decide) (by decide)
    have g_29 : gP G_25 = gP G := gP_fr (rs := [37, 38, 39, 76]) (fs := [(6, 3)]) ((Fr.rf.call hq_12 (by decide) (by decide)).call hq_26 (by decide) (by decide)) (by decide) (by decide)
    have g_30 : gS G_25 = gS G := gS_fr (rs := [37, 38, 39, 76]) (fs := [(6, 3)]) ((Fr.rf.call hq_12 (by decide) (by decide)).call hq_26 (by decide) (by decide)) (by decide) (by decide)
    have g_31 : gTE G_25 = gTE G := gTE_fr (rs := [37, 38, 39, 76]) (fs := [(6, 3)]) ((Fr.rf.call hq_12 (by decide) (by decide)).call hq_26 (by decide) (by decide)) (by decide) (by decide)
    have g_32 : gW G_25 = gW G := gW_fr (rs := [37, 38, 39, 76]) (fs := [(6, 3)]) ((Fr.rf.call hq_12 (by decide) (by decide)).call hq_26 (by decide) (by decide)) (by decide) (by decide)
    have b_33 : 0 ≤ (G.1 0 11).toInt ∧ (G.1 0 11).toInt ≤ 1600 := hB_G.i 0 11 rfl rfl
    have g_34 : (G_25.1 0 11).toInt = (G.1 0 11).toInt := by rw [show G_25.1 0 11 = (G.1 0 11) from ((hq_26.i 0 11 (by decide) (by decide)).trans (hq_12.i 0 11 (by decide) (by decide)))]
    have b_35 : 0 ≤ (G.1 3 7).toInt ∧ (G.1 3 7).toInt ≤ 4 := hB_G.i 3 7 rfl rfl
    have g_36 : (G_25.1 3 7).toInt = (G.1 3 7).toInt := by rw [show G_25.1 3 7 = (G.1 3 7) from ((hq_26.i 3 7 (by decide) (by decide)).trans (hq_12.i 3 7 (by decide) (by decide)))]
    have b_37 : (-1) ≤ (G.1 3 8).toInt ∧ (G.1 3 8).toInt ≤ 1600 := hB_G.i 3 8 rfl rfl
    have g_38 : (G_25.1 3 8).toInt = (G.1 3 8).toInt := by rw [show G_25.1 3 8 = (G.1 3 8) from ((hq_26.i 3 8 (by decide) (by decide)).trans (hq_12.i 3 8 (by decide) (by decide)))]
    have b_39 : 0 ≤ (G.1 30 4).toInt ∧ (G.1 30 4).toInt ≤ 40 := hB_G.i 30 4 rfl rfl
    have g_40 : (G_25.1 30 4).toInt = (G.1 30 4).toInt := by rw [show G_25.1 30 4 = (G.1 30 4) from ((hq_26.i 30 4 (by decide) (by decide)).trans (hq_12.i 30 4 (by decide) (by decide)))]
    have b_41 : 0 ≤ (G.1 30 5).toInt ∧ (G.1 30 5).toInt ≤ 40 := hB_G.i 30 5 rfl rfl
    have g_42 : (G_25.1 30 5).toInt = (G.1 30 5).toInt := by rw [show G_25.1 30 5 = (G.1 30 5) from ((hq_26.i 30 5 (by decide) (by decide)).trans (hq_12.i 30 5 (by decide) (by decide)))]
    have b_43 : 0 ≤ (G.1 31 6).toInt ∧ (G.1 31 6).toInt ≤ 100000 := hB_G.i 31 6 rfl rfl
    have g_44 : (G_25.1 31 6).toInt = (G.1 31 6).toInt := by rw [show G_25.1 31 6 = (G.1 31 6) from ((hq_26.i 31 6 (by decide) (by decide)).trans (hq_12.i 31 6 (by decide) (by decide)))]
    have b_45 : 0 ≤ (G.1 66 1).toInt ∧ (G.1 66 1).toInt ≤ 1600 := hB_G.i 66 1 rfl rfl
    have g_46 : (G_25.1 66 1).toInt = (G.1 66 1).toInt := by rw [show G_25.1 66 1 = (G.1 66 1) from ((hq_26.i 66 1 (by decide) (by decide)).trans (hq_12.i 66 1 (by decide) (by decide)))]
    have b_47 : 0 ≤ (G.1 66 2).toInt ∧ (G.1 66 2).toInt ≤ 4 := hB_G.i 66 2 rfl rfl
    have g_48 : (G_25.1 66 2).toInt = (G.1 66 2).toInt := by rw [show G_25.1 66 2 = (G.1 66 2) from ((hq_26.i 66 2 (by decide) (by decide)).trans (hq_12.i 66 2 (by decide) (by decide)))]
    have b_49 : (-1) ≤ (G.1 66 3).toInt ∧ (G.1 66 3).toInt ≤ 1600 := hB_G.i 66 3 rfl rfl
    have g_50 : (G_25.1 66 3).toInt = (G.1 66 3).toInt := by rw [show G_25.1 66 3 = (G.1 66 3) from ((hq_26.i 66 3 (by decide) (by decide)).trans (hq_12.i 66 3 (by decide) (by decide)))]
    have b_51 : 0 ≤ (G.1 66 78).toInt ∧ (G.1 66 78).toInt ≤ 40 := hB_G.i 66 78 rfl rfl
    have g_52 : (G_25.1 66 78).toInt = (G.1 66 78).toInt := by rw [show G_25.1 66 78 = (G.1 66 78) from ((hq_26.i 66 78 (by decide) (by decide)).trans (hq_12.i 66 78 (by decide) (by decide)))]
    have b_53 : 0 ≤ (G.1 66 79).toInt ∧ (G.1 66 79).toInt ≤ 40 := hB_G.i 66 79 rfl rfl
    have g_54 : (G_25.1 66 79).toInt = (G.1 66 79).toInt := by rw [show G_25.1 66 79 = (G.1 66 79) from ((hq_26.i 66 79 (by decide) (by decide)).trans (hq_12.i 66 79 (by decide) (by decide)))]
    have b_55 : 0 ≤ (G.1 66 86).toInt ∧ (G.1 66 86).toInt ≤ 100000 := hB_G.i 66 86 rfl rfl
    have g_56 : (G_25.1 66 86).toInt = (G.1 66 86).toInt := by rw [show G_25.1 66 86 = (G.1 66 86) from ((hq_26.i 66 86 (by decide) (by decide)).trans (hq_12.i 66 86 (by decide) (by decide)))]
    have b_57 : 0 ≤ (G.1 96 0).toInt ∧ (G.1 96 0).toInt ≤ 9 := hB_G.i 96 0 rfl rfl
    have g_58 : (G_25.1 96 0).toInt = (G.1 96 0).toInt := by rw [show G_25.1 96 0 = (G.1 96 0) from ((hq_26.i 96 0 (by decide) (by decide)).trans (hq_12.i 96 0 (by decide) (by decide)))]
    have b_59 : 0 ≤ (G.1 96 1).toInt ∧ (G.1 96 1).toInt ≤ 9 := hB_G.i 96 1 rfl rfl
    have g_60 : (G_25.1 96 1).toInt = (G.1 96 1).toInt := by rw [show G_25.1 96 1 = (G.1 96 1) from ((hq_26.i 96 1 (by decide) (by decide)).trans (hq_12.i 96 1 (by decide) (by decide)))]
    have b_61 : 0 ≤ (G.1 96 2).toInt ∧ (G.1 96 2).toInt ≤ 9 := hB_G.i 96 2 rfl rfl
    have g_62 : (G_25.1 96 2).toInt = (G.1 96 2).toInt := by rw [show G_25.1 96 2 = (G.1 96 2) from ((hq_26.i 96 2 (by decide) (by decide)).trans (hq_12.i 96 2 (by decide) (by decide)))]
    exact K G_25 _ _ _ (Or.inr ⟨((((hq_26.r 0 0 (by decide) (by decide)).trans (hq_12.r 0 0 (by decide) (by decide)))).trans (hv_0_0)), ((((hq_26.r 0 1 (by decide) (by decide)).trans (hq_12.r 0 1 (by decide) (by decide)))).trans (hv_0_1)), ((((hq_26.r 6 4 (by decide) (by decide)).trans (hq_12.r 6 4 (by decide) (by decide)))).trans (hv_6_4)), by omega, by omega, by omega, by omega, by omega, by omega, by omega, by omega, by omega, by omega, by omega, by omega⟩) hB_G_25 hW hS (lv_sub hl [0, 1, 2, 3] rfl)
