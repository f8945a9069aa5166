theorem m949 : Cond.methodLink RL 49 yX11_foot ∈ gd := gd_mem 949 (by decide +kernel) (by decide +kernel)
theorem m950 : Cond.instanceMethod yX11_foot ∈ gd := gd_mem 950 (by decide +kernel) (by decide +kernel)
theorem m951 : Cond.selects RX11 yX11_foot yX11_foot ∈ gd := gd_mem 951 (by decide +kernel) (by decide +kernel)
theorem m952 : Cond.code yX11_foot cX11_foot 5 (some .int) ∈ gd := gd_mem 952 (by decide +kernel) (by decide +kernel)
theorem m971 : Cond.methodLink RL 54 yX11_fewest ∈ gd := gd_mem 971 (by decide +kernel) (by decide +kernel)
theorem m972 : Cond.instanceMethod yX11_fewest ∈ gd := gd_mem 972 (by decide +kernel) (by decide +kernel)
theorem m973 : Cond.selects RX11 yX11_fewest yX11_fewest ∈ gd := gd_mem 973 (by decide +kernel) (by decide +kernel)
theorem m974 : Cond.code yX11_fewest cX11_fewest 6 (some .int) ∈ gd := gd_mem 974 (by decide +kernel) (by decide +kernel)
theorem m1014 : Cond.methodLink RL 58 yX11_ways ∈ gd := gd_mem 1014 (by decide +kernel) (by decide +kernel)
theorem m1015 : Cond.instanceMethod yX11_ways ∈ gd := gd_mem 1015 (by decide +kernel) (by decide +kernel)
theorem m1016 : Cond.selects RX11 yX11_ways yX11_ways ∈ gd := gd_mem 1016 (by decide +kernel) (by decide +kernel)
theorem m1017 : Cond.code yX11_ways cX11_ways 5 (some .long) ∈ gd := gd_mem 1017 (by decide +kernel) (by decide +kernel)
theorem m1822 : Cond.methodLink RL 53 yX12_foot ∈ gd := gd_mem 1822 (by decide +kernel) (by decide +kernel)
theorem m1823 : Cond.instanceMethod yX12_foot ∈ gd := gd_mem 1823 (by decide +kernel) (by decide +kernel)
theorem m1824 : Cond.selects RX12 yX12_foot yX12_foot ∈ gd := gd_mem 1824 (by decide +kernel) (by decide +kernel)
theorem m1825 : Cond.code yX12_foot cX12_foot 5 (some .int) ∈ gd := gd_mem 1825 (by decide +kernel) (by decide +kernel)
theorem m1842 : Cond.methodLink RL 57 yX12_fewest ∈ gd := gd_mem 1842 (by decide +kernel) (by decide +kernel)
theorem m1843 : Cond.instanceMethod yX12_fewest ∈ gd := gd_mem 1843 (by decide +kernel) (by decide +kernel)
theorem m1844 : Cond.selects RX12 yX12_fewest yX12_fewest ∈ gd := gd_mem 1844 (by decide +kernel) (by decide +kernel)
theorem m1845 : Cond.code yX12_fewest cX12_fewest 11 (some .int) ∈ gd := gd_mem 1845 (by decide +kernel) (by decide +kernel)
theorem m1870 : Cond.methodLink RL 62 yX12_ways ∈ gd := gd_mem 1870 (by decide +kernel) (by decide +kernel)
theorem m1871 : Cond.instanceMethod yX12_ways ∈ gd := gd_mem 1871 (by decide +kernel) (by decide +kernel)
theorem m1872 : Cond.selects RX12 yX12_ways yX12_ways ∈ gd := gd_mem 1872 (by decide +kernel) (by decide +kernel)
theorem m1873 : Cond.code yX12_ways cX12_ways 8 (some .long) ∈ gd := gd_mem 1873 (by decide +kernel) (by decide +kernel)
theorem dL_law_478 : decode cL_law 478 = .ok (.aload_n 1, 1) := by decide +kernel
theorem dL_law_479 : decode cL_law 479 = .ok (.aload_n 0, 1) := by decide +kernel
theorem dL_law_480 : decode cL_law 480 = .ok (.iload_n 3, 1) := by decide +kernel
theorem dL_law_481 : decode cL_law 481 = .ok (.iconst 1, 1) := by decide +kernel
theorem dL_law_482 : decode cL_law 482 = .ok (.iadd, 1) := by decide +kernel
theorem dL_law_483 : decode cL_law 483 = .ok (.iaload, 1) := by decide +kernel
theorem dL_law_484 : decode cL_law 484 = .ok (.aload_n 0, 1) := by decide +kernel
theorem dL_law_485 : decode cL_law 485 = .ok (.iload_n 3, 1) := by decide +kernel
theorem dL_law_486 : decode cL_law 486 = .ok (.iconst 2, 1) := by decide +kernel
theorem dL_law_487 : decode cL_law 487 = .ok (.iadd, 1) := by decide +kernel
theorem dL_law_488 : decode cL_law 488 = .ok (.iaload, 1) := by decide +kernel
theorem dL_law_489 : decode cL_law 489 = .ok (.aload_n 0, 1) := by decide +kernel
theorem dL_law_490 : decode cL_law 490 = .ok (.iload_n 3, 1) := by decide +kernel
theorem dL_law_491 : decode cL_law 491 = .ok (.iconst 3, 1) := by decide +kernel
theorem dL_law_492 : decode cL_law 492 = .ok (.iadd, 1) := by decide +kernel
theorem dL_law_493 : decode cL_law 493 = .ok (.iaload, 1) := by decide +kernel
theorem dL_law_494 : decode cL_law 494 = .ok (.aload_n 0, 1) := by decide +kernel
theorem dL_law_495 : decode cL_law 495 = .ok (.iload_n 3, 1) := by decide +kernel
theorem dL_law_496 : decode cL_law 496 = .ok (.iconst 4, 1) := by decide +kernel
theorem dL_law_497 : decode cL_law 497 = .ok (.iadd, 1) := by decide +kernel
theorem dL_law_498 : decode cL_law 498 = .ok (.iaload, 1) := by decide +kernel
theorem dL_law_499 : decode cL_law 499 = .ok (.invokevirtual 49, 3) := by decide +kernel
theorem dL_law_502 : decode cL_law 502 = .ok (.pop, 1) := by decide +kernel
theorem dL_law_503 : decode cL_law 503 = .ok (.aload_n 2, 1) := by decide +kernel
theorem dL_law_504 : decode cL_law 504 = .ok (.aload_n 0, 1) := by decide +kernel
theorem dL_law_505 : decode cL_law 505 = .ok (.iload_n 3, 1) := by decide +kernel
theorem dL_law_506 : decode cL_law 506 = .ok (.iconst 1, 1) := by decide +kernel
theorem dL_law_507 : decode cL_law 507 = .ok (.iadd, 1) := by decide +kernel
theorem dL_law_508 : decode cL_law 508 = .ok (.iaload, 1) := by decide +kernel
theorem dL_law_509 : decode cL_law 509 = .ok (.aload_n 0, 1) := by decide +kernel
theorem dL_law_510 : decode cL_law 510 = .ok (.iload_n 3, 1) := by decide +kernel
theorem dL_law_511 : decode cL_law 511 = .ok (.iconst 2, 1) := by decide +kernel
theorem dL_law_512 : decode cL_law 512 = .ok (.iadd, 1) := by decide +kernel
theorem dL_law_513 : decode cL_law 513 = .ok (.iaload, 1) := by decide +kernel
theorem dL_law_514 : decode cL_law 514 = .ok (.aload_n 0, 1) := by decide +kernel
theorem dL_law_515 : decode cL_law 515 = .ok (.iload_n 3, 1) := by decide +kernel
theorem dL_law_516 : decode cL_law 516 = .ok (.iconst 3, 1) := by decide +kernel
theorem dL_law_517 : decode cL_law 517 = .ok (.iadd, 1) := by decide +kernel
theorem dL_law_518 : decode cL_law 518 = .ok (.iaload, 1) := by decide +kernel
theorem dL_law_519 : decode cL_law 519 = .ok (.aload_n 0, 1) := by decide +kernel
theorem dL_law_520 : decode cL_law 520 = .ok (.iload_n 3, 1) := by decide +kernel
theorem dL_law_521 : decode cL_law 521 = .ok (.iconst 4, 1) := by decide +kernel
theorem dL_law_522 : decode cL_law 522 = .ok (.iadd, 1) := by decide +kernel
theorem dL_law_523 : decode cL_law 523 = .ok (.iaload, 1) := by decide +kernel
theorem dL_law_524 : decode cL_law 524 = .ok (.invokevirtual 53, 3) := by decide +kernel
theorem dL_law_527 : decode cL_law 527 = .ok (.pop, 1) := by decide +kernel
theorem dL_law_528 : decode cL_law 528 = .ok (.goto 1113, 3) := by decide +kernel
theorem dL_law_531 : decode cL_law 531 = .ok (.aload_n 1, 1) := by decide +kernel
theorem dL_law_532 : decode cL_law 532 = .ok (.aload_n 0, 1) := by decide +kernel
theorem dL_law_533 : decode cL_law 533 = .ok (.iload_n 3, 1) := by decide +kernel
theorem dL_law_534 : decode cL_law 534 = .ok (.iconst 1, 1) := by decide +kernel
theorem dL_law_535 : decode cL_law 535 = .ok (.iadd, 1) := by decide +kernel
theorem dL_law_536 : decode cL_law 536 = .ok (.iaload, 1) := by decide +kernel
theorem dL_law_537 : decode cL_law 537 = .ok (.aload_n 0, 1) := by decide +kernel
theorem dL_law_538 : decode cL_law 538 = .ok (.iload_n 3, 1) := by decide +kernel
theorem dL_law_539 : decode cL_law 539 = .ok (.iconst 2, 1) := by decide +kernel
theorem dL_law_540 : decode cL_law 540 = .ok (.iadd, 1) := by decide +kernel
theorem dL_law_541 : decode cL_law 541 = .ok (.iaload, 1) := by decide +kernel
theorem dL_law_542 : decode cL_law 542 = .ok (.aload_n 0, 1) := by decide +kernel
theorem dL_law_543 : decode cL_law 543 = .ok (.iload_n 3, 1) := by decide +kernel
theorem dL_law_544 : decode cL_law 544 = .ok (.iconst 3, 1) := by decide +kernel
theorem dL_law_545 : decode cL_law 545 = .ok (.iadd, 1) := by decide +kernel
theorem dL_law_546 : decode cL_law 546 = .ok (.iaload, 1) := by decide +kernel
theorem dL_law_547 : decode cL_law 547 = .ok (.aload_n 0, 1) := by decide +kernel
theorem dL_law_548 : decode cL_law 548 = .ok (.iload_n 3, 1) := by decide +kernel
theorem dL_law_549 : decode cL_law 549 = .ok (.iconst 4, 1) := by decide +kernel
theorem dL_law_550 : decode cL_law 550 = .ok (.iadd, 1) := by decide +kernel
theorem dL_law_551 : decode cL_law 551 = .ok (.iaload, 1) := by decide +kernel
theorem dL_law_552 : decode cL_law 552 = .ok (.invokevirtual 54, 3) := by decide +kernel
theorem dL_law_555 : decode cL_law 555 = .ok (.pop, 1) := by decide +kernel
theorem dL_law_556 : decode cL_law 556 = .ok (.aload_n 2, 1) := by decide +kernel
theorem dL_law_557 : decode cL_law 557 = .ok (.aload_n 0, 1) := by decide +kernel
theorem dL_law_558 : decode cL_law 558 = .ok (.iload_n 3, 1) := by decide +kernel
theorem dL_law_559 : decode cL_law 559 = .ok (.iconst 1, 1) := by decide +kernel
theorem dL_law_560 : decode cL_law 560 = .ok (.iadd, 1) := by decide +kernel
theorem dL_law_561 : decode cL_law 561 = .ok (.iaload, 1) := by decide +kernel
theorem dL_law_562 : decode cL_law 562 = .ok (.aload_n 0, 1) := by decide +kernel
theorem dL_law_563 : decode cL_law 563 = .ok (.iload_n 3, 1) := by decide +kernel
theorem dL_law_564 : decode cL_law 564 = .ok (.iconst 2, 1) := by decide +kernel
theorem dL_law_565 : decode cL_law 565 = .ok (.iadd, 1) := by decide +kernel
theorem dL_law_566 : decode cL_law 566 = .ok (.iaload, 1) := by decide +kernel
theorem dL_law_567 : decode cL_law 567 = .ok (.aload_n 0, 1) := by decide +kernel
theorem dL_law_568 : decode cL_law 568 = .ok (.iload_n 3, 1) := by decide +kernel
theorem dL_law_569 : decode cL_law 569 = .ok (.iconst 3, 1) := by decide +kernel
theorem dL_law_570 : decode cL_law 570 = .ok (.iadd, 1) := by decide +kernel
theorem dL_law_571 : decode cL_law 571 = .ok (.iaload, 1) := by decide +kernel
theorem dL_law_572 : decode cL_law 572 = .ok (.aload_n 0, 1) := by decide +kernel
theorem dL_law_573 : decode cL_law 573 = .ok (.iload_n 3, 1) := by decide +kernel
theorem dL_law_574 : decode cL_law 574 = .ok (.iconst 4, 1) := by decide +kernel
theorem dL_law_575 : decode cL_law 575 = .ok (.iadd, 1) := by decide +kernel
theorem dL_law_576 : decode cL_law 576 = .ok (.iaload, 1) := by decide +kernel
theorem dL_law_577 : decode cL_law 577 = .ok (.invokevirtual 57, 3) := by decide +kernel
theorem dL_law_580 : decode cL_law 580 = .ok (.pop, 1) := by decide +kernel
theorem dL_law_581 : decode cL_law 581 = .ok (.goto 1060, 3) := by decide +kernel
theorem dL_law_584 : decode cL_law 584 = .ok (.aload_n 1, 1) := by decide +kernel
theorem dL_law_585 : decode cL_law 585 = .ok (.aload_n 0, 1) := by decide +kernel
theorem dL_law_586 : decode cL_law 586 = .ok (.iload_n 3, 1) := by decide +kernel
theorem dL_law_587 : decode cL_law 587 = .ok (.iconst 1, 1) := by decide +kernel
theorem dL_law_588 : decode cL_law 588 = .ok (.iadd, 1) := by decide +kernel
theorem dL_law_589 : decode cL_law 589 = .ok (.iaload, 1) := by decide +kernel
theorem dL_law_590 : decode cL_law 590 = .ok (.aload_n 0, 1) := by decide +kernel
theorem dL_law_591 : decode cL_law 591 = .ok (.iload_n 3, 1) := by decide +kernel
theorem dL_law_592 : decode cL_law 592 = .ok (.iconst 2, 1) := by decide +kernel
theorem dL_law_593 : decode cL_law 593 = .ok (.iadd, 1) := by decide +kernel
theorem dL_law_594 : decode cL_law 594 = .ok (.iaload, 1) := by decide +kernel
theorem dL_law_595 : decode cL_law 595 = .ok (.aload_n 0, 1) := by decide +kernel
theorem dL_law_596 : decode cL_law 596 = .ok (.iload_n 3, 1) := by decide +kernel
theorem dL_law_597 : decode cL_law 597 = .ok (.iconst 3, 1) := by decide +kernel
theorem dL_law_598 : decode cL_law 598 = .ok (.iadd, 1) := by decide +kernel
theorem dL_law_599 : decode cL_law 599 = .ok (.iaload, 1) := by decide +kernel
theorem dL_law_600 : decode cL_law 600 = .ok (.aload_n 0, 1) := by decide +kernel
theorem dL_law_601 : decode cL_law 601 = .ok (.iload_n 3, 1) := by decide +kernel
theorem dL_law_602 : decode cL_law 602 = .ok (.iconst 4, 1) := by decide +kernel
theorem dL_law_603 : decode cL_law 603 = .ok (.iadd, 1) := by decide +kernel
theorem dL_law_604 : decode cL_law 604 = .ok (.iaload, 1) := by decide +kernel
theorem dL_law_605 : decode cL_law 605 = .ok (.invokevirtual 58, 3) := by decide +kernel
theorem dL_law_608 : decode cL_law 608 = .ok (.pop2, 1) := by decide +kernel
theorem dL_law_609 : decode cL_law 609 = .ok (.aload_n 2, 1) := by decide +kernel
theorem dL_law_610 : decode cL_law 610 = .ok (.aload_n 0, 1) := by decide +kernel
theorem dL_law_611 : decode cL_law 611 = .ok (.iload_n 3, 1) := by decide +kernel
theorem dL_law_612 : decode cL_law 612 = .ok (.iconst 1, 1) := by decide +kernel
theorem dL_law_613 : decode cL_law 613 = .ok (.iadd, 1) := by decide +kernel
theorem dL_law_614 : decode cL_law 614 = .ok (.iaload, 1) := by decide +kernel
theorem dL_law_615 : decode cL_law 615 = .ok (.aload_n 0, 1) := by decide +kernel
theorem dL_law_616 : decode cL_law 616 = .ok (.iload_n 3, 1) := by decide +kernel
theorem dL_law_617 : decode cL_law 617 = .ok (.iconst 2, 1) := by decide +kernel
theorem dL_law_618 : decode cL_law 618 = .ok (.iadd, 1) := by decide +kernel
theorem dL_law_619 : decode cL_law 619 = .ok (.iaload, 1) := by decide +kernel
theorem dL_law_620 : decode cL_law 620 = .ok (.aload_n 0, 1) := by decide +kernel
theorem dL_law_621 : decode cL_law 621 = .ok (.iload_n 3, 1) := by decide +kernel
theorem dL_law_622 : decode cL_law 622 = .ok (.iconst 3, 1) := by decide +kernel
theorem dL_law_623 : decode cL_law 623 = .ok (.iadd, 1) := by decide +kernel
theorem dL_law_624 : decode cL_law 624 = .ok (.iaload, 1) := by decide +kernel
theorem dL_law_625 : decode cL_law 625 = .ok (.aload_n 0, 1) := by decide +kernel
theorem dL_law_626 : decode cL_law 626 = .ok (.iload_n 3, 1) := by decide +kernel
theorem dL_law_627 : decode cL_law 627 = .ok (.iconst 4, 1) := by decide +kernel
theorem dL_law_628 : decode cL_law 628 = .ok (.iadd, 1) := by decide +kernel
theorem dL_law_629 : decode cL_law 629 = .ok (.iaload, 1) := by decide +kernel
theorem dL_law_630 : decode cL_law 630 = .ok (.invokevirtual 62, 3) := by decide +kernel
theorem dL_law_633 : decode cL_law 633 = .ok (.pop2, 1) := by decide +kernel
theorem dL_law_634 : decode cL_law 634 = .ok (.goto 1007, 3) := by decide +kernel
set_option maxHeartbeats 4000000 in
set_option maxRecDepth 100000 in
theorem law_8 {p : Program} {l : Launch} {e : Env} {s : State} {m : MethodId} {below : List Frame} {meth : Method} {c : Code} {D : va_G} {k : KT} {A : Nat → Prop} {a : Nat → Nat} {z : SK} {b L : Nat} {xs : Nat → Int32} (hL : L ≤ 3072) (C0 : lw_At p s m meth c b L xs) (hK : cK D k s) (hZ : Sx A z s) (hbA : ¬ A b) {G : GS} {i0 : Int32} (hi0 : 0 ≤ i0.toInt) (hi6 : i0.toInt + 6 ≤ L) (hI : LI G) (hB_G : Bd G) {H : Heap} {locs : List Loc} {ls : Array Slot} (hW : Wd D k A a G H) (hS : va_S A s.heap H locs) (hl : lv_has ls 4 [(0, .ref b), (1, .ref (a 0)), (2, .ref (a 66)), (3, .int i0)]) (K : ∀ (G1 : GS) (H1 : Heap) (locs1 : List Loc) (ls1 : Array Slot), LI G1 → Bd G1 → Wd D k A a G1 H1 → va_S A s.heap H1 locs1 → lv_has ls1 4 [(0, .ref b), (1, .ref (a 0)), (2, .ref (a 66)), (3, .int i0)] → W p l e room_1 s m #[Value.ref b] below meth c H1 locs1 119 46443 (lw_Z below #[Value.ref b] s) (F0 m 1641 ls1 [])) : W p l e room_1 s m #[Value.ref b] below meth c H locs 119 46443 (lw_Z below #[Value.ref b] s) (F0 m 478 ls []) := by
  obtain ⟨hx, hb, hr, hml, hown, hts, hX, hbl, hlocks, hgv⟩ := id C0
  have hown : s.vm.findClass RL = some m.cls := hown
  have hgd : ∀ w ∈ gd, w ∈ lw_tbl := fun w h => (List.mem_filter.mp h).1
  have hg : ∀ w ∈ gd, w.before #[Value.ref b] s = true := fun w h => hts w (hgd w h)
  rcases hI with ⟨hv_0_0, hv_0_1, hv_6_4, hj0, hj1, hj2, hj3, hj4, hj5, hj6, hj7, hj8, hj9, hj10, hj11⟩ | ⟨hv_0_0, hv_0_1, hv_6_4, hj0, hj1, hj2, hj3, hj4, hj5, hj6, hj7, hj8, hj9, hj10, hj11⟩
  · skip
    refine lv_aload_n hx hb dL_law_478 rfl (lv_at hl 1 rfl) ?_
    refine lv_aload_n hx hb dL_law_479 rfl (lv_at hl 0 rfl) ?_
    refine lv_iload_n hx hb dL_law_480 rfl (lv_at hl 3 rfl) ?_
    refine lv_iconst (v := 1) hx hb dL_law_481 (by decide) ?_
    refine lv_iadd hx hb dL_law_482 ?_
    refine lv_topi (fun y_1 ey_1 => ?_)
    have ty_1 : y_1.toInt = i0.toInt + 1 := xI_add rfl rfl ey_1 (by omega) (by omega)
    refine va_sld hx hb hX hbl hbA hS (vin (by omega) (by omega)) dL_law_483 ?_
    refine lv_topi (fun y_2 ey_2 => ?_)
    have u_3 : y_2.toInt = (xs (i0 + 1).toNatClampNeg).toInt := by rw [ey_2, ey_1]
    refine lv_aload_n hx hb dL_law_484 rfl (lv_at hl 0 rfl) ?_
    refine lv_iload_n hx hb dL_law_485 rfl (lv_at hl 3 rfl) ?_
    refine lv_iconst (v := 2) hx hb dL_law_486 (by decide) ?_
    refine lv_iadd hx hb dL_law_487 ?_
    refine lv_topi (fun y_4 ey_4 => ?_)
    have ty_4 : y_4.toInt = i0.toInt + 2 := xI_add rfl rfl ey_4 (by omega) (by omega)
    refine va_sld hx hb hX hbl hbA hS (vin (by omega) (by omega)) dL_law_488 ?_
    refine lv_topi (fun y_5 ey_5 => ?_)
    have u_6 : y_5.toInt = (xs (i0 + 2).toNatClampNeg).toInt := by rw [ey_5, ey_4]
    refine lv_aload_n hx hb dL_law_489 rfl (lv_at hl 0 rfl) ?_
    refine lv_iload_n hx hb dL_law_490 rfl (lv_at hl 3 rfl) ?_
    refine lv_iconst (v := 3) hx hb dL_law_491 (by decide) ?_
    refine lv_iadd hx hb dL_law_492 ?_
    refine lv_topi (fun y_7 ey_7 => ?_)
    have ty_7 : y_7.toInt = i0.toInt + 3 := xI_add rfl rfl ey_7 (by omega) (by omega)
    refine va_sld hx hb hX hbl hbA hS (vin (by omega) (by omega)) dL_law_493 ?_
    refine lv_topi (fun y_8 ey_8 => ?_)
    have u_9 : y_8.toInt = (xs (i0 + 3).toNatClampNeg).toInt := by rw [ey_8, ey_7]
    refine lv_aload_n hx hb dL_law_494 rfl (lv_at hl 0 rfl) ?_
    refine lv_iload_n hx hb dL_law_495 rfl (lv_at hl 3 rfl) ?_
    refine lv_iconst (v := 4) hx hb dL_law_496 (by decide) ?_
    refine lv_iadd hx hb dL_law_497 ?_
    refine lv_topi (fun y_10 ey_10 => ?_)
    have ty_10 : y_10.toInt = i0.toInt + 4 := xI_add rfl rfl ey_10 (by omega) (by omega)
    refine va_sld hx hb hX hbl hbA hS (vin (by omega) (by omega)) dL_law_498 ?_
    refine lv_topi (fun y_11 ey_11 => ?_)
    have u_12 : y_11.toInt = (xs (i0 + 4).toNatClampNeg).toInt := by rw [ey_11, ey_10]
    refine S_calli (va_runV (As := [.int y_2, .int y_5, .int y_8, .int y_11]) (rest := []) ⟨hx, hb, hml, hown, hts⟩ (k_Wfoot_1 l D k A a z G y_2 y_5 y_8 y_11 hv_0_0 hv_0_1 hv_6_4) (cwV 4 hts (gd_V hgd m949 m950 m951 m117 m952) rfl rfl rfl (by decide +kernel) ⟨Nat.le_of_ble_eq_true rfl, Nat.le_of_ble_eq_true rfl⟩) (pre_V hW hB_G hK hZ hS kd_0 rfl) rfl rfl hl.1 rfl (lv_room (Nat.le_of_ble_eq_true rfl)) dL_law_499 ⟨Nat.le_of_ble_eq_true rfl, Nat.le_of_ble_eq_true rfl⟩) hS (fun r_13 G_14 H locs hpo hW hS => ?_)
    have hX_17 : P_Wfoot_1 y_2 y_5 y_8 y_11 G r_13 G_14 := hpo
    obtain ⟨hB_G_14, hq_15, -⟩ := hpo
    refine lv_pop hx hb dL_law_502 rfl ?_
    refine lv_aload_n hx hb dL_law_503 rfl (lv_at hl 2 rfl) ?_
    refine lv_aload_n hx hb dL_law_504 rfl (lv_at hl 0 rfl) ?_
    refine lv_iload_n hx hb dL_law_505 rfl (lv_at hl 3 rfl) ?_
    refine lv_iconst (v := 1) hx hb dL_law_506 (by decide) ?_
    refine lv_iadd hx hb dL_law_507 ?_
    refine lv_topi (fun y_18 ey_18 => ?_)
    have ty_18 : y_18.toInt = i0.toInt + 1 := xI_add rfl rfl ey_18 (by omega) (by omega)
    refine va_sld hx hb hX hbl hbA hS (vin (by omega) (by omega)) dL_law_508 ?_
    refine lv_topi (fun y_19 ey_19 => ?_)
    have u_20 : y_19.toInt = (xs (i0 + 1).toNatClampNeg).toInt := by rw [ey_19, ey_18]
    refine lv_aload_n hx hb dL_law_509 rfl (lv_at hl 0 rfl) ?_
    refine lv_iload_n hx hb dL_law_510 rfl (lv_at hl 3 rfl) ?_
    refine lv_iconst (v := 2) hx hb dL_law_511 (by decide) ?_
    refine lv_iadd hx hb dL_law_512 ?_
    refine lv_topi (fun y_21 ey_21 => ?_)
    have ty_21 : y_21.toInt = i0.toInt + 2 := xI_add rfl rfl ey_21 (by omega) (by omega)
    refine va_sld hx hb hX hbl hbA hS (vin (by omega) (by omega)) dL_law_513 ?_
    refine lv_topi (fun y_22 ey_22 => ?_)
    have u_23 : y_22.toInt = (xs (i0 + 2).toNatClampNeg).toInt := by rw [ey_22, ey_21]
    refine lv_aload_n hx hb dL_law_514 rfl (lv_at hl 0 rfl) ?_
    refine lv_iload_n hx hb dL_law_515 rfl (lv_at hl 3 rfl) ?_
    refine lv_iconst (v := 3) hx hb dL_law_516 (by decide) ?_
    refine lv_iadd hx hb dL_law_517 ?_
    refine lv_topi (fun y_24 ey_24 => ?_)
    have ty_24 : y_24.toInt = i0.toInt + 3 := xI_add rfl rfl ey_24 (by omega) (by omega)
    refine va_sld hx hb hX hbl hbA hS (vin (by omega) (by omega)) dL_law_518 ?_
    refine lv_topi (fun y_25 ey_25 => ?_)
    have u_26 : y_25.toInt = (xs (i0 + 3).toNatClampNeg).toInt := by rw [ey_25, ey_24]
    refine lv_aload_n hx hb dL_law_519 rfl (lv_at hl 0 rfl) ?_
    refine lv_iload_n hx hb dL_law_520 rfl (lv_at hl 3 rfl) ?_
    refine lv_iconst (v := 4) hx hb dL_law_521 (by decide) ?_
    refine lv_iadd hx hb dL_law_522 ?_
    refine lv_topi (fun y_27 ey_27 => ?_)
    have ty_27 : y_27.toInt = i0.toInt + 4 := xI_add rfl rfl ey_27 (by omega) (by omega)
    refine va_sld hx hb hX hbl hbA hS (vin (by omega) (by omega)) dL_law_523 ?_
    refine lv_topi (fun y_28 ey_28 => ?_)
    have u_29 : y_28.toInt = (xs (i0 + 4).toNatClampNeg).toInt := by rw [ey_28, ey_27]
    have g_30 : gP G_14 = gP G := gP_fr (rs := [37, 38, 39]) (fs := [(6, 3)]) (Fr.rf.call hq_15 (by decide) (by decide)) (by decide) (by decide)
    refine S_calli (va_runV (As := [.int y_19, .int y_22, .int y_25, .int y_28]) (rest := []) ⟨hx, hb, hml, hown, hts⟩ (n_foot l D k A a z G_14 y_19 y_22 y_25 y_28 (by omega)) (cwV 4 hts (gd_V hgd m1822 m1823 m1824 m131 m1825) rfl rfl rfl (by decide +kernel) ⟨Nat.le_of_ble_eq_true rfl, Nat.le_of_ble_eq_true rfl⟩) (pre_V hW hB_G_14 hK hZ hS kd_66 rfl) rfl rfl hl.1 rfl (lv_room (Nat.le_of_ble_eq_true rfl)) dL_law_524 ⟨Nat.le_of_ble_eq_true rfl, Nat.le_of_ble_eq_true rfl⟩) hS (fun r_31 G_32 H locs hpo hW hS => ?_)
    have hX_35 : Q_foot y_19 y_22 y_25 y_28 G_14 r_31 G_32 := hpo
    obtain ⟨hB_G_32, hq_33, -⟩ := hpo
    obtain ⟨u_36, u_37⟩ := L_foot_1 hX_17 hX_35 (by omega) (by omega) (by omega) (by omega) (by omega)
    refine lv_pop hx hb dL_law_527 rfl ?_
    refine lv_goto (tgt := 1641) hx hb dL_law_528 (by decide) ?_
    have g_38 : gO G_32 = gO G := gO_fr (rs := [37, 38, 39, 76, 97, 98]) (fs := [(6, 3), (66, 59), (66, 60), (66, 61), (66, 62), (66, 63)]) ((Fr.rf.call hq_15 (by decide) (by decide)).call hq_33 (by decide) (by decide)) (by decide) (by decide)
    have g_39 : gP G_32 = gP G := gP_fr (rs := [37, 38, 39, 76, 97, 98]) (fs := [(6, 3), (66, 59), (66, 60), (66, 61), (66, 62), (66, 63)]) ((Fr.rf.call hq_15 (by decide) (by decide)).call hq_33 (by decide) (by decide)) (by decide) (by decide)
    have g_40 : gS G_32 = gS G := gS_fr (rs := [37, 38, 39, 76, 97, 98]) (fs := [(6, 3), (66, 59), (66, 60), (66, 61), (66, 62), (66, 63)]) ((Fr.rf.call hq_15 (by decide) (by decide)).call hq_33 (by decide) (by decide)) (by decide) (by decide)
    have g_41 : gTE G_32 = gTE G := gTE_fr (rs := [37, 38, 39, 76, 97, 98]) (fs := [(6, 3), (66, 59), (66, 60), (66, 61), (66, 62), (66, 63)]) ((Fr.rf.call hq_15 (by decide) (by decide)).call hq_33 (by decide) (by decide)) (by decide) (by decide)
    have g_42 : gW G_32 = gW G := gW_fr (rs := [37, 38, 39, 76, 97, 98]) (fs := [(6, 3), (66, 59), (66, 60), (66, 61), (66, 62), (66, 63)]) ((Fr.rf.call hq_15 (by decide) (by decide)).call hq_33 (by decide) (by decide)) (by decide) (by decide)
    have b_43 : 0 ≤ (G.1 0 11).toInt ∧ (G.1 0 11).toInt ≤ 1600 := hB_G.i 0 11 rfl rfl
    have g_44 : (G_32.1 0 11).toInt = (G.1 0 11).toInt := by rw [show G_32.1 0 11 = (G.1 0 11) from ((hq_33.i 0 11 (by decide) (by decide)).trans (hq_15.i 0 11 (by decide) (by decide)))]
    have b_45 : 0 ≤ (G.1 3 7).toInt ∧ (G.1 3 7).toInt ≤ 4 := hB_G.i 3 7 rfl rfl
    have g_46 : (G_32.1 3 7).toInt = (G.1 3 7).toInt := by rw [show G_32.1 3 7 = (G.1 3 7) from ((hq_33.i 3 7 (by decide) (by decide)).trans (hq_15.i 3 7 (by decide) (by decide)))]
    have b_47 : (-1) ≤ (G.1 3 8).toInt ∧ (G.1 3 8).toInt ≤ 1600 := hB_G.i 3 8 rfl rfl
    have g_48 : (G_32.1 3 8).toInt = (G.1 3 8).toInt := by rw [show G_32.1 3 8 = (G.1 3 8) from ((hq_33.i 3 8 (by decide) (by decide)).trans (hq_15.i 3 8 (by decide) (by decide)))]
    have b_49 : 0 ≤ (G.1 30 4).toInt ∧ (G.1 30 4).toInt ≤ 40 := hB_G.i 30 4 rfl rfl
    have g_50 : (G_32.1 30 4).toInt = (G.1 30 4).toInt := by rw [show G_32.1 30 4 = (G.1 30 4) from ((hq_33.i 30 4 (by decide) (by decide)).trans (hq_15.i 30 4 (by decide) (by decide)))]
    have b_51 : 0 ≤ (G.1 30 5).toInt ∧ (G.1 30 5).toInt ≤ 40 := hB_G.i 30 5 rfl rfl
    have g_52 : (G_32.1 30 5).toInt = (G.1 30 5).toInt := by rw [show G_32.1 30 5 = (G.1 30 5) from ((hq_33.i 30 5 (by decide) (by decide)).trans (hq_15.i 30 5 (by decide) (by decide)))]
    have b_53 : 0 ≤ (G.1 31 6).toInt ∧ (G.1 31 6).toInt ≤ 100000 := hB_G.i 31 6 rfl rfl
    have g_54 : (G_32.1 31 6).toInt = (G.1 31 6).toInt := by rw [show G_32.1 31 6 = (G.1 31 6) from ((hq_33.i 31 6 (by decide) (by decide)).trans (hq_15.i 31 6 (by decide) (by decide)))]
    have b_55 : 0 ≤ (G.1 66 1).toInt ∧ (G.1 66 1).toInt ≤ 1600 := hB_G.i 66 1 rfl rfl
    have g_56 : (G_32.1 66 1).toInt = (G.1 66 1).toInt := by rw [show G_32.1 66 1 = (G.1 66 1) from ((hq_33.i 66 1 (by decide) (by decide)).trans (hq_15.i 66 1 (by decide) (by decide)))]
    have b_57 : 0 ≤ (G.1 66 2).toInt ∧ (G.1 66 2).toInt ≤ 4 := hB_G.i 66 2 rfl rfl
    have g_58 : (G_32.1 66 2).toInt = (G.1 66 2).toInt := by rw [show G_32.1 66 2 = (G.1 66 2) from ((hq_33.i 66 2 (by decide) (by decide)).trans (hq_15.i 66 2 (by decide) (by decide)))]
    have b_59 : (-1) ≤ (G.1 66 3).toInt ∧ (G.1 66 3).toInt ≤ 1600 := hB_G.i 66 3 rfl rfl
    have g_60 : (G_32.1 66 3).toInt = (G.1 66 3).toInt := by rw [show G_32.1 66 3 = (G.1 66 3) from ((hq_33.i 66 3 (by decide) (by decide)).trans (hq_15.i 66 3 (by decide) (by decide)))]
    have b_61 : 0 ≤ (G.1 66 78).toInt ∧ (G.1 66 78).toInt ≤ 40 := hB_G.i 66 78 rfl rfl
    have g_62 : (G_32.1 66 78).toInt = (G.1 66 78).toInt := by rw [show G_32.1 66 78 = (G.1 66 78) from ((hq_33.i 66 78 (by decide) (by decide)).trans (hq_15.i 66 78 (by decide) (by decide)))]
    have b_63 : 0 ≤ (G.1 66 79).toInt ∧ (G.1 66 79).toInt ≤ 40 := hB_G.i 66 79 rfl rfl
    have g_64 : (G_32.1 66 79).toInt = (G.1 66 79).toInt := by rw [show G_32.1 66 79 = (G.1 66 79) from ((hq_33.i 66 79 (by decide) (by decide)).trans (hq_15.i 66 79 (by decide) (by decide)))]
    have b_65 : 0 ≤ (G.1 66 86).toInt ∧ (G.1 66 86).toInt ≤ 100000 := hB_G.i 66 86 rfl rfl
    have g_66 : (G_32.1 66 86).toInt = (G.1 66 86).toInt := by rw [show G_32.1 66 86 = (G.1 66 86) from ((hq_33.i 66 86 (by decide) (by decide)).trans (hq_15.i 66 86 (by decide) (by decide)))]
    have b_67 : 0 ≤ (G.1 96 0).toInt ∧ (G.1 96 0).toInt ≤ 9 := hB_G.i 96 0 rfl rfl
    have g_68 : (G_32.1 96 0).toInt = (G.1 96 0).toInt := by rw [show G_32.1 96 0 = (G.1 96 0) from ((hq_33.i 96 0 (by decide) (by decide)).trans (hq_15.i 96 0 (by decide) (by decide)))]
    have b_69 : 0 ≤ (G.1 96 1).toInt ∧ (G.1 96 1).toInt ≤ 9 := hB_G.i 96 1 rfl rfl
    have g_70 : (G_32.1 96 1).toInt = (G.1 96 1).toInt := by rw [show G_32.1 96 1 = (G.1 96 1) from ((hq_33.i 96 1 (by decide) (by decide)).trans (hq_15.i 96 1 (by decide) (by decide)))]
    have b_71 : 0 ≤ (G.1 96 2).toInt ∧ (G.1 96 2).toInt ≤ 9 := hB_G.i 96 2 rfl rfl
    have g_72 : (G_32.1 96 2).toInt = (G.1 96 2).toInt := by rw [show G_32.1 96 2 = (G.1 96 2) from ((hq_33.i 96 2 (by decide) (by decide)).trans (hq_15.i 96 2 (by decide) (by decide)))]
    exact K G_32 _ _ _ (Or.inl ⟨((((hq_33.r 0 0 (by decide) (by decide)).trans (hq_15.r 0 0 (by decide) (by decide)))).trans (hv_0_0)), ((((hq_33.r 0 1 (by decide) (by decide)).trans (hq_15.r 0 1 (by decide) (by decide)))).trans (hv_0_1)), ((((hq_33.r 6 4 (by decide) (by decide)).trans (hq_15.r 6 4 (by decide) (by decide)))).trans (hv_6_4)), by omega, by omega, by omega, by omega, by omega, by omega, by omega, by omega, by omega, by omega, by omega, by omega, by omega⟩) hB_G_32 hW hS (lv_sub hl [0, 1, 2, 3] rfl)
  · skip
    refine lv_aload_n hx hb dL_law_478 rfl (lv_at hl 1 rfl) ?_
    refine lv_aload_n hx hb dL_law_479 rfl (lv_at hl 0 rfl) ?_
    refine lv_iload_n hx hb dL_law_480 rfl (lv_at hl 3 rfl) ?_
    refine lv_iconst (v := 1) hx hb dL_law_481 (by decide) ?_
    refine lv_iadd hx hb dL_law_482 ?_
    refine lv_topi (fun y_1 ey_1 => ?_)
    have ty_1 : y_1.toInt = i0.toInt + 1 := xI_add rfl rfl ey_1 (by omega) (by omega)
    refine va_sld hx hb hX hbl hbA hS (vin (by omega) (by omega)) dL_law_483 ?_
    refine lv_topi (fun y_2 ey_2 => ?_)
    have u_3 : y_2.toInt = (xs (i0 + 1).toNatClampNeg).toInt := by rw [ey_2, ey_1]
    refine lv_aload_n hx hb dL_law_484 rfl (lv_at hl 0 rfl) ?_
    refine lv_iload_n hx hb dL_law_485 rfl (lv_at hl 3 rfl) ?_
    refine lv_iconst (v := 2) hx hb dL_law_486 (by decide) ?_
    refine lv_iadd hx hb dL_law_487 ?_
    refine lv_topi (fun y_4 ey_4 => ?_)
    have ty_4 : y_4.toInt = i0.toInt + 2 := xI_add rfl rfl ey_4 (by omega) (by omega)
    refine va_sld hx hb hX hbl hbA hS (vin (by omega) (by omega)) dL_law_488 ?_
    refine lv_topi (fun y_5 ey_5 => ?_)
    have u_6 : y_5.toInt = (xs (i0 + 2).toNatClampNeg).toInt := by rw [ey_5, ey_4]
    refine lv_aload_n hx hb dL_law_489 rfl (lv_at hl 0 rfl) ?_
    refine lv_iload_n hx hb dL_law_490 rfl (lv_at hl 3 rfl) ?_
    refine lv_iconst (v := 3) hx hb dL_law_491 (by decide) ?_
    refine lv_iadd hx hb dL_law_492 ?_
    refine lv_topi (fun y_7 ey_7 => ?_)
    have ty_7 : y_7.toInt = i0.toInt + 3 := xI_add rfl rfl ey_7 (by omega) (by omega)
    refine va_sld hx hb hX hbl hbA hS (vin (by omega) (by omega)) dL_law_493 ?_
    refine lv_topi (fun y_8 ey_8 => ?_)
    have u_9 : y_8.toInt = (xs (i0 + 3).toNatClampNeg).toInt := by rw [ey_8, ey_7]
    refine lv_aload_n hx hb dL_law_494 rfl (lv_at hl 0 rfl) ?_
    refine lv_iload_n hx hb dL_law_495 rfl (lv_at hl 3 rfl) ?_
    refine lv_iconst (v := 4) hx hb dL_law_496 (by decide) ?_
    refine lv_iadd hx hb dL_law_497 ?_
    refine lv_topi (fun y_10 ey_10 => ?_)
    have ty_10 : y_10.toInt = i0.toInt + 4 := xI_add rfl rfl ey_10 (by omega) (by omega)
    refine va_sld hx hb hX hbl hbA hS (vin (by omega) (by omega)) dL_law_498 ?_
    refine lv_topi (fun y_11 ey_11 => ?_)
    have u_12 : y_11.toInt = (xs (i0 + 4).toNatClampNeg).toInt := by rw [ey_11, ey_10]
    refine S_calli (va_runV (As := [.int y_2, .int y_5, .int y_8, .int y_11]) (rest := []) ⟨hx, hb, hml, hown, hts⟩ (k_Wfoot_2 l D k A a z G y_2 y_5 y_8 y_11 hv_0_0 hv_0_1 hv_6_4) (cwV 4 hts (gd_V hgd m949 m950 m951 m117 m952) rfl rfl rfl (by decide +kernel) ⟨Nat.le_of_ble_eq_true rfl, Nat.le_of_ble_eq_true rfl⟩) (pre_V hW hB_G hK hZ hS kd_0 rfl) rfl rfl hl.1 rfl (lv_room (Nat.le_of_ble_eq_true rfl)) dL_law_499 ⟨Nat.le_of_ble_eq_true rfl, Nat.le_of_ble_eq_true rfl⟩) hS (fun r_13 G_14 H locs hpo hW hS => ?_)
    have hX_17 : P_Wfoot_2 y_2 y_5 y_8 y_11 G r_13 G_14 := hpo
    obtain ⟨hB_G_14, hq_15, -⟩ := hpo
    refine lv_pop hx hb dL_law_502 rfl ?_
    refine lv_aload_n hx hb dL_law_503 rfl (lv_at hl 2 rfl) ?_
    refine lv_aload_n hx hb dL_law_504 rfl (lv_at hl 0 rfl) ?_
    refine lv_iload_n hx hb dL_law_505 rfl (lv_at hl 3 rfl) ?_
    refine lv_iconst (v := 1) hx hb dL_law_506 (by decide) ?_
    refine lv_iadd hx hb dL_law_507 ?_
    refine lv_topi (fun y_18 ey_18 => ?_)
    have ty_18 : y_18.toInt = i0.toInt + 1 := xI_add rfl rfl ey_18 (by omega) (by omega)
    refine va_sld hx hb hX hbl hbA hS (vin (by omega) (by omega)) dL_law_508 ?_
    refine lv_topi (fun y_19 ey_19 => ?_)
    have u_20 : y_19.toInt = (xs (i0 + 1).toNatClampNeg).toInt := by rw [ey_19, ey_18]
    refine lv_aload_n hx hb dL_law_509 rfl (lv_at hl 0 rfl) ?_
    refine lv_iload_n hx hb dL_law_510 rfl (lv_at hl 3 rfl) ?_
    refine lv_iconst (v := 2) hx hb dL_law_511 (by decide) ?_
    refine lv_iadd hx hb dL_law_512 ?_
    refine lv_topi (fun y_21 ey_21 => ?_)
    have ty_21 : y_21.toInt = i0.toInt + 2 := xI_add rfl rfl ey_21 (by omega) (by omega)
    refine va_sld hx hb hX hbl hbA hS (vin (by omega) (by omega)) dL_law_513 ?_
    refine lv_topi (fun y_22 ey_22 => ?_)
    have u_23 : y_22.toInt = (xs (i0 + 2).toNatClampNeg).toInt := by rw [ey_22, ey_21]
    refine lv_aload_n hx hb dL_law_514 rfl (lv_at hl 0 rfl) ?_
    refine lv_iload_n hx hb dL_law_515 rfl (lv_at hl 3 rfl) ?_
    refine lv_iconst (v := 3) hx hb dL_law_516 (by decide) ?_
    refine lv_iadd hx hb dL_law_517 ?_
    refine lv_topi (fun y_24 ey_24 => ?_)
    have ty_24 : y_24.toInt = i0.toInt + 3 := xI_add rfl rfl ey_24 (by omega) (by omega)
    refine va_sld hx hb hX hbl hbA hS (vin (by omega) (by omega)) dL_law_518 ?_
    refine lv_topi (fun y_25 ey_25 => ?_)
    have u_26 : y_25.toInt = (xs (i0 + 3).toNatClampNeg).toInt := by rw [ey_25, ey_24]
    refine lv_aload_n hx hb dL_law_519 rfl (lv_at hl 0 rfl) ?_
    refine lv_iload_n hx hb dL_law_520 rfl (lv_at hl 3 rfl) ?_
    refine lv_iconst (v := 4) hx hb dL_law_521 (by decide) ?_
    refine lv_iadd hx hb dL_law_522 ?_
    refine lv_topi (fun y_27 ey_27 => ?_)
    have ty_27 : y_27.toInt = i0.toInt + 4 := xI_add rfl rfl ey_27 (by omega) (by omega)
    refine va_sld hx hb hX hbl hbA hS (vin (by omega) (by omega)) dL_law_523 ?_
    refine lv_topi (fun y_28 ey_28 => ?_)
    have u_29 : y_28.toInt = (xs (i0 + 4).toNatClampNeg).toInt := by rw [ey_28, ey_27]
    have g_30 : gP G_14 = gP G := gP_fr (rs := [37, 38, 39]) (fs := [(6, 3)]) (Fr.rf.call hq_15 (by decide) (by decide)) (by decide) (by decide)
    refine S_calli (va_runV (As := [.int y_19, .int y_22, .int y_25, .int y_28]) (rest := []) ⟨hx, hb, hml, hown, hts⟩ (n_foot l D k A a z G_14 y_19 y_22 y_25 y_28 (by omega)) (cwV 4 hts (gd_V hgd m1822 m1823 m1824 m131 m1825) rfl rfl rfl (by decide +kernel) ⟨Nat.le_of_ble_eq_true rfl, Nat.le_of_ble_eq_true rfl⟩) (pre_V hW hB_G_14 hK hZ hS kd_66 rfl) rfl rfl hl.1 rfl (lv_room (Nat.le_of_ble_eq_true rfl)) dL_law_524 ⟨Nat.le_of_ble_eq_true rfl, Nat.le_of_ble_eq_true rfl⟩) hS (fun r_31 G_32 H locs hpo hW hS => ?_)
    have hX_35 : Q_foot y_19 y_22 y_25 y_28 G_14 r_31 G_32 := hpo
    obtain ⟨hB_G_32, hq_33, -⟩ := hpo
    obtain ⟨u_36, u_37⟩ := L_foot_2 hX_17 hX_35 (by omega) (by omega) (by omega) (by omega) (by omega)
    refine lv_pop hx hb dL_law_527 rfl ?_
    refine lv_goto (tgt := 1641) hx hb dL_law_528 (by decide) ?_
    have g_38 : gO G_32 = gO G := gO_fr (rs := [37, 38, 39, 76, 97, 98]) (fs := [(6, 3), (66, 59), (66, 60), (66, 61), (66, 62), (66, 63)]) ((Fr.rf.call hq_15 (by decide) (by decide)).call hq_33 (by decide) (by decide)) (by decide) (by decide)
    have g_39 : gP G_32 = gP G := gP_fr (rs := [37, 38, 39, 76, 97, 98]) (fs := [(6, 3), (66, 59), (66, 60), (66, 61), (66, 62), (66, 63)]) ((Fr.rf.call hq_15 (by decide) (by decide)).call hq_33 (by decide) (by decide)) (by decide) (by decide)
    have g_40 : gS G_32 = gS G := gS_fr (rs := [37, 38, 39, 76, 97, 98]) (fs := [(6, 3), (66, 59), (66, 60), (66, 61), (66, 62), (66, 63)]) ((Fr.rf.call hq_15 (by decide) (by decide)).call hq_33 (by decide) (by decide)) (by decide) (by decide)
    have g_41 : gTE G_32 = gTE G := gTE_fr (rs := [37, 38, 39, 76, 97, 98]) (fs := [(6, 3), (66, 59), (66, 60), (66, 61), (66, 62), (66, 63)]) ((Fr.rf.call hq_15 (by decide) (by decide)).call hq_33 (by decide) (by decide)) (by decide) (by decide)
    have g_42 : gW G_32 = gW G := gW_fr (rs := [37, 38, 39, 76, 97, 98]) (fs := [(6, 3), (66, 59), (66, 60), (66, 61), (66, 62), (66, 63)]) ((Fr.rf.call hq_15 (by decide) (by decide)).call hq_33 (by decide) (by decide)) (by decide) (by decide)
    have b_43 : 0 ≤ (G.1 0 11).toInt ∧ (G.1 0 11).toInt ≤ 1600 := hB_G.i 0 11 rfl rfl
    have g_44 : (G_32.1 0 11).toInt = (G.1 0 11).toInt := by rw [show G_32.1 0 11 = (G.1 0 11) from ((hq_33.i 0 11 (by decide) (by decide)).trans (hq_15.i 0 11 (by decide) (by decide)))]
    have b_45 : 0 ≤ (G.1 3 7).toInt ∧ (G.1 3 7).toInt ≤ 4 := hB_G.i 3 7 rfl rfl
    have g_46 : (G_32.1 3 7).toInt = (G.1 3 7).toInt := by rw [show G_32.1 3 7 = (G.1 3 7) from ((hq_33.i 3 7 (by decide) (by decide)).trans (hq_15.i 3 7 (by decide) (by decide)))]
    have b_47 : (-1) ≤ (G.1 3 8).toInt ∧ (G.1 3 8).toInt ≤ 1600 := hB_G.i 3 8 rfl rfl
    have g_48 : (G_32.1 3 8).toInt = (G.1 3 8).toInt := by rw [show G_32.1 3 8 = (G.1 3 8) from ((hq_33.i 3 8 (by decide) (by decide)).trans (hq_15.i 3 8 (by decide) (by decide)))]
    have b_49 : 0 ≤ (G.1 30 4).toInt ∧ (G.1 30 4).toInt ≤ 40 := hB_G.i 30 4 rfl rfl
    have g_50 : (G_32.1 30 4).toInt = (G.1 30 4).toInt := by rw [show G_32.1 30 4 = (G.1 30 4) from ((hq_33.i 30 4 (by decide) (by decide)).trans (hq_15.i 30 4 (by decide) (by decide)))]
    have b_51 : 0 ≤ (G.1 30 5).toInt ∧ (G.1 30 5).toInt ≤ 40 := hB_G.i 30 5 rfl rfl
    have g_52 : (G_32.1 30 5).toInt = (G.1 30 5).toInt := by rw [show G_32.1 30 5 = (G.1 30 5) from ((hq_33.i 30 5 (by decide) (by decide)).trans (hq_15.i 30 5 (by decide) (by decide)))]
    have b_53 : 0 ≤ (G.1 31 6).toInt ∧ (G.1 31 6).toInt ≤ 100000 := hB_G.i 31 6 rfl rfl
    have g_54 : (G_32.1 31 6).toInt = (G.1 31 6).toInt := by rw [show G_32.1 31 6 = (G.1 31 6) from ((hq_33.i 31 6 (by decide) (by decide)).trans (hq_15.i 31 6 (by decide) (by decide)))]
    have b_55 : 0 ≤ (G.1 66 1).toInt ∧ (G.1 66 1).toInt ≤ 1600 := hB_G.i 66 1 rfl rfl
    have g_56 : (G_32.1 66 1).toInt = (G.1 66 1).toInt := by rw [show G_32.1 66 1 = (G.1 66 1) from ((hq_33.i 66 1 (by decide) (by decide)).trans (hq_15.i 66 1 (by decide) (by decide)))]
    have b_57 : 0 ≤ (G.1 66 2).toInt ∧ (G.1 66 2).toInt ≤ 4 := hB_G.i 66 2 rfl rfl
    have g_58 : (G_32.1 66 2).toInt = (G.1 66 2).toInt := by rw [show G_32.1 66 2 = (G.1 66 2) from ((hq_33.i 66 2 (by decide) (by decide)).trans (hq_15.i 66 2 (by decide) (by decide)))]
    have b_59 : (-1) ≤ (G.1 66 3).toInt ∧ (G.1 66 3).toInt ≤ 1600 := hB_G.i 66 3 rfl rfl
    have g_60 : (G_32.1 66 3).toInt = (G.1 66 3).toInt := by rw [show G_32.1 66 3 = (G.1 66 3) from ((hq_33.i 66 3 (by decide) (by decide)).trans (hq_15.i 66 3 (by decide) (by decide)))]
    have b_61 : 0 ≤ (G.1 66 78).toInt ∧ (G.1 66 78).toInt ≤ 40 := hB_G.i 66 78 rfl rfl
    have g_62 : (G_32.1 66 78).toInt = (G.1 66 78).toInt := by rw [show G_32.1 66 78 = (G.1 66 78) from ((hq_33.i 66 78 (by decide) (by decide)).trans (hq_15.i 66 78 (by decide) (by decide)))]
    have b_63 : 0 ≤ (G.1 66 79).toInt ∧ (G.1 66 79).toInt ≤ 40 := hB_G.i 66 79 rfl rfl
    have g_64 : (G_32.1 66 79).toInt = (G.1 66 79).toInt := by rw [show G_32.1 66 79 = (G.1 66 79) from ((hq_33.i 66 79 (by decide) (by decide)).trans (hq_15.i 66 79 (by decide) (by decide)))]
    have b_65 : 0 ≤ (G.1 66 86).toInt ∧ (G.1 66 86).toInt ≤ 100000 := hB_G.i 66 86 rfl rfl
    have g_66 : (G_32.1 66 86).toInt = (G.1 66 86).toInt := by rw [show G_32.1 66 86 = (G.1 66 86) from ((hq_33.i 66 86 (by decide) (by decide)).trans (hq_15.i 66 86 (by decide) (by decide)))]
    have b_67 : 0 ≤ (G.1 96 0).toInt ∧ (G.1 96 0).toInt ≤ 9 := hB_G.i 96 0 rfl rfl
    have g_68 : (G_32.1 96 0).toInt = (G.1 96 0).toInt := by rw [show G_32.1 96 0 = (G.1 96 0) from ((hq_33.i 96 0 (by decide) (by decide)).trans (hq_15.i 96 0 (by decide) (by decide)))]
    have b_69 : 0 ≤ (G.1 96 1).toInt ∧ (G.1 96 1).toInt ≤ 9 := hB_G.i 96 1 rfl rfl
    have g_70 : (G_32.1 96 1).toInt = (G.1 96 1).toInt := by rw [show G_32.1 96 1 = (G.1 96 1) from ((hq_33.i 96 1 (by decide) (by decide)).trans (hq_15.i 96 1 (by decide) (by decide)))]
    have b_71 : 0 ≤ (G.1 96 2).toInt ∧ (G.1 96 2).toInt ≤ 9 := hB_G.i 96 2 rfl rfl
    have g_72 : (G_32.1 96 2).toInt = (G.1 96 2).toInt := by rw [show G_32.1 96 2 = (G.1 96 2) from ((hq_33.i 96 2 (by decide) (by decide)).trans (hq_15.i 96 2 (by decide) (by decide)))]
    exact K G_32 _ _ _ (Or.inr ⟨((((hq_33.r 0 0 (by decide) (by decide)).trans (hq_15.r 0 0 (by decide) (by decide)))).trans (hv_0_0)), ((((hq_33.r 0 1 (by decide) (by decide)).trans (hq_15.r 0 1 (by decide) (by decide)))).trans (hv_0_1)), ((((hq_33.r 6 4 (by decide) (by decide)).trans (hq_15.r 6 4 (by decide) (by decide)))).trans (hv_6_4)), by omega, by omega, by omega, by omega, by omega, by omega, by omega, by omega, by omega, by omega, by omega, by omega, by omega⟩) hB_G_32 hW hS (lv_sub hl [0, 1, 2, 3] rfl)

set_option maxHeartbeats 4000000 in
set_option maxRecDepth 100000 in
theorem law_9 {p : Program} {l : Launch} {e : Env} {s : State} {m : MethodId} {below : List Frame} {meth : Method} {c : Code} {D : va_G} {k : KT} {A : Nat → Prop} {a : Nat → Nat} {z : SK} {b L : Nat} {xs : Nat → Int32} (hL : L ≤ 3072) (C0 : lw_At p s m meth c b L xs) (hK : cK D k s) (hZ : Sx A z s) (hbA : ¬ A b) {G : GS} {i0 : Int32} (hi0 : 0 ≤ i0.toInt) (hi6 : i0.toInt + 6 ≤ L) (hI : LI G) (hB_G : Bd G) {H : Heap} {locs : List Loc} {ls : Array Slot} (hW : Wd D k A a G H) (hS : va_S A s.heap H locs) (hl : lv_has ls 4 [(0, .ref b), (1, .ref (a 0)), (2, .ref (a 66)), (3, .int i0)]) (K : ∀ (G1 : GS) (H1 : Heap) (locs1 : List Loc) (ls1 : Array Slot), LI G1 → Bd G1 → Wd D k A a G1 H1 → va_S A s.heap H1 locs1 → lv_has ls1 4 [(0, .ref b), (1, .ref (a 0)), (2, .ref (a 66)), (3, .int i0)] → W p l e room_1 s m #[Value.ref b] below meth c H1 locs1 119 46443 (lw_Z below #[Value.ref b] s) (F0 m 1641 ls1 [])) : W p l e room_1 s m #[Value.ref b] below meth c H locs 119 46443 (lw_Z below #[Value.ref b] s) (F0 m 531 ls []) := by
  obtain ⟨hx, hb, hr, hml, hown, hts, hX, hbl, hlocks, hgv⟩ := id C0
  have hown : s.vm.findClass RL = some m.cls := hown
  have hgd : ∀ w ∈ gd, w ∈ lw_tbl := fun w h => (List.mem_filter.mp h).1
  have hg : ∀ w ∈ gd, w.before #[Value.ref b] s = true := fun w h => hts w (hgd w h)
  rcases hI with ⟨hv_0_0, hv_0_1, hv_6_4, hj0, hj1, hj2, hj3, hj4, hj5, hj6, hj7, hj8, hj9, hj10, hj11⟩ | ⟨hv_0_0, hv_0_1, hv_6_4, hj0, hj1, hj2, hj3, hj4, hj5, hj6, hj7, hj8, hj9, hj10, hj11⟩
  · skip
    refine lv_aload_n hx hb dL_law_531 rfl (lv_at hl 1 rfl) ?_
    refine lv_aload_n hx hb dL_law_532 rfl (lv_at hl 0 rfl) ?_
    refine lv_iload_n hx hb dL_law_533 rfl (lv_at hl 3 rfl) ?_
    refine lv_iconst (v := 1) hx hb dL_law_534 (by decide) ?_
    refine lv_iadd hx hb dL_law_535 ?_
    refine lv_topi (fun y_1 ey_1 => ?_)
    have ty_1 : y_1.toInt = i0.toInt + 1 := xI_add rfl rfl ey_1 (by omega) (by omega)
    refine va_sld hx hb hX hbl hbA hS (vin (by omega) (by omega)) dL_law_536 ?_
    refine lv_topi (fun y_2 ey_2 => ?_)
    have u_3 : y_2.toInt = (xs (i0 + 1).toNatClampNeg).toInt := by rw [ey_2, ey_1]
    refine lv_aload_n hx hb dL_law_537 rfl (lv_at hl 0 rfl) ?_
    refine lv_iload_n hx hb dL_law_538 rfl (lv_at hl 3 rfl) ?_
    refine lv_iconst (v := 2) hx hb dL_law_539 (by decide) ?_
    refine lv_iadd hx hb dL_law_540 ?_
    refine lv_topi (fun y_4 ey_4 => ?_)
    have ty_4 : y_4.toInt = i0.toInt + 2 := xI_add rfl rfl ey_4 (by omega) (by omega)
    refine va_sld hx hb hX hbl hbA hS (vin (by omega) (by omega)) dL_law_541 ?_
    refine lv_topi (fun y_5 ey_5 => ?_)
    have u_6 : y_5.toInt = (xs (i0 + 2).toNatClampNeg).toInt := by rw [ey_5, ey_4]
    refine lv_aload_n hx hb dL_law_542 rfl (lv_at hl 0 rfl) ?_
    refine lv_iload_n hx hb dL_law_543 rfl (lv_at hl 3 rfl) ?_
    refine lv_iconst (v := 3) hx hb dL_law_544 (by decide) ?_
    refine lv_iadd hx hb dL_law_545 ?_
    refine lv_topi (fun y_7 ey_7 => ?_)
    have ty_7 : y_7.toInt = i0.toInt + 3 := xI_add rfl rfl ey_7 (by omega) (by omega)
    refine va_sld hx hb hX hbl hbA hS (vin (by omega) (by omega)) dL_law_546 ?_
    refine lv_topi (fun y_8 ey_8 => ?_)
    have u_9 : y_8.toInt = (xs (i0 + 3).toNatClampNeg).toInt := by rw [ey_8, ey_7]
    refine lv_aload_n hx hb dL_law_547 rfl (lv_at hl 0 rfl) ?_
    refine lv_iload_n hx hb dL_law_548 rfl (lv_at hl 3 rfl) ?_
    refine lv_iconst (v := 4) hx hb dL_law_549 (by decide) ?_
    refine lv_iadd hx hb dL_law_550 ?_
    refine lv_topi (fun y_10 ey_10 => ?_)
    have ty_10 : y_10.toInt = i0.toInt + 4 := xI_add rfl rfl ey_10 (by omega) (by omega)
    refine va_sld hx hb hX hbl hbA hS (vin (by omega) (by omega)) dL_law_551 ?_
    refine lv_topi (fun y_11 ey_11 => ?_)
    have u_12 : y_11.toInt = (xs (i0 + 4).toNatClampNeg).toInt := by rw [ey_11, ey_10]
    refine S_calli (va_runV (As := [.int y_2, .int y_5, .int y_8, .int y_11]) (rest := []) ⟨hx, hb, hml, hown, hts⟩ (k_Wfewest_1 l D k A a z G y_2 y_5 y_8 y_11 hv_0_0 hv_0_1 hv_6_4) (cwV 4 hts (gd_V hgd m971 m972 m973 m117 m974) rfl rfl rfl (by decide +kernel) ⟨Nat.le_of_ble_eq_true rfl, Nat.le_of_ble_eq_true rfl⟩) (pre_V hW hB_G hK hZ hS kd_0 rfl) rfl rfl hl.1 rfl (lv_room (Nat.le_of_ble_eq_true rfl)) dL_law_552 ⟨Nat.le_of_ble_eq_true rfl, Nat.le_of_ble_eq_true rfl⟩) hS (fun r_13 G_14 H locs hpo hW hS => ?_)
    have hX_17 : P_Wfewest_1 y_2 y_5 y_8 y_11 G r_13 G_14 := hpo
    obtain ⟨hB_G_14, hq_15, -⟩ := hpo
    refine lv_pop hx hb dL_law_555 rfl ?_
    refine lv_aload_n hx hb dL_law_556 rfl (lv_at hl 2 rfl) ?_
    refine lv_aload_n hx hb dL_law_557 rfl (lv_at hl 0 rfl) ?_
    refine lv_iload_n hx hb dL_law_558 rfl (lv_at hl 3 rfl) ?_
    refine lv_iconst (v := 1) hx hb dL_law_559 (by decide) ?_
    refine lv_iadd hx hb dL_law_560 ?_
    refine lv_topi (fun y_18 ey_18 => ?_)
    have ty_18 : y_18.toInt = i0.toInt + 1 := xI_add rfl rfl ey_18 (by omega) (by omega)
    refine va_sld hx hb hX hbl hbA hS (vin (by omega) (by omega)) dL_law_561 ?_
    refine lv_topi (fun y_19 ey_19 => ?_)
    have u_20 : y_19.toInt = (xs (i0 + 1).toNatClampNeg).toInt := by rw [ey_19, ey_18]
    refine lv_aload_n hx hb dL_law_562 rfl (lv_at hl 0 rfl) ?_
    refine lv_iload_n hx hb dL_law_563 rfl (lv_at hl 3 rfl) ?_
    refine lv_iconst (v := 2) hx hb dL_law_564 (by decide) ?_
    refine lv_iadd hx hb dL_law_565 ?_
    refine lv_topi (fun y_21 ey_21 => ?_)
    have ty_21 : y_21.toInt = i0.toInt + 2 := xI_add rfl rfl ey_21 (by omega) (by omega)
    refine va_sld hx hb hX hbl hbA hS (vin (by omega) (by omega)) dL_law_566 ?_
    refine lv_topi (fun y_22 ey_22 => ?_)
    have u_23 : y_22.toInt = (xs (i0 + 2).toNatClampNeg).toInt := by rw [ey_22, ey_21]
    refine lv_aload_n hx hb dL_law_567 rfl (lv_at hl 0 rfl) ?_
    refine lv_iload_n hx hb dL_law_568 rfl (lv_at hl 3 rfl) ?_
    refine lv_iconst (v := 3) hx hb dL_law_569 (by decide) ?_
    refine lv_iadd hx hb dL_law_570 ?_
    refine lv_topi (fun y_24 ey_24 => ?_)
    have ty_24 : y_24.toInt = i0.toInt + 3 := xI_add rfl rfl ey_24 (by omega) (by omega)
    refine va_sld hx hb hX hbl hbA hS (vin (by omega) (by omega)) dL_law_571 ?_
    refine lv_topi (fun y_25 ey_25 => ?_)
    have u_26 : y_25.toInt = (xs (i0 + 3).toNatClampNeg).toInt := by rw [ey_25, ey_24]
    refine lv_aload_n hx hb dL_law_572 rfl (lv_at hl 0 rfl) ?_
    refine lv_iload_n hx hb dL_law_573 rfl (lv_at hl 3 rfl) ?_
    refine lv_iconst (v := 4) hx hb dL_law_574 (by decide) ?_
    refine lv_iadd hx hb dL_law_575 ?_
    refine lv_topi (fun y_27 ey_27 => ?_)
    have ty_27 : y_27.toInt = i0.toInt + 4 := xI_add rfl rfl ey_27 (by omega) (by omega)
    refine va_sld hx hb hX hbl hbA hS (vin (by omega) (by omega)) dL_law_576 ?_
    refine lv_topi (fun y_28 ey_28 => ?_)
    have u_29 : y_28.toInt = (xs (i0 + 4).toNatClampNeg).toInt := by rw [ey_28, ey_27]
    have g_30 : gP G_14 = gP G := gP_fr (rs := [33, 37, 38, 39, 40, 42, 43, 44, 45]) (fs := [(0, 12), (6, 3), (7, 1), (7, 2), (7, 3), (7, 4), (7, 5), (7, 6), (7, 7)]) (Fr.rf.call hq_15 (by decide) (by decide)) (by decide) (by decide)
    have g_31 : gW G_14 = gW G := gW_fr (rs := [33, 37, 38, 39, 40, 42, 43, 44, 45]) (fs := [(0, 12), (6, 3), (7, 1), (7, 2), (7, 3), (7, 4), (7, 5), (7, 6), (7, 7)]) (Fr.rf.call hq_15 (by decide) (by decide)) (by decide) (by decide)
    refine S_calli (va_runV (As := [.int y_19, .int y_22, .int y_25, .int y_28]) (rest := []) ⟨hx, hb, hml, hown, hts⟩ (n_fewest l D k A a z G_14 y_19 y_22 y_25 y_28 (by omega) (by omega)) (cwV 4 hts (gd_V hgd m1842 m1843 m1844 m131 m1845) rfl rfl rfl (by decide +kernel) ⟨Nat.le_of_ble_eq_true rfl, Nat.le_of_ble_eq_true rfl⟩) (pre_V hW hB_G_14 hK hZ hS kd_66 rfl) rfl rfl hl.1 rfl (lv_room (Nat.le_of_ble_eq_true rfl)) dL_law_577 ⟨Nat.le_of_ble_eq_true rfl, Nat.le_of_ble_eq_true rfl⟩) hS (fun r_32 G_33 H locs hpo hW hS => ?_)
    have hX_36 : Q_fewest y_19 y_22 y_25 y_28 G_14 r_32 G_33 := hpo
    obtain ⟨hB_G_33, hq_34, -⟩ := hpo
    have u_37 := L_fewest_1 hX_17 hX_36 (by omega) (by omega) (by omega) (by omega) (by omega)
    refine lv_pop hx hb dL_law_580 rfl ?_
    refine lv_goto (tgt := 1641) hx hb dL_law_581 (by decide) ?_
    have g_38 : gO G_33 = gO G := gO_fr (rs := [33, 37, 38, 39, 40, 42, 43, 44, 45, 76, 97, 98, 99, 100]) (fs := [(0, 12), (6, 3), (7, 1), (7, 2), (7, 3), (7, 4), (7, 5), (7, 6), (7, 7), (66, 59), (66, 60), (66, 61), (66, 62), (66, 63), (66, 66)]) ((Fr.rf.call hq_15 (by decide) (by decide)).call hq_34 (by decide) (by decide)) (by decide) (by decide)
    have g_39 : gP G_33 = gP G := gP_fr (rs := [33, 37, 38, 39, 40, 42, 43, 44, 45, 76, 97, 98, 99, 100]) (fs := [(0, 12), (6, 3), (7, 1), (7, 2), (7, 3), (7, 4), (7, 5), (7, 6), (7, 7), (66, 59), (66, 60), (66, 61), (66, 62), (66, 63), (66, 66)]) ((Fr.rf.call hq_15 (by decide) (by decide)).call hq_34 (by decide) (by decide)) (by decide) (by decide)
    have g_40 : gS G_33 = gS G := gS_fr (rs := [33, 37, 38, 39, 40, 42, 43, 44, 45, 76, 97, 98, 99, 100]) (fs := [(0, 12), (6, 3), (7, 1), (7, 2), (7, 3), (7, 4), (7, 5), (7, 6), (7, 7), (66, 59), (66, 60), (66, 61), (66, 62), (66, 63), (66, 66)]) ((Fr.rf.call hq_15 (by decide) (by decide)).call hq_34 (by decide) (by decide)) (by decide) (by decide)
    have g_41 : gTE G_33 = gTE G := gTE_fr (rs := [33, 37, 38, 39, 40, 42, 43, 44, 45, 76, 97, 98, 99, 100]) (fs := [(0, 12), (6, 3), (7, 1), (7, 2), (7, 3), (7, 4), (7, 5), (7, 6), (7, 7), (66, 59), (66, 60), (66, 61), (66, 62), (66, 63), (66, 66)]) ((Fr.rf.call hq_15 (by decide) (by decide)).call hq_34 (by decide) (by decide)) (by decide) (by decide)
    have g_42 : gW G_33 = gW G := gW_fr (rs := [33, 37, 38, 39, 40, 42, 43, 44, 45, 76, 97, 98, 99, 100]) (fs := [(0, 12), (6, 3), (7, 1), (7, 2), (7, 3), (7, 4), (7, 5), (7, 6), (7, 7), (66, 59), (66, 60), (66, 61), (66, 62), (66, 63), (66, 66)]) ((Fr.rf.call hq_15 (by decide) (by decide)).call hq_34 (by decide) (by decide)) (by decide) (by decide)
    have b_43 : 0 ≤ (G.1 0 11).toInt ∧ (G.1 0 11).toInt ≤ 1600 := hB_G.i 0 11 rfl rfl
    have g_44 : (G_33.1 0 11).toInt = (G.1 0 11).toInt := by rw [show G_33.1 0 11 = (G.1 0 11) from ((hq_34.i 0 11 (by decide) (by decide)).trans (hq_15.i 0 11 (by decide) (by decide)))]
    have b_45 : 0 ≤ (G.1 3 7).toInt ∧ (G.1 3 7).toInt ≤ 4 := hB_G.i 3 7 rfl rfl
    have g_46 : (G_33.1 3 7).toInt = (G.1 3 7).toInt := by rw [show G_33.1 3 7 = (G.1 3 7) from ((hq_34.i 3 7 (by decide) (by decide)).trans (hq_15.i 3 7 (by decide) (by decide)))]
    have b_47 : (-1) ≤ (G.1 3 8).toInt ∧ (G.1 3 8).toInt ≤ 1600 := hB_G.i 3 8 rfl rfl
    have g_48 : (G_33.1 3 8).toInt = (G.1 3 8).toInt := by rw [show G_33.1 3 8 = (G.1 3 8) from ((hq_34.i 3 8 (by decide) (by decide)).trans (hq_15.i 3 8 (by decide) (by decide)))]
    have b_49 : 0 ≤ (G.1 30 4).toInt ∧ (G.1 30 4).toInt ≤ 40 := hB_G.i 30 4 rfl rfl
    have g_50 : (G_33.1 30 4).toInt = (G.1 30 4).toInt := by rw [show G_33.1 30 4 = (G.1 30 4) from ((hq_34.i 30 4 (by decide) (by decide)).trans (hq_15.i 30 4 (by decide) (by decide)))]
    have b_51 : 0 ≤ (G.1 30 5).toInt ∧ (G.1 30 5).toInt ≤ 40 := hB_G.i 30 5 rfl rfl
    have g_52 : (G_33.1 30 5).toInt = (G.1 30 5).toInt := by rw [show G_33.1 30 5 = (G.1 30 5) from ((hq_34.i 30 5 (by decide) (by decide)).trans (hq_15.i 30 5 (by decide) (by decide)))]
    have b_53 : 0 ≤ (G.1 31 6).toInt ∧ (G.1 31 6).toInt ≤ 100000 := hB_G.i 31 6 rfl rfl
    have g_54 : (G_33.1 31 6).toInt = (G.1 31 6).toInt := by rw [show G_33.1 31 6 = (G.1 31 6) from ((hq_34.i 31 6 (by decide) (by decide)).trans (hq_15.i 31 6 (by decide) (by decide)))]
    have b_55 : 0 ≤ (G.1 66 1).toInt ∧ (G.1 66 1).toInt ≤ 1600 := hB_G.i 66 1 rfl rfl
    have g_56 : (G_33.1 66 1).toInt = (G.1 66 1).toInt := by rw [show G_33.1 66 1 = (G.1 66 1) from ((hq_34.i 66 1 (by decide) (by decide)).trans (hq_15.i 66 1 (by decide) (by decide)))]
    have b_57 : 0 ≤ (G.1 66 2).toInt ∧ (G.1 66 2).toInt ≤ 4 := hB_G.i 66 2 rfl rfl
    have g_58 : (G_33.1 66 2).toInt = (G.1 66 2).toInt := by rw [show G_33.1 66 2 = (G.1 66 2) from ((hq_34.i 66 2 (by decide) (by decide)).trans (hq_15.i 66 2 (by decide) (by decide)))]
    have b_59 : (-1) ≤ (G.1 66 3).toInt ∧ (G.1 66 3).toInt ≤ 1600 := hB_G.i 66 3 rfl rfl
    have g_60 : (G_33.1 66 3).toInt = (G.1 66 3).toInt := by rw [show G_33.1 66 3 = (G.1 66 3) from ((hq_34.i 66 3 (by decide) (by decide)).trans (hq_15.i 66 3 (by decide) (by decide)))]
    have b_61 : 0 ≤ (G.1 66 78).toInt ∧ (G.1 66 78).toInt ≤ 40 := hB_G.i 66 78 rfl rfl
    have g_62 : (G_33.1 66 78).toInt = (G.1 66 78).toInt := by rw [show G_33.1 66 78 = (G.1 66 78) from ((hq_34.i 66 78 (by decide) (by decide)).trans (hq_15.i 66 78 (by decide) (by decide)))]
    have b_63 : 0 ≤ (G.1 66 79).toInt ∧ (G.1 66 79).toInt ≤ 40 := hB_G.i 66 79 rfl rfl
    have g_64 : (G_33.1 66 79).toInt = (G.1 66 79).toInt := by rw [show G_33.1 66 79 = (G.1 66 79) from ((hq_34.i 66 79 (by decide) (by decide)).trans (hq_15.i 66 79 (by decide) (by decide)))]
    have b_65 : 0 ≤ (G.1 66 86).toInt ∧ (G.1 66 86).toInt ≤ 100000 := hB_G.i 66 86 rfl rfl
    have g_66 : (G_33.1 66 86).toInt = (G.1 66 86).toInt := by rw [show G_33.1 66 86 = (G.1 66 86) from ((hq_34.i 66 86 (by decide) (by decide)).trans (hq_15.i 66 86 (by decide) (by decide)))]
    have b_67 : 0 ≤ (G.1 96 0).toInt ∧ (G.1 96 0).toInt ≤ 9 := hB_G.i 96 0 rfl rfl
    have g_68 : (G_33.1 96 0).toInt = (G.1 96 0).toInt := by rw [show G_33.1 96 0 = (G.1 96 0) from ((hq_34.i 96 0 (by decide) (by decide)).trans (hq_15.i 96 0 (by decide) (by decide)))]
    have b_69 : 0 ≤ (G.1 96 1).toInt ∧ (G.1 96 1).toInt ≤ 9 := hB_G.i 96 1 rfl rfl
    have g_70 : (G_33.1 96 1).toInt = (G.1 96 1).toInt := by rw [show G_33.1 96 1 = (G.1 96 1) from ((hq_34.i 96 1 (by decide) (by decide)).trans (hq_15.i 96 1 (by decide) (by decide)))]
    have b_71 : 0 ≤ (G.1 96 2).toInt ∧ (G.1 96 2).toInt ≤ 9 := hB_G.i 96 2 rfl rfl
    have g_72 : (G_33.1 96 2).toInt = (G.1 96 2).toInt := by rw [show G_33.1 96 2 = (G.1 96 2) from ((hq_34.i 96 2 (by decide) (by decide)).trans (hq_15.i 96 2 (by decide) (by decide)))]
    exact K G_33 _ _ _ (Or.inl ⟨((((hq_34.r 0 0 (by decide) (by decide)).trans (hq_15.r 0 0 (by decide) (by decide)))).trans (hv_0_0)), ((((hq_34.r 0 1 (by decide) (by decide)).trans (hq_15.r 0 1 (by decide) (by decide)))).trans (hv_0_1)), ((((hq_34.r 6 4 (by decide) (by decide)).trans (hq_15.r 6 4 (by decide) (by decide)))).trans (hv_6_4)), by omega, by omega, by omega, by omega, by omega, by omega, by omega, by omega, by omega, by omega, by omega, by omega, by omega⟩) hB_G_33 hW hS (lv_sub hl [0, 1, 2, 3] rfl)
  · skip
    refine lv_aload_n hx hb dL_law_531 rfl (lv_at hl 1 rfl) ?_
    refine lv_aload_n hx hb dL_law_532 rfl (lv_at hl 0 rfl) ?_
    refine lv_iload_n hx hb dL_law_533 rfl (lv_at hl 3 rfl) ?_
    refine lv_iconst (v := 1) hx hb dL_law_534 (by decide) ?_
    refine lv_iadd hx hb dL_law_535 ?_
    refine lv_topi (fun y_1 ey_1 => ?_)
    have ty_1 : y_1.toInt = i0.toInt + 1 := xI_add rfl rfl ey_1 (by omega) (by omega)
    refine va_sld hx hb hX hbl hbA hS (vin (by omega) (by omega)) dL_law_536 ?_
    refine lv_topi (fun y_2 ey_2 => ?_)
    have u_3 : y_2.toInt = (xs (i0 + 1).toNatClampNeg).toInt := by rw [ey_2, ey_1]
    refine lv_aload_n hx hb dL_law_537 rfl (lv_at hl 0 rfl) ?_
    refine lv_iload_n hx hb dL_law_538 rfl (lv_at hl 3 rfl) ?_
    refine lv_iconst (v := 2) hx hb dL_law_539 (by decide) ?_
    refine lv_iadd hx hb dL_law_540 ?_
    refine lv_topi (fun y_4 ey_4 => ?_)
    have ty_4 : y_4.toInt = i0.toInt + 2 := xI_add rfl rfl ey_4 (by omega) (by omega)
    refine va_sld hx hb hX hbl hbA hS (vin (by omega) (by omega)) dL_law_541 ?_
    refine lv_topi (fun y_5 ey_5 => ?_)
    have u_6 : y_5.toInt = (xs (i0 + 2).toNatClampNeg).toInt := by rw [ey_5, ey_4]
    refine lv_aload_n hx hb dL_law_542 rfl (lv_at hl 0 rfl) ?_
    refine lv_iload_n hx hb dL_law_543 rfl (lv_at hl 3 rfl) ?_
    refine lv_iconst (v := 3) hx hb dL_law_544 (by decide) ?_
    refine lv_iadd hx hb dL_law_545 ?_
    refine lv_topi (fun y_7 ey_7 => ?_)
    have ty_7 : y_7.toInt = i0.toInt + 3 := xI_add rfl rfl ey_7 (by omega) (by omega)
    refine va_sld hx hb hX hbl hbA hS (vin (by omega) (by omega)) dL_law_546 ?_
    refine lv_topi (fun y_8 ey_8 => ?_)
    have u_9 : y_8.toInt = (xs (i0 + 3).toNatClampNeg).toInt := by rw [ey_8, ey_7]
    refine lv_aload_n hx hb dL_law_547 rfl (lv_at hl 0 rfl) ?_
    refine lv_iload_n hx hb dL_law_548 rfl (lv_at hl 3 rfl) ?_
    refine lv_iconst (v := 4) hx hb dL_law_549 (by decide) ?_
    refine lv_iadd hx hb dL_law_550 ?_
    refine lv_topi (fun y_10 ey_10 => ?_)
    have ty_10 : y_10.toInt = i0.toInt + 4 := xI_add rfl rfl ey_10 (by omega) (by omega)
    refine va_sld hx hb hX hbl hbA hS (vin (by omega) (by omega)) dL_law_551 ?_
    refine lv_topi (fun y_11 ey_11 => ?_)
    have u_12 : y_11.toInt = (xs (i0 + 4).toNatClampNeg).toInt := by rw [ey_11, ey_10]
    refine S_calli (va_runV (As := [.int y_2, .int y_5, .int y_8, .int y_11]) (rest := []) ⟨hx, hb, hml, hown, hts⟩ (k_Wfewest_2 l D k A a z G y_2 y_5 y_8 y_11 hv_0_0 hv_0_1 hv_6_4) (cwV 4 hts (gd_V hgd m971 m972 m973 m117 m974) rfl rfl rfl (by decide +kernel) ⟨Nat.le_of_ble_eq_true rfl, Nat.le_of_ble_eq_true rfl⟩) (pre_V hW hB_G hK hZ hS kd_0 rfl) rfl rfl hl.1 rfl (lv_room (Nat.le_of_ble_eq_true rfl)) dL_law_552 ⟨Nat.le_of_ble_eq_true rfl, Nat.le_of_ble_eq_true rfl⟩) hS (fun r_13 G_14 H locs hpo hW hS => ?_)
    have hX_17 : P_Wfewest_2 y_2 y_5 y_8 y_11 G r_13 G_14 := hpo
    obtain ⟨hB_G_14, hq_15, -⟩ := hpo
    refine lv_pop hx hb dL_law_555 rfl ?_
    refine lv_aload_n hx hb dL_law_556 rfl (lv_at hl 2 rfl) ?_
    refine lv_aload_n hx hb dL_law_557 rfl (lv_at hl 0 rfl) ?_
    refine lv_iload_n hx hb dL_law_558 rfl (lv_at hl 3 rfl) ?_
    refine lv_iconst (v := 1) hx hb dL_law_559 (by decide) ?_
    refine lv_iadd hx hb dL_law_560 ?_
    refine lv_topi (fun y_18 ey_18 => ?_)
    have ty_18 : y_18.toInt = i0.toInt + 1 := xI_add rfl rfl ey_18 (by omega) (by omega)
    refine va_sld hx hb hX hbl hbA hS (vin (by omega) (by omega)) dL_law_561 ?_
    refine lv_topi (fun y_19 ey_19 => ?_)
    have u_20 : y_19.toInt = (xs (i0 + 1).toNatClampNeg).toInt := by rw [ey_19, ey_18]
    refine lv_aload_n hx hb dL_law_562 rfl (lv_at hl 0 rfl) ?_
    refine lv_iload_n hx hb dL_law_563 rfl (lv_at hl 3 rfl) ?_
    refine lv_iconst (v := 2) hx hb dL_law_564 (by decide) ?_
    refine lv_iadd hx hb dL_law_565 ?_
    refine lv_topi (fun y_21 ey_21 => ?_)
    have ty_21 : y_21.toInt = i0.toInt + 2 := xI_add rfl rfl ey_21 (by omega) (by omega)
    refine va_sld hx hb hX hbl hbA hS (vin (by omega) (by omega)) dL_law_566 ?_
    refine lv_topi (fun y_22 ey_22 => ?_)
    have u_23 : y_22.toInt = (xs (i0 + 2).toNatClampNeg).toInt := by rw [ey_22, ey_21]
    refine lv_aload_n hx hb dL_law_567 rfl (lv_at hl 0 rfl) ?_
    refine lv_iload_n hx hb dL_law_568 rfl (lv_at hl 3 rfl) ?_
    refine lv_iconst (v := 3) hx hb dL_law_569 (by decide) ?_
    refine lv_iadd hx hb dL_law_570 ?_
    refine lv_topi (fun y_24 ey_24 => ?_)
    have ty_24 : y_24.toInt = i0.toInt + 3 := xI_add rfl rfl ey_24 (by omega) (by omega)
    refine va_sld hx hb hX hbl hbA hS (vin (by omega) (by omega)) dL_law_571 ?_
    refine lv_topi (fun y_25 ey_25 => ?_)
    have u_26 : y_25.toInt = (xs (i0 + 3).toNatClampNeg).toInt := by rw [ey_25, ey_24]
    refine lv_aload_n hx hb dL_law_572 rfl (lv_at hl 0 rfl) ?_
    refine lv_iload_n hx hb dL_law_573 rfl (lv_at hl 3 rfl) ?_
    refine lv_iconst (v := 4) hx hb dL_law_574 (by decide) ?_
    refine lv_iadd hx hb dL_law_575 ?_
    refine lv_topi (fun y_27 ey_27 => ?_)
    have ty_27 : y_27.toInt = i0.toInt + 4 := xI_add rfl rfl ey_27 (by omega) (by omega)
    refine va_sld hx hb hX hbl hbA hS (vin (by omega) (by omega)) dL_law_576 ?_
    refine lv_topi (fun y_28 ey_28 => ?_)
    have u_29 : y_28.toInt = (xs (i0 + 4).toNatClampNeg).toInt := by rw [ey_28, ey_27]
    have g_30 : gP G_14 = gP G := gP_fr (rs := [33, 37, 38, 39, 40, 42, 43, 44, 45]) (fs := [(0, 12), (6, 3), (7, 1), (7, 2), (7, 3), (7, 4), (7, 5), (7, 6), (7, 7)]) (Fr.rf.call hq_15 (by decide) (by decide)) (by decide) (by decide)
    have g_31 : gW G_14 = gW G := gW_fr (rs := [33, 37, 38, 39, 40, 42, 43, 44, 45]) (fs := [(0, 12), (6, 3), (7, 1), (7, 2), (7, 3), (7, 4), (7, 5), (7, 6), (7, 7)]) (Fr.rf.call hq_15 (by decide) (by decide)) (by decide) (by decide)
    refine S_calli (va_runV (As := [.int y_19, .int y_22, .int y_25, .int y_28]) (rest := []) ⟨hx, hb, hml, hown, hts⟩ (n_fewest l D k A a z G_14 y_19 y_22 y_25 y_28 (by omega) (by omega)) (cwV 4 hts (gd_V hgd m1842 m1843 m1844 m131 m1845) rfl rfl rfl (by decide +kernel) ⟨Nat.le_of_ble_eq_true rfl, Nat.le_of_ble_eq_true rfl⟩) (pre_V hW hB_G_14 hK hZ hS kd_66 rfl) rfl rfl hl.1 rfl (lv_room (Nat.le_of_ble_eq_true rfl)) dL_law_577 ⟨Nat.le_of_ble_eq_true rfl, Nat.le_of_ble_eq_true rfl⟩) hS (fun r_32 G_33 H locs hpo hW hS => ?_)
    have hX_36 : Q_fewest y_19 y_22 y_25 y_28 G_14 r_32 G_33 := hpo
    obtain ⟨hB_G_33, hq_34, -⟩ := hpo
    have u_37 := L_fewest_2 hX_17 hX_36 (by omega) (by omega) (by omega) (by omega) (by omega)
    refine lv_pop hx hb dL_law_580 rfl ?_
    refine lv_goto (tgt := 1641) hx hb dL_law_581 (by decide) ?_
    have g_38 : gO G_33 = gO G := gO_fr (rs := [33, 37, 38, 39, 40, 42, 43, 44, 45, 76, 97, 98, 99, 100]) (fs := [(0, 12), (6, 3), (7, 1), (7, 2), (7, 3), (7, 4), (7, 5), (7, 6), (7, 7), (66, 59), (66, 60), (66, 61), (66, 62), (66, 63), (66, 66)]) ((Fr.rf.call hq_15 (by decide) (by decide)).call hq_34 (by decide) (by decide)) (by decide) (by decide)
    have g_39 : gP G_33 = gP G := gP_fr (rs := [33, 37, 38, 39, 40, 42, 43, 44, 45, 76, 97, 98, 99, 100]) (fs := [(0, 12), (6, 3), (7, 1), (7, 2), (7, 3), (7, 4), (7, 5), (7, 6), (7, 7), (66, 59), (66, 60), (66, 61), (66, 62), (66, 63), (66, 66)]) ((Fr.rf.call hq_15 (by decide) (by decide)).call hq_34 (by decide) (by decide)) (by decide) (by decide)
    have g_40 : gS G_33 = gS G := gS_fr (rs := [33, 37, 38, 39, 40, 42, 43, 44, 45, 76, 97, 98, 99, 100]) (fs := [(0, 12), (6, 3), (7, 1), (7, 2), (7, 3), (7, 4), (7, 5), (7, 6), (7, 7), (66, 59), (66, 60), (66, 61), (66, 62), (66, 63), (66, 66)]) ((Fr.rf.call hq_15 (by decide) (by decide)).call hq_34 (by decide) (by decide)) (by decide) (by decide)
    have g_41 : gTE G_33 = gTE G := gTE_fr (rs := [33, 37, 38, 39, 40, 42, 43, 44, 45, 76, 97, 98, 99, 100]) (fs := [(0, 12), (6, 3), (7, 1), (7, 2), (7, 3), (7, 4), (7, 5), (7, 6), (7, 7), (66, 59), (66, 60), (66, 61), (66, 62), (66, 63), (66, 66)]) ((Fr.rf.call hq_15 (by decide) (by decide)).call hq_34 (by decide) (by decide)) (by decide) (by decide)
    have g_42 : gW G_33 = gW G := gW_fr (rs := [33, 37, 38, 39, 40, 42, 43, 44, 45, 76, 97, 98, 99, 100]) (fs := [(0, 12), (6, 3), (7, 1), (7, 2), (7, 3), (7, 4), (7, 5), (7, 6), (7, 7), (66, 59), (66, 60), (66, 61), (66, 62), (66, 63), (66, 66)]) ((Fr.rf.call hq_15 (by decide) (by decide)).call hq_34 (by decide) (by decide)) (by decide) (by decide)
    have b_43 : 0 ≤ (G.1 0 11).toInt ∧ (G.1 0 11).toInt ≤ 1600 := hB_G.i 0 11 rfl rfl
    have g_44 : (G_33.1 0 11).toInt = (G.1 0 11).toInt := by rw [show G_33.1 0 11 = (G.1 0 11) from ((hq_34.i 0 11 (by decide) (by decide)).trans (hq_15.i 0 11 (by decide) (by decide)))]
    have b_45 : 0 ≤ (G.1 3 7).toInt ∧ (G.1 3 7).toInt ≤ 4 := hB_G.i 3 7 rfl rfl
    have g_46 : (G_33.1 3 7).toInt = (G.1 3 7).toInt := by rw [show G_33.1 3 7 = (G.1 3 7) from ((hq_34.i 3 7 (by decide) (by decide)).trans (hq_15.i 3 7 (by decide) (by decide)))]
    have b_47 : (-1) ≤ (G.1 3 8).toInt ∧ (G.1 3 8).toInt ≤ 1600 := hB_G.i 3 8 rfl rfl
    have g_48 : (G_33.1 3 8).toInt = (G.1 3 8).toInt := by rw [show G_33.1 3 8 = (G.1 3 8) from ((hq_34.i 3 8 (by decide) (by decide)).trans (hq_15.i 3 8 (by decide) (by decide)))]
    have b_49 : 0 ≤ (G.1 30 4).toInt ∧ (G.1 30 4).toInt ≤ 40 := hB_G.i 30 4 rfl rfl
    have g_50 : (G_33.1 30 4).toInt = (G.1 30 4).toInt := by rw [show G_33.1 30 4 = (G.1 30 4) from ((hq_34.i 30 4 (by decide) (by decide)).trans (hq_15.i 30 4 (by decide) (by decide)))]
    have b_51 : 0 ≤ (G.1 30 5).toInt ∧ (G.1 30 5).toInt ≤ 40 := hB_G.i 30 5 rfl rfl
    have g_52 : (G_33.1 30 5).toInt = (G.1 30 5).toInt := by rw [show G_33.1 30 5 = (G.1 30 5) from ((hq_34.i 30 5 (by decide) (by decide)).trans (hq_15.i 30 5 (by decide) (by decide)))]
    have b_53 : 0 ≤ (G.1 31 6).toInt ∧ (G.1 31 6).toInt ≤ 100000 := hB_G.i 31 6 rfl rfl
    have g_54 : (G_33.1 31 6).toInt = (G.1 31 6).toInt := by rw [show G_33.1 31 6 = (G.1 31 6) from ((hq_34.i 31 6 (by decide) (by decide)).trans (hq_15.i 31 6 (by decide) (by decide)))]
    have b_55 : 0 ≤ (G.1 66 1).toInt ∧ (G.1 66 1).toInt ≤ 1600 := hB_G.i 66 1 rfl rfl
    have g_56 : (G_33.1 66 1).toInt = (G.1 66 1).toInt := by rw [show G_33.1 66 1 = (G.1 66 1) from ((hq_34.i 66 1 (by decide) (by decide)).trans (hq_15.i 66 1 (by decide) (by decide)))]
    have b_57 : 0 ≤ (G.1 66 2).toInt ∧ (G.1 66 2).toInt ≤ 4 := hB_G.i 66 2 rfl rfl
    have g_58 : (G_33.1 66 2).toInt = (G.1 66 2).toInt := by rw [show G_33.1 66 2 = (G.1 66 2) from ((hq_34.i 66 2 (by decide) (by decide)).trans (hq_15.i 66 2 (by decide) (by decide)))]
    have b_59 : (-1) ≤ (G.1 66 3).toInt ∧ (G.1 66 3).toInt ≤ 1600 := hB_G.i 66 3 rfl rfl
    have g_60 : (G_33.1 66 3).toInt = (G.1 66 3).toInt := by rw [show G_33.1 66 3 = (G.1 66 3) from ((hq_34.i 66 3 (by decide) (by decide)).trans (hq_15.i 66 3 (by decide) (by decide)))]
    have b_61 : 0 ≤ (G.1 66 78).toInt ∧ (G.1 66 78).toInt ≤ 40 := hB_G.i 66 78 rfl rfl
    have g_62 : (G_33.1 66 78).toInt = (G.1 66 78).toInt := by rw [show G_33.1 66 78 = (G.1 66 78) from ((hq_34.i 66 78 (by decide) (by decide)).trans (hq_15.i 66 78 (by decide) (by decide)))]
    have b_63 : 0 ≤ (G.1 66 79).toInt ∧ (G.1 66 79).toInt ≤ 40 := hB_G.i 66 79 rfl rfl
    have g_64 : (G_33.1 66 79).toInt = (G.1 66 79).toInt := by rw [show G_33.1 66 79 = (G.1 66 79) from ((hq_34.i 66 79 (by decide) (by decide)).trans (hq_15.i 66 79 (by decide) (by decide)))]
    have b_65 : 0 ≤ (G.1 66 86).toInt ∧ (G.1 66 86).toInt ≤ 100000 := hB_G.i 66 86 rfl rfl
    have g_66 : (G_33.1 66 86).toInt = (G.1 66 86).toInt := by rw [show G_33.1 66 86 = (G.1 66 86) from ((hq_34.i 66 86 (by decide) (by decide)).trans (hq_15.i 66 86 (by decide) (by decide)))]
    have b_67 : 0 ≤ (G.1 96 0).toInt ∧ (G.1 96 0).toInt ≤ 9 := hB_G.i 96 0 rfl rfl
    have g_68 : (G_33.1 96 0).toInt = (G.1 96 0).toInt := by rw [show G_33.1 96 0 = (G.1 96 0) from ((hq_34.i 96 0 (by decide) (by decide)).trans (hq_15.i 96 0 (by decide) (by decide)))]
    have b_69 : 0 ≤ (G.1 96 1).toInt ∧ (G.1 96 1).toInt ≤ 9 := hB_G.i 96 1 rfl rfl
    have g_70 : (G_33.1 96 1).toInt = (G.1 96 1).toInt := by rw [show G_33.1 96 1 = (G.1 96 1) from ((hq_34.i 96 1 (by decide) (by decide)).trans (hq_15.i 96 1 (by decide) (by decide)))]
    have b_71 : 0 ≤ (G.1 96 2).toInt ∧ (G.1 96 2).toInt ≤ 9 := hB_G.i 96 2 rfl rfl
    have g_72 : (G_33.1 96 2).toInt = (G.1 96 2).toInt := by rw [show G_33.1 96 2 = (G.1 96 2) from ((hq_34.i 96 2 (by decide) (by decide)).trans (hq_15.i 96 2 (by decide) (by decide)))]
    exact K G_33 _ _ _ (Or.inr ⟨((((hq_34.r 0 0 (by decide) (by decide)).trans (hq_15.r 0 0 (by decide) (by decide)))).trans (hv_0_0)), ((((hq_34.r 0 1 (by decide) (by decide)).trans (hq_15.r 0 1 (by decide) (by decide)))).trans (hv_0_1)), ((((hq_34.r 6 4 (by decide) (by decide)).trans (hq_15.r 6 4 (by decide) (by decide)))).trans (hv_6_4)), by omega, by omega, by omega, by omega, by omega, by omega, by omega, by omega, by omega, by omega, by omega, by omega, by omega⟩) hB_G_33 hW hS (lv_sub hl [0, 1, 2, 3] rfl)

set_option maxHeartbeats 4000000 in
set_option maxRecDepth 100000 in
theorem law_10 {p : Program} {l : Launch} {e : Env} {s : State} {m : MethodId} {below : List Frame} {meth : Method} {c : Code} {D : va_G} {k : KT} {A : Nat → Prop} {a : Nat → Nat} {z : SK} {b L : Nat} {xs : Nat → Int32} (hL : L ≤ 3072) (C0 : lw_At p s m meth c b L xs) (hK : cK D k s) (hZ : Sx A z s) (hbA : ¬ A b) {G : GS} {i0 : Int32} (hi0 : 0 ≤ i0.toInt) (hi6 : i0.toInt + 6 ≤ L) (hI : LI G) (hB_G : Bd G) {H : Heap} {locs : List Loc} {ls : Array Slot} (hW : Wd D k A a G H) (hS : va_S A s.heap H locs) (hl : lv_has ls 4 [(0, .ref b), (1, .ref (a 0)), (2, .ref (a 66)), (3, .int i0)]) (K : ∀ (G1 : GS) (H1 : Heap) (locs1 : List Loc) (ls1 : Array Slot), LI G1 → Bd G1 → Wd D k A a G1 H1 → va_S A s.heap H1 locs1 → lv_has ls1 4 [(0, .ref b), (1, .ref (a 0)), (2, .ref (a 66)), (3, .int i0)] → W p l e room_1 s m #[Value.ref b] below meth c H1 locs1 119 46443 (lw_Z below #[Value.ref b] s) (F0 m 1641 ls1 [])) : W p l e room_1 s m #[Value.ref b] below meth c H locs 119 46443 (lw_Z below #[Value.ref b] s) (F0 m 584 ls []) := by
  obtain ⟨hx, hb, hr, hml, hown, hts, hX, hbl, hlocks, hgv⟩ := id C0
  have hown : s.vm.findClass RL = some m.cls := hown
  have hgd : ∀ w ∈ gd, w ∈ lw_tbl := fun w h => (List.mem_filter.mp h).1
  have hg : ∀ w ∈ gd, w.before #[Value.ref b] s = true := fun w h => hts w (hgd w h)
  rcases hI with ⟨hv_0_0, hv_0_1, hv_6_4, hj0, hj1, hj2, hj3, hj4, hj5, hj6, hj7, hj8, hj9, hj10, hj11⟩ | ⟨hv_0_0, hv_0_1, hv_6_4, hj0, hj1, hj2, hj3, hj4, hj5, hj6, hj7, hj8, hj9, hj10, hj11⟩
  · skip
    refine lv_aload_n hx hb dL_law_584 rfl (lv_at hl 1 rfl) ?_
    refine lv_aload_n hx hb dL_law_585 rfl (lv_at hl 0 rfl) ?_
    refine lv_iload_n hx hb dL_law_586 rfl (lv_at hl 3 rfl) ?_
    refine lv_iconst (v := 1) hx hb dL_law_587 (by decide) ?_
    refine lv_iadd hx hb dL_law_588 ?_
    refine lv_topi (fun y_1 ey_1 => ?_)
    have ty_1 : y_1.toInt = i0.toInt + 1 := xI_add rfl rfl ey_1 (by omega) (by omega)
    refine va_sld hx hb hX hbl hbA hS (vin (by omega) (by omega)) dL_law_589 ?_
    refine lv_topi (fun y_2 ey_2 => ?_)
    have u_3 : y_2.toInt = (xs (i0 + 1).toNatClampNeg).toInt := by rw [ey_2, ey_1]
    refine lv_aload_n hx hb dL_law_590 rfl (lv_at hl 0 rfl) ?_
    refine lv_iload_n hx hb dL_law_591 rfl (lv_at hl 3 rfl) ?_
    refine lv_iconst (v := 2) hx hb dL_law_592 (by decide) ?_
    refine lv_iadd hx hb dL_law_593 ?_
    refine lv_topi (fun y_4 ey_4 => ?_)
    have ty_4 : y_4.toInt = i0.toInt + 2 := xI_add rfl rfl ey_4 (by omega) (by omega)
    refine va_sld hx hb hX hbl hbA hS (vin (by omega) (by omega)) dL_law_594 ?_
    refine lv_topi (fun y_5 ey_5 => ?_)
    have u_6 : y_5.toInt = (xs (i0 + 2).toNatClampNeg).toInt := by rw [ey_5, ey_4]
    refine lv_aload_n hx hb dL_law_595 rfl (lv_at hl 0 rfl) ?_
    refine lv_iload_n hx hb dL_law_596 rfl (lv_at hl 3 rfl) ?_
    refine lv_iconst (v := 3) hx hb dL_law_597 (by decide) ?_
    refine lv_iadd hx hb dL_law_598 ?_
    refine lv_topi (fun y_7 ey_7 => ?_)
    have ty_7 : y_7.toInt = i0.toInt + 3 := xI_add rfl rfl ey_7 (by omega) (by omega)
    refine va_sld hx hb hX hbl hbA hS (vin (by omega) (by omega)) dL_law_599 ?_
    refine lv_topi (fun y_8 ey_8 => ?_)
    have u_9 : y_8.toInt = (xs (i0 + 3).toNatClampNeg).toInt := by rw [ey_8, ey_7]
    refine lv_aload_n hx hb dL_law_600 rfl (lv_at hl 0 rfl) ?_
    refine lv_iload_n hx hb dL_law_601 rfl (lv_at hl 3 rfl) ?_
    refine lv_iconst (v := 4) hx hb dL_law_602 (by decide) ?_
    refine lv_iadd hx hb dL_law_603 ?_
    refine lv_topi (fun y_10 ey_10 => ?_)
    have ty_10 : y_10.toInt = i0.toInt + 4 := xI_add rfl rfl ey_10 (by omega) (by omega)
    refine va_sld hx hb hX hbl hbA hS (vin (by omega) (by omega)) dL_law_604 ?_
    refine lv_topi (fun y_11 ey_11 => ?_)
    have u_12 : y_11.toInt = (xs (i0 + 4).toNatClampNeg).toInt := by rw [ey_11, ey_10]
    refine S_calll (va_runV (As := [.int y_2, .int y_5, .int y_8, .int y_11]) (rest := []) ⟨hx, hb, hml, hown, hts⟩ (k_Wways_1 l D k A a z G y_2 y_5 y_8 y_11 hv_0_0 hv_0_1 hv_6_4) (cwV 4 hts (gd_V hgd m1014 m1015 m1016 m117 m1017) rfl rfl rfl (by decide +kernel) ⟨Nat.le_of_ble_eq_true rfl, Nat.le_of_ble_eq_true rfl⟩) (pre_V hW hB_G hK hZ hS kd_0 rfl) rfl rfl hl.1 rfl (lv_room (Nat.le_of_ble_eq_true rfl)) dL_law_605 ⟨Nat.le_of_ble_eq_true rfl, Nat.le_of_ble_eq_true rfl⟩) hS (fun r_13 G_14 H locs hpo hW hS => ?_)
    have hX_17 : P_Wways_1 y_2 y_5 y_8 y_11 G r_13 G_14 := hpo
    obtain ⟨hB_G_14, hq_15, -⟩ := hpo
    refine lv_pop2_2 hx hb dL_law_608 rfl ?_
    refine lv_aload_n hx hb dL_law_609 rfl (lv_at hl 2 rfl) ?_
    refine lv_aload_n hx hb dL_law_610 rfl (lv_at hl 0 rfl) ?_
    refine lv_iload_n hx hb dL_law_611 rfl (lv_at hl 3 rfl) ?_
    refine lv_iconst (v := 1) hx hb dL_law_612 (by decide) ?_
    refine lv_iadd hx hb dL_law_613 ?_
    refine lv_topi (fun y_18 ey_18 => ?_)
    have ty_18 : y_18.toInt = i0.toInt + 1 := xI_add rfl rfl ey_18 (by omega) (by omega)
    refine va_sld hx hb hX hbl hbA hS (vin (by omega) (by omega)) dL_law_614 ?_
    refine lv_topi (fun y_19 ey_19 => ?_)
    have u_20 : y_19.toInt = (xs (i0 + 1).toNatClampNeg).toInt := by rw [ey_19, ey_18]
    refine lv_aload_n hx hb dL_law_615 rfl (lv_at hl 0 rfl) ?_
    refine lv_iload_n hx hb dL_law_616 rfl (lv_at hl 3 rfl) ?_
    refine lv_iconst (v := 2) hx hb dL_law_617 (by decide) ?_
    refine lv_iadd hx hb dL_law_618 ?_
    refine lv_topi (fun y_21 ey_21 => ?_)
    have ty_21 : y_21.toInt = i0.toInt + 2 := xI_add rfl rfl ey_21 (by omega) (by omega)
    refine va_sld hx hb hX hbl hbA hS (vin (by omega) (by omega)) dL_law_619 ?_
    refine lv_topi (fun y_22 ey_22 => ?_)
    have u_23 : y_22.toInt = (xs (i0 + 2).toNatClampNeg).toInt := by rw [ey_22, ey_21]
    refine lv_aload_n hx hb dL_law_620 rfl (lv_at hl 0 rfl) ?_
    refine lv_iload_n hx hb dL_law_621 rfl (lv_at hl 3 rfl) ?_
    refine lv_iconst (v := 3) hx hb dL_law_622 (by decide) ?_
    refine lv_iadd hx hb dL_law_623 ?_
    refine lv_topi (fun y_24 ey_24 => ?_)
    have ty_24 : y_24.toInt = i0.toInt + 3 := xI_add rfl rfl ey_24 (by omega) (by omega)
    refine va_sld hx hb hX hbl hbA hS (vin (by omega) (by omega)) dL_law_624 ?_
    refine lv_topi (fun y_25 ey_25 => ?_)
    have u_26 : y_25.toInt = (xs (i0 + 3).toNatClampNeg).toInt := by rw [ey_25, ey_24]
    refine lv_aload_n hx hb dL_law_625 rfl (lv_at hl 0 rfl) ?_
    refine lv_iload_n hx hb dL_law_626 rfl (lv_at hl 3 rfl) ?_
    refine lv_iconst (v := 4) hx hb dL_law_627 (by decide) ?_
    refine lv_iadd hx hb dL_law_628 ?_
    refine lv_topi (fun y_27 ey_27 => ?_)
    have ty_27 : y_27.toInt = i0.toInt + 4 := xI_add rfl rfl ey_27 (by omega) (by omega)
    refine va_sld hx hb hX hbl hbA hS (vin (by omega) (by omega)) dL_law_629 ?_
    refine lv_topi (fun y_28 ey_28 => ?_)
    have u_29 : y_28.toInt = (xs (i0 + 4).toNatClampNeg).toInt := by rw [ey_28, ey_27]
    have g_30 : gP G_14 = gP G := gP_fr (rs := [37, 38, 39, 40, 52, 53, 54, 55]) (fs := [(6, 3), (7, 1), (7, 2), (7, 3), (7, 4), (7, 5), (7, 6), (7, 7)]) (Fr.rf.call hq_15 (by decide) (by decide)) (by decide) (by decide)
    refine S_calll (va_runV (As := [.int y_19, .int y_22, .int y_25, .int y_28]) (rest := []) ⟨hx, hb, hml, hown, hts⟩ (n_ways l D k A a z G_14 y_19 y_22 y_25 y_28 (by omega)) (cwV 4 hts (gd_V hgd m1870 m1871 m1872 m131 m1873) rfl rfl rfl (by decide +kernel) ⟨Nat.le_of_ble_eq_true rfl, Nat.le_of_ble_eq_true rfl⟩) (pre_V hW hB_G_14 hK hZ hS kd_66 rfl) rfl rfl hl.1 rfl (lv_room (Nat.le_of_ble_eq_true rfl)) dL_law_630 ⟨Nat.le_of_ble_eq_true rfl, Nat.le_of_ble_eq_true rfl⟩) hS (fun r_31 G_32 H locs hpo hW hS => ?_)
    have hX_35 : Q_ways y_19 y_22 y_25 y_28 G_14 r_31 G_32 := hpo
    obtain ⟨hB_G_32, hq_33, -⟩ := hpo
    have u_36 := L_ways_1 hX_17 hX_35 (by omega) (by omega) (by omega) (by omega) (by omega)
    refine lv_pop2_2 hx hb dL_law_633 rfl ?_
    refine lv_goto (tgt := 1641) hx hb dL_law_634 (by decide) ?_
    have g_37 : gO G_32 = gO G := gO_fr (rs := [37, 38, 39, 40, 52, 53, 54, 55, 76, 97, 98, 101, 102]) (fs := [(6, 3), (7, 1), (7, 2), (7, 3), (7, 4), (7, 5), (7, 6), (7, 7), (66, 59), (66, 60), (66, 61), (66, 62), (66, 63)]) ((Fr.rf.call hq_15 (by decide) (by decide)).call hq_33 (by decide) (by decide)) (by decide) (by decide)
    have g_38 : gP G_32 = gP G := gP_fr (rs := [37, 38, 39, 40, 52, 53, 54, 55, 76, 97, 98, 101, 102]) (fs := [(6, 3), (7, 1), (7, 2), (7, 3), (7, 4), (7, 5), (7, 6), (7, 7), (66, 59), (66, 60), (66, 61), (66, 62), (66, 63)]) ((Fr.rf.call hq_15 (by decide) (by decide)).call hq_33 (by decide) (by decide)) (by decide) (by decide)
    have g_39 : gS G_32 = gS G := gS_fr (rs := [37, 38, 39, 40, 52, 53, 54, 55, 76, 97, 98, 101, 102]) (fs := [(6, 3), (7, 1), (7, 2), (7, 3), (7, 4), (7, 5), (7, 6), (7, 7), (66, 59), (66, 60), (66, 61), (66, 62), (66, 63)]) ((Fr.rf.call hq_15 (by decide) (by decide)).call hq_33 (by decide) (by decide)) (by decide) (by decide)
    have g_40 : gTE G_32 = gTE G := gTE_fr (rs := [37, 38, 39, 40, 52, 53, 54, 55, 76, 97, 98, 101, 102]) (fs := [(6, 3), (7, 1), (7, 2), (7, 3), (7, 4), (7, 5), (7, 6), (7, 7), (66, 59), (66, 60), (66, 61), (66, 62), (66, 63)]) ((Fr.rf.call hq_15 (by decide) (by decide)).call hq_33 (by decide) (by decide)) (by decide) (by decide)
    have g_41 : gW G_32 = gW G := gW_fr (rs := [37, 38, 39, 40, 52, 53, 54, 55, 76, 97, 98, 101, 102]) (fs := [(6, 3), (7, 1), (7, 2), (7, 3), (7, 4), (7, 5), (7, 6), (7, 7), (66, 59), (66, 60), (66, 61), (66, 62), (66, 63)]) ((Fr.rf.call hq_15 (by decide) (by decide)).call hq_33 (by decide) (by decide)) (by decide) (by decide)
    have b_42 : 0 ≤ (G.1 0 11).toInt ∧ (G.1 0 11).toInt ≤ 1600 := hB_G.i 0 11 rfl rfl
    have g_43 : (G_32.1 0 11).toInt = (G.1 0 11).toInt := by rw [show G_32.1 0 11 = (G.1 0 11) from ((hq_33.i 0 11 (by decide) (by decide)).trans (hq_15.i 0 11 (by decide) (by decide)))]
    have b_44 : 0 ≤ (G.1 3 7).toInt ∧ (G.1 3 7).toInt ≤ 4 := hB_G.i 3 7 rfl rfl
    have g_45 : (G_32.1 3 7).toInt = (G.1 3 7).toInt := by rw [show G_32.1 3 7 = (G.1 3 7) from ((hq_33.i 3 7 (by decide) (by decide)).trans (hq_15.i 3 7 (by decide) (by decide)))]
    have b_46 : (-1) ≤ (G.1 3 8).toInt ∧ (G.1 3 8).toInt ≤ 1600 := hB_G.i 3 8 rfl rfl
    have g_47 : (G_32.1 3 8).toInt = (G.1 3 8).toInt := by rw [show G_32.1 3 8 = (G.1 3 8) from ((hq_33.i 3 8 (by decide) (by decide)).trans (hq_15.i 3 8 (by decide) (by decide)))]
    have b_48 : 0 ≤ (G.1 30 4).toInt ∧ (G.1 30 4).toInt ≤ 40 := hB_G.i 30 4 rfl rfl
    have g_49 : (G_32.1 30 4).toInt = (G.1 30 4).toInt := by rw [show G_32.1 30 4 = (G.1 30 4) from ((hq_33.i 30 4 (by decide) (by decide)).trans (hq_15.i 30 4 (by decide) (by decide)))]
    have b_50 : 0 ≤ (G.1 30 5).toInt ∧ (G.1 30 5).toInt ≤ 40 := hB_G.i 30 5 rfl rfl
    have g_51 : (G_32.1 30 5).toInt = (G.1 30 5).toInt := by rw [show G_32.1 30 5 = (G.1 30 5) from ((hq_33.i 30 5 (by decide) (by decide)).trans (hq_15.i 30 5 (by decide) (by decide)))]
    have b_52 : 0 ≤ (G.1 31 6).toInt ∧ (G.1 31 6).toInt ≤ 100000 := hB_G.i 31 6 rfl rfl
    have g_53 : (G_32.1 31 6).toInt = (G.1 31 6).toInt := by rw [show G_32.1 31 6 = (G.1 31 6) from ((hq_33.i 31 6 (by decide) (by decide)).trans (hq_15.i 31 6 (by decide) (by decide)))]
    have b_54 : 0 ≤ (G.1 66 1).toInt ∧ (G.1 66 1).toInt ≤ 1600 := hB_G.i 66 1 rfl rfl
    have g_55 : (G_32.1 66 1).toInt = (G.1 66 1).toInt := by rw [show G_32.1 66 1 = (G.1 66 1) from ((hq_33.i 66 1 (by decide) (by decide)).trans (hq_15.i 66 1 (by decide) (by decide)))]
    have b_56 : 0 ≤ (G.1 66 2).toInt ∧ (G.1 66 2).toInt ≤ 4 := hB_G.i 66 2 rfl rfl
    have g_57 : (G_32.1 66 2).toInt = (G.1 66 2).toInt := by rw [show G_32.1 66 2 = (G.1 66 2) from ((hq_33.i 66 2 (by decide) (by decide)).trans (hq_15.i 66 2 (by decide) (by decide)))]
    have b_58 : (-1) ≤ (G.1 66 3).toInt ∧ (G.1 66 3).toInt ≤ 1600 := hB_G.i 66 3 rfl rfl
    have g_59 : (G_32.1 66 3).toInt = (G.1 66 3).toInt := by rw [show G_32.1 66 3 = (G.1 66 3) from ((hq_33.i 66 3 (by decide) (by decide)).trans (hq_15.i 66 3 (by decide) (by decide)))]
    have b_60 : 0 ≤ (G.1 66 78).toInt ∧ (G.1 66 78).toInt ≤ 40 := hB_G.i 66 78 rfl rfl
    have g_61 : (G_32.1 66 78).toInt = (G.1 66 78).toInt := by rw [show G_32.1 66 78 = (G.1 66 78) from ((hq_33.i 66 78 (by decide) (by decide)).trans (hq_15.i 66 78 (by decide) (by decide)))]
    have b_62 : 0 ≤ (G.1 66 79).toInt ∧ (G.1 66 79).toInt ≤ 40 := hB_G.i 66 79 rfl rfl
    have g_63 : (G_32.1 66 79).toInt = (G.1 66 79).toInt := by rw [show G_32.1 66 79 = (G.1 66 79) from ((hq_33.i 66 79 (by decide) (by decide)).trans (hq_15.i 66 79 (by decide) (by decide)))]
    have b_64 : 0 ≤ (G.1 66 86).toInt ∧ (G.1 66 86).toInt ≤ 100000 := hB_G.i 66 86 rfl rfl
    have g_65 : (G_32.1 66 86).toInt = (G.1 66 86).toInt := by rw [show G_32.1 66 86 = (G.1 66 86) from ((hq_33.i 66 86 (by decide) (by decide)).trans (hq_15.i 66 86 (by decide) (by decide)))]
    have b_66 : 0 ≤ (G.1 96 0).toInt ∧ (G.1 96 0).toInt ≤ 9 := hB_G.i 96 0 rfl rfl
    have g_67 : (G_32.1 96 0).toInt = (G.1 96 0).toInt := by rw [show G_32.1 96 0 = (G.1 96 0) from ((hq_33.i 96 0 (by decide) (by decide)).trans (hq_15.i 96 0 (by decide) (by decide)))]
    have b_68 : 0 ≤ (G.1 96 1).toInt ∧ (G.1 96 1).toInt ≤ 9 := hB_G.i 96 1 rfl rfl
    have g_69 : (G_32.1 96 1).toInt = (G.1 96 1).toInt := by rw [show G_32.1 96 1 = (G.1 96 1) from ((hq_33.i 96 1 (by decide) (by decide)).trans (hq_15.i 96 1 (by decide) (by decide)))]
    have b_70 : 0 ≤ (G.1 96 2).toInt ∧ (G.1 96 2).toInt ≤ 9 := hB_G.i 96 2 rfl rfl
    have g_71 : (G_32.1 96 2).toInt = (G.1 96 2).toInt := by rw [show G_32.1 96 2 = (G.1 96 2) from ((hq_33.i 96 2 (by decide) (by decide)).trans (hq_15.i 96 2 (by decide) (by decide)))]
    exact K G_32 _ _ _ (Or.inl ⟨((((hq_33.r 0 0 (by decide) (by decide)).trans (hq_15.r 0 0 (by decide) (by decide)))).trans (hv_0_0)), ((((hq_33.r 0 1 (by decide) (by decide)).trans (hq_15.r 0 1 (by decide) (by decide)))).trans (hv_0_1)), ((((hq_33.r 6 4 (by decide) (by decide)).trans (hq_15.r 6 4 (by decide) (by decide)))).trans (hv_6_4)), by omega, by omega, by omega, by omega, by omega, by omega, by omega, by omega, by omega, by omega, by omega, by omega, by omega⟩) hB_G_32 hW hS (lv_sub hl [0, 1, 2, 3] rfl)
  · skip
    refine lv_aload_n hx hb dL_law_584 rfl (lv_at hl 1 rfl) ?_
    refine lv_aload_n hx hb dL_law_585 rfl (lv_at hl 0 rfl) ?_
    refine lv_iload_n hx hb dL_law_586 rfl (lv_at hl 3 rfl) ?_
    refine lv_iconst (v := 1) hx hb dL_law_587 (by decide) ?_
    refine lv_iadd hx hb dL_law_588 ?_
    refine lv_topi (fun y_1 ey_1 => ?_)
    have ty_1 : y_1.toInt = i0.toInt + 1 := xI_add rfl rfl ey_1 (by omega) (by omega)
    refine va_sld hx hb hX hbl hbA hS (vin (by omega) (by omega)) dL_law_589 ?_
    refine lv_topi (fun y_2 ey_2 => ?_)
    have u_3 : y_2.toInt = (xs (i0 + 1).toNatClampNeg).toInt := by rw [ey_2, ey_1]
    refine lv_aload_n hx hb dL_law_590 rfl (lv_at hl 0 rfl) ?_
    refine lv_iload_n hx hb dL_law_591 rfl (lv_at hl 3 rfl) ?_
    refine lv_iconst (v := 2) hx hb dL_law_592 (by decide) ?_
    refine lv_iadd hx hb dL_law_593 ?_
    refine lv_topi (fun y_4 ey_4 => ?_)
    have ty_4 : y_4.toInt = i0.toInt + 2 := xI_add rfl rfl ey_4 (by omega) (by omega)
    refine va_sld hx hb hX hbl hbA hS (vin (by omega) (by omega)) dL_law_594 ?_
    refine lv_topi (fun y_5 ey_5 => ?_)
    have u_6 : y_5.toInt = (xs (i0 + 2).toNatClampNeg).toInt := by rw [ey_5, ey_4]
    refine lv_aload_n hx hb dL_law_595 rfl (lv_at hl 0 rfl) ?_
    refine lv_iload_n hx hb dL_law_596 rfl (lv_at hl 3 rfl) ?_
    refine lv_iconst (v := 3) hx hb dL_law_597 (by decide) ?_
    refine lv_iadd hx hb dL_law_598 ?_
    refine lv_topi (fun y_7 ey_7 => ?_)
    have ty_7 : y_7.toInt = i0.toInt + 3 := xI_add rfl rfl ey_7 (by omega) (by omega)
    refine va_sld hx hb hX hbl hbA hS (vin (by omega) (by omega)) dL_law_599 ?_
    refine lv_topi (fun y_8 ey_8 => ?_)
    have u_9 : y_8.toInt = (xs (i0 + 3).toNatClampNeg).toInt := by rw [ey_8, ey_7]
    refine lv_aload_n hx hb dL_law_600 rfl (lv_at hl 0 rfl) ?_
    refine lv_iload_n hx hb dL_law_601 rfl (lv_at hl 3 rfl) ?_
    refine lv_iconst (v := 4) hx hb dL_law_602 (by decide) ?_
    refine lv_iadd hx hb dL_law_603 ?_
    refine lv_topi (fun y_10 ey_10 => ?_)
    have ty_10 : y_10.toInt = i0.toInt + 4 := xI_add rfl rfl ey_10 (by omega) (by omega)
    refine va_sld hx hb hX hbl hbA hS (vin (by omega) (by omega)) dL_law_604 ?_
    refine lv_topi (fun y_11 ey_11 => ?_)
    have u_12 : y_11.toInt = (xs (i0 + 4).toNatClampNeg).toInt := by rw [ey_11, ey_10]
    refine S_calll (va_runV (As := [.int y_2, .int y_5, .int y_8, .int y_11]) (rest := []) ⟨hx, hb, hml, hown, hts⟩ (k_Wways_2 l D k A a z G y_2 y_5 y_8 y_11 hv_0_0 hv_0_1 hv_6_4) (cwV 4 hts (gd_V hgd m1014 m1015 m1016 m117 m1017) rfl rfl rfl (by decide +kernel) ⟨Nat.le_of_ble_eq_true rfl, Nat.le_of_ble_eq_true rfl⟩) (pre_V hW hB_G hK hZ hS kd_0 rfl) rfl rfl hl.1 rfl (lv_room (Nat.le_of_ble_eq_true rfl)) dL_law_605 ⟨Nat.le_of_ble_eq_true rfl, Nat.le_of_ble_eq_true rfl⟩) hS (fun r_13 G_14 H locs hpo hW hS => ?_)
    have hX_17 : P_Wways_2 y_2 y_5 y_8 y_11 G r_13 G_14 := hpo
    obtain ⟨hB_G_14, hq_15, -⟩ := hpo
    refine lv_pop2_2 hx hb dL_law_608 rfl ?_
    refine lv_aload_n hx hb dL_law_609 rfl (lv_at hl 2 rfl) ?_
    refine lv_aload_n hx hb dL_law_610 rfl (lv_at hl 0 rfl) ?_
    refine lv_iload_n hx hb dL_law_611 rfl (lv_at hl 3 rfl) ?_
    refine lv_iconst (v := 1) hx hb dL_law_612 (by decide) ?_
    refine lv_iadd hx hb dL_law_613 ?_
    refine lv_topi (fun y_18 ey_18 => ?_)
    have ty_18 : y_18.toInt = i0.toInt + 1 := xI_add rfl rfl ey_18 (by omega) (by omega)
    refine va_sld hx hb hX hbl hbA hS (vin (by omega) (by omega)) dL_law_614 ?_
    refine lv_topi (fun y_19 ey_19 => ?_)
    have u_20 : y_19.toInt = (xs (i0 + 1).toNatClampNeg).toInt := by rw [ey_19, ey_18]
    refine lv_aload_n hx hb dL_law_615 rfl (lv_at hl 0 rfl) ?_
    refine lv_iload_n hx hb dL_law_616 rfl (lv_at hl 3 rfl) ?_
    refine lv_iconst (v := 2) hx hb dL_law_617 (by decide) ?_
    refine lv_iadd hx hb dL_law_618 ?_
    refine lv_topi (fun y_21 ey_21 => ?_)
    have ty_21 : y_21.toInt = i0.toInt + 2 := xI_add rfl rfl ey_21 (by omega) (by omega)
    refine va_sld hx hb hX hbl hbA hS (vin (by omega) (by omega)) dL_law_619 ?_
    refine lv_topi (fun y_22 ey_22 => ?_)
    have u_23 : y_22.toInt = (xs (i0 + 2).toNatClampNeg).toInt := by rw [ey_22, ey_21]
    refine lv_aload_n hx hb dL_law_620 rfl (lv_at hl 0 rfl) ?_
    refine lv_iload_n hx hb dL_law_621 rfl (lv_at hl 3 rfl) ?_
    refine lv_iconst (v := 3) hx hb dL_law_622 (by decide) ?_
    refine lv_iadd hx hb dL_law_623 ?_
    refine lv_topi (fun y_24 ey_24 => ?_)
    have ty_24 : y_24.toInt = i0.toInt + 3 := xI_add rfl rfl ey_24 (by omega) (by omega)
    refine va_sld hx hb hX hbl hbA hS (vin (by omega) (by omega)) dL_law_624 ?_
    refine lv_topi (fun y_25 ey_25 => ?_)
    have u_26 : y_25.toInt = (xs (i0 + 3).toNatClampNeg).toInt := by rw [ey_25, ey_24]
    refine lv_aload_n hx hb dL_law_625 rfl (lv_at hl 0 rfl) ?_
    refine lv_iload_n hx hb dL_law_626 rfl (lv_at hl 3 rfl) ?_
    refine lv_iconst (v := 4) hx hb dL_law_627 (by decide) ?_
    refine lv_iadd hx hb dL_law_628 ?_
    refine lv_topi (fun y_27 ey_27 => ?_)
    have ty_27 : y_27.toInt = i0.toInt + 4 := xI_add rfl rfl ey_27 (by omega) (by omega)
    refine va_sld hx hb hX hbl hbA hS (vin (by omega) (by omega)) dL_law_629 ?_
    refine lv_topi (fun y_28 ey_28 => ?_)
    have u_29 : y_28.toInt = (xs (i0 + 4).toNatClampNeg).toInt := by rw [ey_28, ey_27]
    have g_30 : gP G_14 = gP G := gP_fr (rs := [37, 38, 39, 40, 52, 53, 54, 55]) (fs := [(6, 3), (7, 1), (7, 2), (7, 3), (7, 4), (7, 5), (7, 6), (7, 7)]) (Fr.rf.call hq_15 (by decide) (by decide)) (by decide) (by decide)
    refine S_calll (va_runV (As := [.int y_19, .int y_22, .int y_25, .int y_28]) (rest := []) ⟨hx, hb, hml, hown, hts⟩ (n_ways l D k A a z G_14 y_19 y_22 y_25 y_28 (by omega)) (cwV 4 hts (gd_V hgd m1870 m1871 m1872 m131 m1873) rfl rfl rfl (by decide +kernel) ⟨Nat.le_of_ble_eq_true rfl, Nat.le_of_ble_eq_true rfl⟩) (pre_V hW hB_G_14 hK hZ hS kd_66 rfl) rfl rfl hl.1 rfl (lv_room (Nat.le_of_ble_eq_true rfl)) dL_law_630 ⟨Nat.le_of_ble_eq_true rfl, Nat.le_of_ble_eq_true rfl⟩) hS (fun r_31 G_32 H locs hpo hW hS => ?_)
    have hX_35 : Q_ways y_19 y_22 y_25 y_28 G_14 r_31 G_32 := hpo
    obtain ⟨hB_G_32, hq_33, -⟩ := hpo
    have u_36 := L_ways_2 hX_17 hX_35 (by omega) (by omega) (by omega) (by omega) (by omega)
    refine lv_pop2_2 hx hb dL_law_633 rfl ?_
    refine lv_goto (tgt := 1641) hx hb dL_law_634 (by decide) ?_
    have g_37 : gO G_32 = gO G := gO_fr (rs := [37, 38, 39, 40, 52, 53, 54, 55, 76, 97, 98, 101, 102]) (fs := [(6, 3), (7, 1), (7, 2), (7, 3), (7, 4), (7, 5), (7, 6), (7, 7), (66, 59), (66, 60), (66, 61), (66, 62), (66, 63)]) ((Fr.rf.call hq_15 (by decide) (by decide)).call hq_33 (by decide) (by decide)) (by decide) (by decide)
    have g_38 : gP G_32 = gP G := gP_fr (rs := [37, 38, 39, 40, 52, 53, 54, 55, 76, 97, 98, 101, 102]) (fs := [(6, 3), (7, 1), (7, 2), (7, 3), (7, 4), (7, 5), (7, 6), (7, 7), (66, 59), (66, 60), (66, 61), (66, 62), (66, 63)]) ((Fr.rf.call hq_15 (by decide) (by decide)).call hq_33 (by decide) (by decide)) (by decide) (by decide)
    have g_39 : gS G_32 = gS G := gS_fr (rs := [37, 38, 39, 40, 52, 53, 54, 55, 76, 97, 98, 101, 102]) (fs := [(6, 3), (7, 1), (7, 2), (7, 3), (7, 4), (7, 5), (7, 6), (7, 7), (66, 59), (66, 60), (66, 61), (66, 62), (66, 63)]) ((Fr.rf.call hq_15 (by decide) (by decide)).call hq_33 (by decide) (by decide)) (by decide) (by decide)
    have g_40 : gTE G_32 = gTE G := gTE_fr (rs := [37, 38, 39, 40, 52, 53, 54, 55, 76, 97, 98, 101, 102]) (fs := [(6, 3), (7, 1), (7, 2), (7, 3), (7, 4), (7, 5), (7, 6), (7, 7), (66, 59), (66, 60), (66, 61), (66, 62), (66, 63)]) ((Fr.rf.call hq_15 (by decide) (by decide)).call hq_33 (by decide) (by decide)) (by decide) (by decide)
    have g_41 : gW G_32 = gW G := gW_fr (rs := [37, 38, 39, 40, 52, 53, 54, 55, 76, 97, 98, 101, 102]) (fs := [(6, 3), (7, 1), (7, 2), (7, 3), (7, 4), (7, 5), (7, 6), (7, 7), (66, 59), (66, 60), (66, 61), (66, 62), (66, 63)]) ((Fr.rf.call hq_15 (by decide) (by decide)).call hq_33 (by decide) (by decide)) (by decide) (by decide)
    have b_42 : 0 ≤ (G.1 0 11).toInt ∧ (G.1 0 11).toInt ≤ 1600 := hB_G.i 0 11 rfl rfl
    have g_43 : (G_32.1 0 11).toInt = (G.1 0 11).toInt := by rw [show G_32.1 0 11 = (G.1 0 11) from ((hq_33.i 0 11 (by decide) (by decide)).trans (hq_15.i 0 11 (by decide) (by decide)))]
    have b_44 : 0 ≤ (G.1 3 7).toInt ∧ (G.1 3 7).toInt ≤ 4 := hB_G.i 3 7 rfl rfl
    have g_45 : (G_32.1 3 7).toInt = (G.1 3 7).toInt := by rw [show G_32.1 3 7 = (G.1 3 7) from ((hq_33.i 3 7 (by decide) (by decide)).trans (hq_15.i 3 7 (by decide) (by decide)))]
    have b_46 : (-1) ≤ (G.1 3 8).toInt ∧ (G.1 3 8).toInt ≤ 1600 := hB_G.i 3 8 rfl rfl
    have g_47 : (G_32.1 3 8).toInt = (G.1 3 8).toInt := by rw [show G_32.1 3 8 = (G.1 3 8) from ((hq_33.i 3 8 (by decide) (by decide)).trans (hq_15.i 3 8 (by decide) (by decide)))]
    have b_48 : 0 ≤ (G.1 30 4).toInt ∧ (G.1 30 4).toInt ≤ 40 := hB_G.i 30 4 rfl rfl
    have g_49 : (G_32.1 30 4).toInt = (G.1 30 4).toInt := by rw [show G_32.1 30 4 = (G.1 30 4) from ((hq_33.i 30 4 (by decide) (by decide)).trans (hq_15.i 30 4 (by decide) (by decide)))]
    have b_50 : 0 ≤ (G.1 30 5).toInt ∧ (G.1 30 5).toInt ≤ 40 := hB_G.i 30 5 rfl rfl
    have g_51 : (G_32.1 30 5).toInt = (G.1 30 5).toInt := by rw [show G_32.1 30 5 = (G.1 30 5) from ((hq_33.i 30 5 (by decide) (by decide)).trans (hq_15.i 30 5 (by decide) (by decide)))]
    have b_52 : 0 ≤ (G.1 31 6).toInt ∧ (G.1 31 6).toInt ≤ 100000 := hB_G.i 31 6 rfl rfl
    have g_53 : (G_32.1 31 6).toInt = (G.1 31 6).toInt := by rw [show G_32.1 31 6 = (G.1 31 6) from ((hq_33.i 31 6 (by decide) (by decide)).trans (hq_15.i 31 6 (by decide) (by decide)))]
    have b_54 : 0 ≤ (G.1 66 1).toInt ∧ (G.1 66 1).toInt ≤ 1600 := hB_G.i 66 1 rfl rfl
    have g_55 : (G_32.1 66 1).toInt = (G.1 66 1).toInt := by rw [show G_32.1 66 1 = (G.1 66 1) from ((hq_33.i 66 1 (by decide) (by decide)).trans (hq_15.i 66 1 (by decide) (by decide)))]
    have b_56 : 0 ≤ (G.1 66 2).toInt ∧ (G.1 66 2).toInt ≤ 4 := hB_G.i 66 2 rfl rfl
    have g_57 : (G_32.1 66 2).toInt = (G.1 66 2).toInt := by rw [show G_32.1 66 2 = (G.1 66 2) from ((hq_33.i 66 2 (by decide) (by decide)).trans (hq_15.i 66 2 (by decide) (by decide)))]
    have b_58 : (-1) ≤ (G.1 66 3).toInt ∧ (G.1 66 3).toInt ≤ 1600 := hB_G.i 66 3 rfl rfl
    have g_59 : (G_32.1 66 3).toInt = (G.1 66 3).toInt := by rw [show G_32.1 66 3 = (G.1 66 3) from ((hq_33.i 66 3 (by decide) (by decide)).trans (hq_15.i 66 3 (by decide) (by decide)))]
    have b_60 : 0 ≤ (G.1 66 78).toInt ∧ (G.1 66 78).toInt ≤ 40 := hB_G.i 66 78 rfl rfl
    have g_61 : (G_32.1 66 78).toInt = (G.1 66 78).toInt := by rw [show G_32.1 66 78 = (G.1 66 78) from ((hq_33.i 66 78 (by decide) (by decide)).trans (hq_15.i 66 78 (by decide) (by decide)))]
    have b_62 : 0 ≤ (G.1 66 79).toInt ∧ (G.1 66 79).toInt ≤ 40 := hB_G.i 66 79 rfl rfl
    have g_63 : (G_32.1 66 79).toInt = (G.1 66 79).toInt := by rw [show G_32.1 66 79 = (G.1 66 79) from ((hq_33.i 66 79 (by decide) (by decide)).trans (hq_15.i 66 79 (by decide) (by decide)))]
    have b_64 : 0 ≤ (G.1 66 86).toInt ∧ (G.1 66 86).toInt ≤ 100000 := hB_G.i 66 86 rfl rfl
    have g_65 : (G_32.1 66 86).toInt = (G.1 66 86).toInt := by rw [show G_32.1 66 86 = (G.1 66 86) from ((hq_33.i 66 86 (by decide) (by decide)).trans (hq_15.i 66 86 (by decide) (by decide)))]
    have b_66 : 0 ≤ (G.1 96 0).toInt ∧ (G.1 96 0).toInt ≤ 9 := hB_G.i 96 0 rfl rfl
    have g_67 : (G_32.1 96 0).toInt = (G.1 96 0).toInt := by rw [show G_32.1 96 0 = (G.1 96 0) from ((hq_33.i 96 0 (by decide) (by decide)).trans (hq_15.i 96 0 (by decide) (by decide)))]
    have b_68 : 0 ≤ (G.1 96 1).toInt ∧ (G.1 96 1).toInt ≤ 9 := hB_G.i 96 1 rfl rfl
    have g_69 : (G_32.1 96 1).toInt = (G.1 96 1).toInt := by rw [show G_32.1 96 1 = (G.1 96 1) from ((hq_33.i 96 1 (by decide) (by decide)).trans (hq_15.i 96 1 (by decide) (by decide)))]
    have b_70 : 0 ≤ (G.1 96 2).toInt ∧ (G.1 96 2).toInt ≤ 9 := hB_G.i 96 2 rfl rfl
    have g_71 : (G_32.1 96 2).toInt = (G.1 96 2).toInt := by rw [show G_32.1 96 2 = (G.1 96 2) from ((hq_33.i 96 2 (by decide) (by decide)).trans (hq_15.i 96 2 (by decide) (by decide)))]
    exact K G_32 _ _ _ (Or.inr ⟨((((hq_33.r 0 0 (by decide) (by decide)).trans (hq_15.r 0 0 (by decide) (by decide)))).trans (hv_0_0)), ((((hq_33.r 0 1 (by decide) (by decide)).trans (hq_15.r 0 1 (by decide) (by decide)))).trans (hv_0_1)), ((((hq_33.r 6 4 (by decide) (by decide)).trans (hq_15.r 6 4 (by decide) (by decide)))).trans (hv_6_4)), by omega, by omega, by omega, by omega, by omega, by omega, by omega, by omega, by omega, by omega, by omega, by omega, by omega⟩) hB_G_32 hW hS (lv_sub hl [0, 1, 2, 3] rfl)
