theorem m1250 : Cond.methodLink RL 150 yX11_untell ∈ gd := gd_mem 1250 (by decide +kernel) (by decide +kernel)
theorem m1251 : Cond.instanceMethod yX11_untell ∈ gd := gd_mem 1251 (by decide +kernel) (by decide +kernel)
theorem m1252 : Cond.selects RX11 yX11_untell yX11_untell ∈ gd := gd_mem 1252 (by decide +kernel) (by decide +kernel)
theorem m1253 : Cond.code yX11_untell cX11_untell 2 (some .boolean) ∈ gd := gd_mem 1253 (by decide +kernel) (by decide +kernel)
theorem m1258 : Cond.methodLink RL 155 yX11_later ∈ gd := gd_mem 1258 (by decide +kernel) (by decide +kernel)
theorem m1259 : Cond.instanceMethod yX11_later ∈ gd := gd_mem 1259 (by decide +kernel) (by decide +kernel)
theorem m1260 : Cond.selects RX11 yX11_later yX11_later ∈ gd := gd_mem 1260 (by decide +kernel) (by decide +kernel)
theorem m1261 : Cond.code yX11_later cX11_later 2 (some .int) ∈ gd := gd_mem 1261 (by decide +kernel) (by decide +kernel)
theorem m1263 : Cond.methodLink RL 159 yX11_fits ∈ gd := gd_mem 1263 (by decide +kernel) (by decide +kernel)
theorem m1264 : Cond.instanceMethod yX11_fits ∈ gd := gd_mem 1264 (by decide +kernel) (by decide +kernel)
theorem m1265 : Cond.selects RX11 yX11_fits yX11_fits ∈ gd := gd_mem 1265 (by decide +kernel) (by decide +kernel)
theorem m1266 : Cond.code yX11_fits cX11_fits 4 (some .int) ∈ gd := gd_mem 1266 (by decide +kernel) (by decide +kernel)
theorem m1279 : Cond.methodLink RL 163 yX11_chance ∈ gd := gd_mem 1279 (by decide +kernel) (by decide +kernel)
theorem m1280 : Cond.instanceMethod yX11_chance ∈ gd := gd_mem 1280 (by decide +kernel) (by decide +kernel)
theorem m1281 : Cond.selects RX11 yX11_chance yX11_chance ∈ gd := gd_mem 1281 (by decide +kernel) (by decide +kernel)
theorem m1282 : Cond.code yX11_chance cX11_chance 10 (some .long) ∈ gd := gd_mem 1282 (by decide +kernel) (by decide +kernel)
theorem m2043 : Cond.methodLink RL 154 yX12_untell ∈ gd := gd_mem 2043 (by decide +kernel) (by decide +kernel)
theorem m2044 : Cond.instanceMethod yX12_untell ∈ gd := gd_mem 2044 (by decide +kernel) (by decide +kernel)
theorem m2045 : Cond.selects RX12 yX12_untell yX12_untell ∈ gd := gd_mem 2045 (by decide +kernel) (by decide +kernel)
theorem m2046 : Cond.code yX12_untell cX12_untell 2 (some .boolean) ∈ gd := gd_mem 2046 (by decide +kernel) (by decide +kernel)
theorem m2047 : Cond.methodLink RL 158 yX12_later ∈ gd := gd_mem 2047 (by decide +kernel) (by decide +kernel)
theorem m2048 : Cond.instanceMethod yX12_later ∈ gd := gd_mem 2048 (by decide +kernel) (by decide +kernel)
theorem m2049 : Cond.selects RX12 yX12_later yX12_later ∈ gd := gd_mem 2049 (by decide +kernel) (by decide +kernel)
theorem m2050 : Cond.code yX12_later cX12_later 2 (some .int) ∈ gd := gd_mem 2050 (by decide +kernel) (by decide +kernel)
theorem m2051 : Cond.methodLink RL 162 yX12_fits ∈ gd := gd_mem 2051 (by decide +kernel) (by decide +kernel)
theorem m2052 : Cond.instanceMethod yX12_fits ∈ gd := gd_mem 2052 (by decide +kernel) (by decide +kernel)
theorem m2053 : Cond.selects RX12 yX12_fits yX12_fits ∈ gd := gd_mem 2053 (by decide +kernel) (by decide +kernel)
theorem m2054 : Cond.code yX12_fits cX12_fits 6 (some .int) ∈ gd := gd_mem 2054 (by decide +kernel) (by decide +kernel)
theorem m2059 : Cond.methodLink RL 167 yX12_chance ∈ gd := gd_mem 2059 (by decide +kernel) (by decide +kernel)
theorem m2060 : Cond.instanceMethod yX12_chance ∈ gd := gd_mem 2060 (by decide +kernel) (by decide +kernel)
theorem m2061 : Cond.selects RX12 yX12_chance yX12_chance ∈ gd := gd_mem 2061 (by decide +kernel) (by decide +kernel)
theorem m2062 : Cond.code yX12_chance cX12_chance 12 (some .long) ∈ gd := gd_mem 2062 (by decide +kernel) (by decide +kernel)
theorem dL_law_1460 : decode cL_law 1460 = .ok (.aload_n 1, 1) := by decide +kernel
theorem dL_law_1461 : decode cL_law 1461 = .ok (.aload_n 0, 1) := by decide +kernel
theorem dL_law_1462 : decode cL_law 1462 = .ok (.iload_n 3, 1) := by decide +kernel
theorem dL_law_1463 : decode cL_law 1463 = .ok (.iconst 1, 1) := by decide +kernel
theorem dL_law_1464 : decode cL_law 1464 = .ok (.iadd, 1) := by decide +kernel
theorem dL_law_1465 : decode cL_law 1465 = .ok (.iaload, 1) := by decide +kernel
theorem dL_law_1466 : decode cL_law 1466 = .ok (.invokevirtual 150, 3) := by decide +kernel
theorem dL_law_1469 : decode cL_law 1469 = .ok (.pop, 1) := by decide +kernel
theorem dL_law_1470 : decode cL_law 1470 = .ok (.aload_n 2, 1) := by decide +kernel
theorem dL_law_1471 : decode cL_law 1471 = .ok (.aload_n 0, 1) := by decide +kernel
theorem dL_law_1472 : decode cL_law 1472 = .ok (.iload_n 3, 1) := by decide +kernel
theorem dL_law_1473 : decode cL_law 1473 = .ok (.iconst 1, 1) := by decide +kernel
theorem dL_law_1474 : decode cL_law 1474 = .ok (.iadd, 1) := by decide +kernel
theorem dL_law_1475 : decode cL_law 1475 = .ok (.iaload, 1) := by decide +kernel
theorem dL_law_1476 : decode cL_law 1476 = .ok (.invokevirtual 154, 3) := by decide +kernel
theorem dL_law_1479 : decode cL_law 1479 = .ok (.pop, 1) := by decide +kernel
theorem dL_law_1480 : decode cL_law 1480 = .ok (.goto 161, 3) := by decide +kernel
theorem dL_law_1483 : decode cL_law 1483 = .ok (.aload_n 1, 1) := by decide +kernel
theorem dL_law_1484 : decode cL_law 1484 = .ok (.aload_n 0, 1) := by decide +kernel
theorem dL_law_1485 : decode cL_law 1485 = .ok (.iload_n 3, 1) := by decide +kernel
theorem dL_law_1486 : decode cL_law 1486 = .ok (.iconst 1, 1) := by decide +kernel
theorem dL_law_1487 : decode cL_law 1487 = .ok (.iadd, 1) := by decide +kernel
theorem dL_law_1488 : decode cL_law 1488 = .ok (.iaload, 1) := by decide +kernel
theorem dL_law_1489 : decode cL_law 1489 = .ok (.invokevirtual 155, 3) := by decide +kernel
theorem dL_law_1492 : decode cL_law 1492 = .ok (.pop, 1) := by decide +kernel
theorem dL_law_1493 : decode cL_law 1493 = .ok (.aload_n 2, 1) := by decide +kernel
theorem dL_law_1494 : decode cL_law 1494 = .ok (.aload_n 0, 1) := by decide +kernel
theorem dL_law_1495 : decode cL_law 1495 = .ok (.iload_n 3, 1) := by decide +kernel
theorem dL_law_1496 : decode cL_law 1496 = .ok (.iconst 1, 1) := by decide +kernel
theorem dL_law_1497 : decode cL_law 1497 = .ok (.iadd, 1) := by decide +kernel
theorem dL_law_1498 : decode cL_law 1498 = .ok (.iaload, 1) := by decide +kernel
theorem dL_law_1499 : decode cL_law 1499 = .ok (.invokevirtual 158, 3) := by decide +kernel
theorem dL_law_1502 : decode cL_law 1502 = .ok (.pop, 1) := by decide +kernel
theorem dL_law_1503 : decode cL_law 1503 = .ok (.goto 138, 3) := by decide +kernel
theorem dL_law_1506 : decode cL_law 1506 = .ok (.aload_n 1, 1) := by decide +kernel
theorem dL_law_1507 : decode cL_law 1507 = .ok (.aload_n 0, 1) := by decide +kernel
theorem dL_law_1508 : decode cL_law 1508 = .ok (.iload_n 3, 1) := by decide +kernel
theorem dL_law_1509 : decode cL_law 1509 = .ok (.iconst 1, 1) := by decide +kernel
theorem dL_law_1510 : decode cL_law 1510 = .ok (.iadd, 1) := by decide +kernel
theorem dL_law_1511 : decode cL_law 1511 = .ok (.iaload, 1) := by decide +kernel
theorem dL_law_1512 : decode cL_law 1512 = .ok (.invokevirtual 159, 3) := by decide +kernel
theorem dL_law_1515 : decode cL_law 1515 = .ok (.pop, 1) := by decide +kernel
theorem dL_law_1516 : decode cL_law 1516 = .ok (.aload_n 2, 1) := by decide +kernel
theorem dL_law_1517 : decode cL_law 1517 = .ok (.aload_n 0, 1) := by decide +kernel
theorem dL_law_1518 : decode cL_law 1518 = .ok (.iload_n 3, 1) := by decide +kernel
theorem dL_law_1519 : decode cL_law 1519 = .ok (.iconst 1, 1) := by decide +kernel
theorem dL_law_1520 : decode cL_law 1520 = .ok (.iadd, 1) := by decide +kernel
theorem dL_law_1521 : decode cL_law 1521 = .ok (.iaload, 1) := by decide +kernel
theorem dL_law_1522 : decode cL_law 1522 = .ok (.invokevirtual 162, 3) := by decide +kernel
theorem dL_law_1525 : decode cL_law 1525 = .ok (.pop, 1) := by decide +kernel
theorem dL_law_1526 : decode cL_law 1526 = .ok (.goto 115, 3) := by decide +kernel
theorem dL_law_1529 : decode cL_law 1529 = .ok (.aload_n 1, 1) := by decide +kernel
theorem dL_law_1530 : decode cL_law 1530 = .ok (.aload_n 0, 1) := by decide +kernel
theorem dL_law_1531 : decode cL_law 1531 = .ok (.iload_n 3, 1) := by decide +kernel
theorem dL_law_1532 : decode cL_law 1532 = .ok (.iconst 1, 1) := by decide +kernel
theorem dL_law_1533 : decode cL_law 1533 = .ok (.iadd, 1) := by decide +kernel
theorem dL_law_1534 : decode cL_law 1534 = .ok (.iaload, 1) := by decide +kernel
theorem dL_law_1535 : decode cL_law 1535 = .ok (.aload_n 0, 1) := by decide +kernel
theorem dL_law_1536 : decode cL_law 1536 = .ok (.iload_n 3, 1) := by decide +kernel
theorem dL_law_1537 : decode cL_law 1537 = .ok (.iconst 2, 1) := by decide +kernel
theorem dL_law_1538 : decode cL_law 1538 = .ok (.iadd, 1) := by decide +kernel
theorem dL_law_1539 : decode cL_law 1539 = .ok (.iaload, 1) := by decide +kernel
theorem dL_law_1540 : decode cL_law 1540 = .ok (.aload_n 0, 1) := by decide +kernel
theorem dL_law_1541 : decode cL_law 1541 = .ok (.iload_n 3, 1) := by decide +kernel
theorem dL_law_1542 : decode cL_law 1542 = .ok (.iconst 3, 1) := by decide +kernel
theorem dL_law_1543 : decode cL_law 1543 = .ok (.iadd, 1) := by decide +kernel
theorem dL_law_1544 : decode cL_law 1544 = .ok (.iaload, 1) := by decide +kernel
theorem dL_law_1545 : decode cL_law 1545 = .ok (.invokevirtual 163, 3) := by decide +kernel
theorem dL_law_1548 : decode cL_law 1548 = .ok (.pop2, 1) := by decide +kernel
theorem dL_law_1549 : decode cL_law 1549 = .ok (.aload_n 2, 1) := by decide +kernel
theorem dL_law_1550 : decode cL_law 1550 = .ok (.aload_n 0, 1) := by decide +kernel
theorem dL_law_1551 : decode cL_law 1551 = .ok (.iload_n 3, 1) := by decide +kernel
theorem dL_law_1552 : decode cL_law 1552 = .ok (.iconst 1, 1) := by decide +kernel
theorem dL_law_1553 : decode cL_law 1553 = .ok (.iadd, 1) := by decide +kernel
theorem dL_law_1554 : decode cL_law 1554 = .ok (.iaload, 1) := by decide +kernel
theorem dL_law_1555 : decode cL_law 1555 = .ok (.aload_n 0, 1) := by decide +kernel
theorem dL_law_1556 : decode cL_law 1556 = .ok (.iload_n 3, 1) := by decide +kernel
theorem dL_law_1557 : decode cL_law 1557 = .ok (.iconst 2, 1) := by decide +kernel
theorem dL_law_1558 : decode cL_law 1558 = .ok (.iadd, 1) := by decide +kernel
theorem dL_law_1559 : decode cL_law 1559 = .ok (.iaload, 1) := by decide +kernel
theorem dL_law_1560 : decode cL_law 1560 = .ok (.aload_n 0, 1) := by decide +kernel
theorem dL_law_1561 : decode cL_law 1561 = .ok (.iload_n 3, 1) := by decide +kernel
theorem dL_law_1562 : decode cL_law 1562 = .ok (.iconst 3, 1) := by decide +kernel
theorem dL_law_1563 : decode cL_law 1563 = .ok (.iadd, 1) := by decide +kernel
theorem dL_law_1564 : decode cL_law 1564 = .ok (.iaload, 1) := by decide +kernel
theorem dL_law_1565 : decode cL_law 1565 = .ok (.invokevirtual 167, 3) := by decide +kernel
theorem dL_law_1568 : decode cL_law 1568 = .ok (.pop2, 1) := by decide +kernel
theorem dL_law_1569 : decode cL_law 1569 = .ok (.goto 72, 3) := by decide +kernel
set_option maxHeartbeats 4000000 in
set_option maxRecDepth 100000 in
theorem law_32 {p : Program} {l : Launch} {e : Env} {s : State} {m : MethodId} {below : List Frame} {meth : Method} {c : Code} {D : va_G} {k : KT} {A : Nat → Prop} {a : Nat → Nat} {z : SK} {b L : Nat} {xs : Nat → Int32} (hL : L ≤ 3072) (C0 : lw_At p s m meth c b L xs) (hK : cK D k s) (hZ : Sx A z s) (hbA : ¬ A b) {G : GS} {i0 : Int32} (hi0 : 0 ≤ i0.toInt) (hi6 : i0.toInt + 6 ≤ L) (hI : LI G) (hB_G : Bd G) {H : Heap} {locs : List Loc} {ls : Array Slot} (hW : Wd D k A a G H) (hS : va_S A s.heap H locs) (hl : lv_has ls 4 [(0, .ref b), (1, .ref (a 0)), (2, .ref (a 66)), (3, .int i0)]) (K : ∀ (G1 : GS) (H1 : Heap) (locs1 : List Loc) (ls1 : Array Slot), LI G1 → Bd G1 → Wd D k A a G1 H1 → va_S A s.heap H1 locs1 → lv_has ls1 4 [(0, .ref b), (1, .ref (a 0)), (2, .ref (a 66)), (3, .int i0)] → W p l e room_1 s m #[Value.ref b] below meth c H1 locs1 119 46443 (lw_Z below #[Value.ref b] s) (F0 m 1641 ls1 [])) : W p l e room_1 s m #[Value.ref b] below meth c H locs 119 46443 (lw_Z below #[Value.ref b] s) (F0 m 1460 ls []) := by
  obtain ⟨hx, hb, hr, hml, hown, hts, hX, hbl, hlocks, hgv⟩ := id C0
  have hown : s.vm.findClass RL = some m.cls := hown
  have hgd : ∀ w ∈ gd, w ∈ lw_tbl := fun w h => (List.mem_filter.mp h).1
  have hg : ∀ w ∈ gd, w.before #[Value.ref b] s = true := fun w h => hts w (hgd w h)
  rcases hI with ⟨hv_0_0, hv_0_1, hv_6_4, hj0, hj1, hj2, hj3, hj4, hj5, hj6, hj7, hj8, hj9, hj10, hj11⟩ | ⟨hv_0_0, hv_0_1, hv_6_4, hj0, hj1, hj2, hj3, hj4, hj5, hj6, hj7, hj8, hj9, hj10, hj11⟩
  · skip
    refine lv_aload_n hx hb dL_law_1460 rfl (lv_at hl 1 rfl) ?_
    refine lv_aload_n hx hb dL_law_1461 rfl (lv_at hl 0 rfl) ?_
    refine lv_iload_n hx hb dL_law_1462 rfl (lv_at hl 3 rfl) ?_
    refine lv_iconst (v := 1) hx hb dL_law_1463 (by decide) ?_
    refine lv_iadd hx hb dL_law_1464 ?_
    refine lv_topi (fun y_1 ey_1 => ?_)
    have ty_1 : y_1.toInt = i0.toInt + 1 := xI_add rfl rfl ey_1 (by omega) (by omega)
    refine va_sld hx hb hX hbl hbA hS (vin (by omega) (by omega)) dL_law_1465 ?_
    refine lv_topi (fun y_2 ey_2 => ?_)
    have u_3 : y_2.toInt = (xs (i0 + 1).toNatClampNeg).toInt := by rw [ey_2, ey_1]
    refine S_calli (va_runV (As := [.int y_2]) (rest := []) ⟨hx, hb, hml, hown, hts⟩ (k_Wuntell l D k A a z G y_2 ) (cwV 1 hts (gd_V hgd m1250 m1251 m1252 m117 m1253) rfl rfl rfl (by decide +kernel) ⟨Nat.le_of_ble_eq_true rfl, Nat.le_of_ble_eq_true rfl⟩) (pre_V hW hB_G hK hZ hS kd_0 rfl) rfl rfl hl.1 rfl (lv_room (Nat.le_of_ble_eq_true rfl)) dL_law_1466 ⟨Nat.le_of_ble_eq_true rfl, Nat.le_of_ble_eq_true rfl⟩) hS (fun r_4 G_5 H locs hpo hW hS => ?_)
    have hX_8 : P_Wuntell y_2 G r_4 G_5 := hpo
    obtain ⟨hB_G_5, hq_6, f_9, -⟩ := hpo
    refine lv_pop hx hb dL_law_1469 rfl ?_
    refine lv_aload_n hx hb dL_law_1470 rfl (lv_at hl 2 rfl) ?_
    refine lv_aload_n hx hb dL_law_1471 rfl (lv_at hl 0 rfl) ?_
    refine lv_iload_n hx hb dL_law_1472 rfl (lv_at hl 3 rfl) ?_
    refine lv_iconst (v := 1) hx hb dL_law_1473 (by decide) ?_
    refine lv_iadd hx hb dL_law_1474 ?_
    refine lv_topi (fun y_10 ey_10 => ?_)
    have ty_10 : y_10.toInt = i0.toInt + 1 := xI_add rfl rfl ey_10 (by omega) (by omega)
    refine va_sld hx hb hX hbl hbA hS (vin (by omega) (by omega)) dL_law_1475 ?_
    refine lv_topi (fun y_11 ey_11 => ?_)
    have u_12 : y_11.toInt = (xs (i0 + 1).toNatClampNeg).toInt := by rw [ey_11, ey_10]
    refine S_calli (va_runV (As := [.int y_11]) (rest := []) ⟨hx, hb, hml, hown, hts⟩ (n_untell l D k A a z G_5 y_11 ) (cwV 1 hts (gd_V hgd m2043 m2044 m2045 m131 m2046) rfl rfl rfl (by decide +kernel) ⟨Nat.le_of_ble_eq_true rfl, Nat.le_of_ble_eq_true rfl⟩) (pre_V hW hB_G_5 hK hZ hS kd_66 rfl) rfl rfl hl.1 rfl (lv_room (Nat.le_of_ble_eq_true rfl)) dL_law_1476 ⟨Nat.le_of_ble_eq_true rfl, Nat.le_of_ble_eq_true rfl⟩) hS (fun r_13 G_14 H locs hpo hW hS => ?_)
    have hX_17 : Q_untell y_11 G_5 r_13 G_14 := hpo
    obtain ⟨hB_G_14, hq_15, f_18, -⟩ := hpo
    obtain ⟨u_19, u_20⟩ := L_untell_1 hX_8 hX_17 (by omega) (by omega) hB_G (by omega)
    refine lv_pop hx hb dL_law_1479 rfl ?_
    refine lv_goto (tgt := 1641) hx hb dL_law_1480 (by decide) ?_
    have g_21 : gO G_14 = gO G := gO_fr (rs := [65, 116]) (fs := []) ((Fr.rf.call hq_6 (by decide) (by decide)).call hq_15 (by decide) (by decide)) (by decide) (by decide)
    have g_22 : gP G_14 = gP G := gP_fr (rs := [65, 116]) (fs := []) ((Fr.rf.call hq_6 (by decide) (by decide)).call hq_15 (by decide) (by decide)) (by decide) (by decide)
    have g_23 : gS G_14 = gS G := gS_fr (rs := [65, 116]) (fs := []) ((Fr.rf.call hq_6 (by decide) (by decide)).call hq_15 (by decide) (by decide)) (by decide) (by decide)
    have g_24 : gTE G_14 = gTE G := gTE_fr (rs := [65, 116]) (fs := []) ((Fr.rf.call hq_6 (by decide) (by decide)).call hq_15 (by decide) (by decide)) (by decide) (by decide)
    have g_25 : gW G_14 = gW G := gW_fr (rs := [65, 116]) (fs := []) ((Fr.rf.call hq_6 (by decide) (by decide)).call hq_15 (by decide) (by decide)) (by decide) (by decide)
    have b_26 : 0 ≤ (G.1 0 11).toInt ∧ (G.1 0 11).toInt ≤ 1600 := hB_G.i 0 11 rfl rfl
    have g_27 : (G_14.1 0 11).toInt = (G.1 0 11).toInt := by rw [show G_14.1 0 11 = (G.1 0 11) from ((hq_15.i 0 11 (by decide) (by decide)).trans (hq_6.i 0 11 (by decide) (by decide)))]
    have b_28 : 0 ≤ (G.1 3 7).toInt ∧ (G.1 3 7).toInt ≤ 4 := hB_G.i 3 7 rfl rfl
    have g_29 : (G_14.1 3 7).toInt = (G.1 3 7).toInt := by rw [show G_14.1 3 7 = (G.1 3 7) from ((hq_15.i 3 7 (by decide) (by decide)).trans (hq_6.i 3 7 (by decide) (by decide)))]
    have b_30 : (-1) ≤ (G.1 3 8).toInt ∧ (G.1 3 8).toInt ≤ 1600 := hB_G.i 3 8 rfl rfl
    have g_31 : (G_14.1 3 8).toInt = (G.1 3 8).toInt := by rw [show G_14.1 3 8 = (G.1 3 8) from ((hq_15.i 3 8 (by decide) (by decide)).trans (hq_6.i 3 8 (by decide) (by decide)))]
    have b_32 : 0 ≤ (G.1 30 4).toInt ∧ (G.1 30 4).toInt ≤ 40 := hB_G.i 30 4 rfl rfl
    have g_33 : (G_14.1 30 4).toInt = (G.1 30 4).toInt := by rw [show G_14.1 30 4 = (G.1 30 4) from ((hq_15.i 30 4 (by decide) (by decide)).trans (hq_6.i 30 4 (by decide) (by decide)))]
    have b_34 : 0 ≤ (G.1 30 5).toInt ∧ (G.1 30 5).toInt ≤ 40 := hB_G.i 30 5 rfl rfl
    have g_35 : (G_14.1 30 5).toInt = (G.1 30 5).toInt := by rw [show G_14.1 30 5 = (G.1 30 5) from ((hq_15.i 30 5 (by decide) (by decide)).trans (hq_6.i 30 5 (by decide) (by decide)))]
    have b_36 : 0 ≤ (G.1 31 6).toInt ∧ (G.1 31 6).toInt ≤ 100000 := hB_G.i 31 6 rfl rfl
    have g_37 : (G_14.1 31 6).toInt = (G.1 31 6).toInt := by rw [show G_14.1 31 6 = (G.1 31 6) from ((hq_15.i 31 6 (by decide) (by decide)).trans (hq_6.i 31 6 (by decide) (by decide)))]
    have b_38 : 0 ≤ (G.1 66 1).toInt ∧ (G.1 66 1).toInt ≤ 1600 := hB_G.i 66 1 rfl rfl
    have g_39 : (G_14.1 66 1).toInt = (G.1 66 1).toInt := by rw [show G_14.1 66 1 = (G.1 66 1) from ((hq_15.i 66 1 (by decide) (by decide)).trans (hq_6.i 66 1 (by decide) (by decide)))]
    have b_40 : 0 ≤ (G.1 66 2).toInt ∧ (G.1 66 2).toInt ≤ 4 := hB_G.i 66 2 rfl rfl
    have g_41 : (G_14.1 66 2).toInt = (G.1 66 2).toInt := by rw [show G_14.1 66 2 = (G.1 66 2) from ((hq_15.i 66 2 (by decide) (by decide)).trans (hq_6.i 66 2 (by decide) (by decide)))]
    have b_42 : (-1) ≤ (G.1 66 3).toInt ∧ (G.1 66 3).toInt ≤ 1600 := hB_G.i 66 3 rfl rfl
    have g_43 : (G_14.1 66 3).toInt = (G.1 66 3).toInt := by rw [show G_14.1 66 3 = (G.1 66 3) from ((hq_15.i 66 3 (by decide) (by decide)).trans (hq_6.i 66 3 (by decide) (by decide)))]
    have b_44 : 0 ≤ (G.1 66 78).toInt ∧ (G.1 66 78).toInt ≤ 40 := hB_G.i 66 78 rfl rfl
    have g_45 : (G_14.1 66 78).toInt = (G.1 66 78).toInt := by rw [show G_14.1 66 78 = (G.1 66 78) from ((hq_15.i 66 78 (by decide) (by decide)).trans (hq_6.i 66 78 (by decide) (by decide)))]
    have b_46 : 0 ≤ (G.1 66 79).toInt ∧ (G.1 66 79).toInt ≤ 40 := hB_G.i 66 79 rfl rfl
    have g_47 : (G_14.1 66 79).toInt = (G.1 66 79).toInt := by rw [show G_14.1 66 79 = (G.1 66 79) from ((hq_15.i 66 79 (by decide) (by decide)).trans (hq_6.i 66 79 (by decide) (by decide)))]
    have b_48 : 0 ≤ (G.1 66 86).toInt ∧ (G.1 66 86).toInt ≤ 100000 := hB_G.i 66 86 rfl rfl
    have g_49 : (G_14.1 66 86).toInt = (G.1 66 86).toInt := by rw [show G_14.1 66 86 = (G.1 66 86) from ((hq_15.i 66 86 (by decide) (by decide)).trans (hq_6.i 66 86 (by decide) (by decide)))]
    have b_50 : 0 ≤ (G.1 96 0).toInt ∧ (G.1 96 0).toInt ≤ 9 := hB_G.i 96 0 rfl rfl
    have g_51 : (G_14.1 96 0).toInt = (G.1 96 0).toInt := by rw [show G_14.1 96 0 = (G.1 96 0) from ((hq_15.i 96 0 (by decide) (by decide)).trans (hq_6.i 96 0 (by decide) (by decide)))]
    have b_52 : 0 ≤ (G.1 96 1).toInt ∧ (G.1 96 1).toInt ≤ 9 := hB_G.i 96 1 rfl rfl
    have g_53 : (G_14.1 96 1).toInt = (G.1 96 1).toInt := by rw [show G_14.1 96 1 = (G.1 96 1) from ((hq_15.i 96 1 (by decide) (by decide)).trans (hq_6.i 96 1 (by decide) (by decide)))]
    have b_54 : 0 ≤ (G.1 96 2).toInt ∧ (G.1 96 2).toInt ≤ 9 := hB_G.i 96 2 rfl rfl
    have g_55 : (G_14.1 96 2).toInt = (G.1 96 2).toInt := by rw [show G_14.1 96 2 = (G.1 96 2) from ((hq_15.i 96 2 (by decide) (by decide)).trans (hq_6.i 96 2 (by decide) (by decide)))]
    exact K G_14 _ _ _ (Or.inl ⟨((((hq_15.r 0 0 (by decide) (by decide)).trans (hq_6.r 0 0 (by decide) (by decide)))).trans (hv_0_0)), ((((hq_15.r 0 1 (by decide) (by decide)).trans (hq_6.r 0 1 (by decide) (by decide)))).trans (hv_0_1)), ((((hq_15.r 6 4 (by decide) (by decide)).trans (hq_6.r 6 4 (by decide) (by decide)))).trans (hv_6_4)), by omega, by omega, by omega, by omega, by omega, by omega, by omega, by omega, by omega, by omega, by omega, by omega, by omega⟩) hB_G_14 hW hS (lv_sub hl [0, 1, 2, 3] rfl)
  · skip
    refine lv_aload_n hx hb dL_law_1460 rfl (lv_at hl 1 rfl) ?_
    refine lv_aload_n hx hb dL_law_1461 rfl (lv_at hl 0 rfl) ?_
    refine lv_iload_n hx hb dL_law_1462 rfl (lv_at hl 3 rfl) ?_
    refine lv_iconst (v := 1) hx hb dL_law_1463 (by decide) ?_
    refine lv_iadd hx hb dL_law_1464 ?_
    refine lv_topi (fun y_1 ey_1 => ?_)
    have ty_1 : y_1.toInt = i0.toInt + 1 := xI_add rfl rfl ey_1 (by omega) (by omega)
    refine va_sld hx hb hX hbl hbA hS (vin (by omega) (by omega)) dL_law_1465 ?_
    refine lv_topi (fun y_2 ey_2 => ?_)
    have u_3 : y_2.toInt = (xs (i0 + 1).toNatClampNeg).toInt := by rw [ey_2, ey_1]
    refine S_calli (va_runV (As := [.int y_2]) (rest := []) ⟨hx, hb, hml, hown, hts⟩ (k_Wuntell l D k A a z G y_2 ) (cwV 1 hts (gd_V hgd m1250 m1251 m1252 m117 m1253) rfl rfl rfl (by decide +kernel) ⟨Nat.le_of_ble_eq_true rfl, Nat.le_of_ble_eq_true rfl⟩) (pre_V hW hB_G hK hZ hS kd_0 rfl) rfl rfl hl.1 rfl (lv_room (Nat.le_of_ble_eq_true rfl)) dL_law_1466 ⟨Nat.le_of_ble_eq_true rfl, Nat.le_of_ble_eq_true rfl⟩) hS (fun r_4 G_5 H locs hpo hW hS => ?_)
    have hX_8 : P_Wuntell y_2 G r_4 G_5 := hpo
    obtain ⟨hB_G_5, hq_6, f_9, -⟩ := hpo
    refine lv_pop hx hb dL_law_1469 rfl ?_
    refine lv_aload_n hx hb dL_law_1470 rfl (lv_at hl 2 rfl) ?_
    refine lv_aload_n hx hb dL_law_1471 rfl (lv_at hl 0 rfl) ?_
    refine lv_iload_n hx hb dL_law_1472 rfl (lv_at hl 3 rfl) ?_
    refine lv_iconst (v := 1) hx hb dL_law_1473 (by decide) ?_
    refine lv_iadd hx hb dL_law_1474 ?_
    refine lv_topi (fun y_10 ey_10 => ?_)
    have ty_10 : y_10.toInt = i0.toInt + 1 := xI_add rfl rfl ey_10 (by omega) (by omega)
    refine va_sld hx hb hX hbl hbA hS (vin (by omega) (by omega)) dL_law_1475 ?_
    refine lv_topi (fun y_11 ey_11 => ?_)
    have u_12 : y_11.toInt = (xs (i0 + 1).toNatClampNeg).toInt := by rw [ey_11, ey_10]
    refine S_calli (va_runV (As := [.int y_11]) (rest := []) ⟨hx, hb, hml, hown, hts⟩ (n_untell l D k A a z G_5 y_11 ) (cwV 1 hts (gd_V hgd m2043 m2044 m2045 m131 m2046) rfl rfl rfl (by decide +kernel) ⟨Nat.le_of_ble_eq_true rfl, Nat.le_of_ble_eq_true rfl⟩) (pre_V hW hB_G_5 hK hZ hS kd_66 rfl) rfl rfl hl.1 rfl (lv_room (Nat.le_of_ble_eq_true rfl)) dL_law_1476 ⟨Nat.le_of_ble_eq_true rfl, Nat.le_of_ble_eq_true rfl⟩) hS (fun r_13 G_14 H locs hpo hW hS => ?_)
    have hX_17 : Q_untell y_11 G_5 r_13 G_14 := hpo
    obtain ⟨hB_G_14, hq_15, f_18, -⟩ := hpo
    obtain ⟨u_19, u_20⟩ := L_untell_2 hX_8 hX_17 (by omega) (by omega) hB_G (by omega)
    refine lv_pop hx hb dL_law_1479 rfl ?_
    refine lv_goto (tgt := 1641) hx hb dL_law_1480 (by decide) ?_
    have g_21 : gO G_14 = gO G := gO_fr (rs := [65, 116]) (fs := []) ((Fr.rf.call hq_6 (by decide) (by decide)).call hq_15 (by decide) (by decide)) (by decide) (by decide)
    have g_22 : gP G_14 = gP G := gP_fr (rs := [65, 116]) (fs := []) ((Fr.rf.call hq_6 (by decide) (by decide)).call hq_15 (by decide) (by decide)) (by decide) (by decide)
    have g_23 : gS G_14 = gS G := gS_fr (rs := [65, 116]) (fs := []) ((Fr.rf.call hq_6 (by decide) (by decide)).call hq_15 (by decide) (by decide)) (by decide) (by decide)
    have g_24 : gTE G_14 = gTE G := gTE_fr (rs := [65, 116]) (fs := []) ((Fr.rf.call hq_6 (by decide) (by decide)).call hq_15 (by decide) (by decide)) (by decide) (by decide)
    have g_25 : gW G_14 = gW G := gW_fr (rs := [65, 116]) (fs := []) ((Fr.rf.call hq_6 (by decide) (by decide)).call hq_15 (by decide) (by decide)) (by decide) (by decide)
    have b_26 : 0 ≤ (G.1 0 11).toInt ∧ (G.1 0 11).toInt ≤ 1600 := hB_G.i 0 11 rfl rfl
    have g_27 : (G_14.1 0 11).toInt = (G.1 0 11).toInt := by rw [show G_14.1 0 11 = (G.1 0 11) from ((hq_15.i 0 11 (by decide) (by decide)).trans (hq_6.i 0 11 (by decide) (by decide)))]
    have b_28 : 0 ≤ (G.1 3 7).toInt ∧ (G.1 3 7).toInt ≤ 4 := hB_G.i 3 7 rfl rfl
    have g_29 : (G_14.1 3 7).toInt = (G.1 3 7).toInt := by rw [show G_14.1 3 7 = (G.1 3 7) from ((hq_15.i 3 7 (by decide) (by decide)).trans (hq_6.i 3 7 (by decide) (by decide)))]
    have b_30 : (-1) ≤ (G.1 3 8).toInt ∧ (G.1 3 8).toInt ≤ 1600 := hB_G.i 3 8 rfl rfl
    have g_31 : (G_14.1 3 8).toInt = (G.1 3 8).toInt := by rw [show G_14.1 3 8 = (G.1 3 8) from ((hq_15.i 3 8 (by decide) (by decide)).trans (hq_6.i 3 8 (by decide) (by decide)))]
    have b_32 : 0 ≤ (G.1 30 4).toInt ∧ (G.1 30 4).toInt ≤ 40 := hB_G.i 30 4 rfl rfl
    have g_33 : (G_14.1 30 4).toInt = (G.1 30 4).toInt := by rw [show G_14.1 30 4 = (G.1 30 4) from ((hq_15.i 30 4 (by decide) (by decide)).trans (hq_6.i 30 4 (by decide) (by decide)))]
    have b_34 : 0 ≤ (G.1 30 5).toInt ∧ (G.1 30 5).toInt ≤ 40 := hB_G.i 30 5 rfl rfl
    have g_35 : (G_14.1 30 5).toInt = (G.1 30 5).toInt := by rw [show G_14.1 30 5 = (G.1 30 5) from ((hq_15.i 30 5 (by decide) (by decide)).trans (hq_6.i 30 5 (by decide) (by decide)))]
    have b_36 : 0 ≤ (G.1 31 6).toInt ∧ (G.1 31 6).toInt ≤ 100000 := hB_G.i 31 6 rfl rfl
    have g_37 : (G_14.1 31 6).toInt = (G.1 31 6).toInt := by rw [show G_14.1 31 6 = (G.1 31 6) from ((hq_15.i 31 6 (by decide) (by decide)).trans (hq_6.i 31 6 (by decide) (by decide)))]
    have b_38 : 0 ≤ (G.1 66 1).toInt ∧ (G.1 66 1).toInt ≤ 1600 := hB_G.i 66 1 rfl rfl
    have g_39 : (G_14.1 66 1).toInt = (G.1 66 1).toInt := by rw [show G_14.1 66 1 = (G.1 66 1) from ((hq_15.i 66 1 (by decide) (by decide)).trans (hq_6.i 66 1 (by decide) (by decide)))]
    have b_40 : 0 ≤ (G.1 66 2).toInt ∧ (G.1 66 2).toInt ≤ 4 := hB_G.i 66 2 rfl rfl
    have g_41 : (G_14.1 66 2).toInt = (G.1 66 2).toInt := by rw [show G_14.1 66 2 = (G.1 66 2) from ((hq_15.i 66 2 (by decide) (by decide)).trans (hq_6.i 66 2 (by decide) (by decide)))]
    have b_42 : (-1) ≤ (G.1 66 3).toInt ∧ (G.1 66 3).toInt ≤ 1600 := hB_G.i 66 3 rfl rfl
    have g_43 : (G_14.1 66 3).toInt = (G.1 66 3).toInt := by rw [show G_14.1 66 3 = (G.1 66 3) from ((hq_15.i 66 3 (by decide) (by decide)).trans (hq_6.i 66 3 (by decide) (by decide)))]
    have b_44 : 0 ≤ (G.1 66 78).toInt ∧ (G.1 66 78).toInt ≤ 40 := hB_G.i 66 78 rfl rfl
    have g_45 : (G_14.1 66 78).toInt = (G.1 66 78).toInt := by rw [show G_14.1 66 78 = (G.1 66 78) from ((hq_15.i 66 78 (by decide) (by decide)).trans (hq_6.i 66 78 (by decide) (by decide)))]
    have b_46 : 0 ≤ (G.1 66 79).toInt ∧ (G.1 66 79).toInt ≤ 40 := hB_G.i 66 79 rfl rfl
    have g_47 : (G_14.1 66 79).toInt = (G.1 66 79).toInt := by rw [show G_14.1 66 79 = (G.1 66 79) from ((hq_15.i 66 79 (by decide) (by decide)).trans (hq_6.i 66 79 (by decide) (by decide)))]
    have b_48 : 0 ≤ (G.1 66 86).toInt ∧ (G.1 66 86).toInt ≤ 100000 := hB_G.i 66 86 rfl rfl
    have g_49 : (G_14.1 66 86).toInt = (G.1 66 86).toInt := by rw [show G_14.1 66 86 = (G.1 66 86) from ((hq_15.i 66 86 (by decide) (by decide)).trans (hq_6.i 66 86 (by decide) (by decide)))]
    have b_50 : 0 ≤ (G.1 96 0).toInt ∧ (G.1 96 0).toInt ≤ 9 := hB_G.i 96 0 rfl rfl
    have g_51 : (G_14.1 96 0).toInt = (G.1 96 0).toInt := by rw [show G_14.1 96 0 = (G.1 96 0) from ((hq_15.i 96 0 (by decide) (by decide)).trans (hq_6.i 96 0 (by decide) (by decide)))]
    have b_52 : 0 ≤ (G.1 96 1).toInt ∧ (G.1 96 1).toInt ≤ 9 := hB_G.i 96 1 rfl rfl
    have g_53 : (G_14.1 96 1).toInt = (G.1 96 1).toInt := by rw [show G_14.1 96 1 = (G.1 96 1) from ((hq_15.i 96 1 (by decide) (by decide)).trans (hq_6.i 96 1 (by decide) (by decide)))]
    have b_54 : 0 ≤ (G.1 96 2).toInt ∧ (G.1 96 2).toInt ≤ 9 := hB_G.i 96 2 rfl rfl
    have g_55 : (G_14.1 96 2).toInt = (G.1 96 2).toInt := by rw [show G_14.1 96 2 = (G.1 96 2) from ((hq_15.i 96 2 (by decide) (by decide)).trans (hq_6.i 96 2 (by decide) (by decide)))]
    exact K G_14 _ _ _ (Or.inr ⟨((((hq_15.r 0 0 (by decide) (by decide)).trans (hq_6.r 0 0 (by decide) (by decide)))).trans (hv_0_0)), ((((hq_15.r 0 1 (by decide) (by decide)).trans (hq_6.r 0 1 (by decide) (by decide)))).trans (hv_0_1)), ((((hq_15.r 6 4 (by decide) (by decide)).trans (hq_6.r 6 4 (by decide) (by decide)))).trans (hv_6_4)), by omega, by omega, by omega, by omega, by omega, by omega, by omega, by omega, by omega, by omega, by omega, by omega, by omega⟩) hB_G_14 hW hS (lv_sub hl [0, 1, 2, 3] rfl)

set_option maxHeartbeats 4000000 in
set_option maxRecDepth 100000 in
theorem law_33 {p : Program} {l : Launch} {e : Env} {s : State} {m : MethodId} {below : List Frame} {meth : Method} {c : Code} {D : va_G} {k : KT} {A : Nat → Prop} {a : Nat → Nat} {z : SK} {b L : Nat} {xs : Nat → Int32} (hL : L ≤ 3072) (C0 : lw_At p s m meth c b L xs) (hK : cK D k s) (hZ : Sx A z s) (hbA : ¬ A b) {G : GS} {i0 : Int32} (hi0 : 0 ≤ i0.toInt) (hi6 : i0.toInt + 6 ≤ L) (hI : LI G) (hB_G : Bd G) {H : Heap} {locs : List Loc} {ls : Array Slot} (hW : Wd D k A a G H) (hS : va_S A s.heap H locs) (hl : lv_has ls 4 [(0, .ref b), (1, .ref (a 0)), (2, .ref (a 66)), (3, .int i0)]) (K : ∀ (G1 : GS) (H1 : Heap) (locs1 : List Loc) (ls1 : Array Slot), LI G1 → Bd G1 → Wd D k A a G1 H1 → va_S A s.heap H1 locs1 → lv_has ls1 4 [(0, .ref b), (1, .ref (a 0)), (2, .ref (a 66)), (3, .int i0)] → W p l e room_1 s m #[Value.ref b] below meth c H1 locs1 119 46443 (lw_Z below #[Value.ref b] s) (F0 m 1641 ls1 [])) : W p l e room_1 s m #[Value.ref b] below meth c H locs 119 46443 (lw_Z below #[Value.ref b] s) (F0 m 1483 ls []) := by
  obtain ⟨hx, hb, hr, hml, hown, hts, hX, hbl, hlocks, hgv⟩ := id C0
  have hown : s.vm.findClass RL = some m.cls := hown
  have hgd : ∀ w ∈ gd, w ∈ lw_tbl := fun w h => (List.mem_filter.mp h).1
  have hg : ∀ w ∈ gd, w.before #[Value.ref b] s = true := fun w h => hts w (hgd w h)
  rcases hI with ⟨hv_0_0, hv_0_1, hv_6_4, hj0, hj1, hj2, hj3, hj4, hj5, hj6, hj7, hj8, hj9, hj10, hj11⟩ | ⟨hv_0_0, hv_0_1, hv_6_4, hj0, hj1, hj2, hj3, hj4, hj5, hj6, hj7, hj8, hj9, hj10, hj11⟩
  · skip
    refine lv_aload_n hx hb dL_law_1483 rfl (lv_at hl 1 rfl) ?_
    refine lv_aload_n hx hb dL_law_1484 rfl (lv_at hl 0 rfl) ?_
    refine lv_iload_n hx hb dL_law_1485 rfl (lv_at hl 3 rfl) ?_
    refine lv_iconst (v := 1) hx hb dL_law_1486 (by decide) ?_
    refine lv_iadd hx hb dL_law_1487 ?_
    refine lv_topi (fun y_1 ey_1 => ?_)
    have ty_1 : y_1.toInt = i0.toInt + 1 := xI_add rfl rfl ey_1 (by omega) (by omega)
    refine va_sld hx hb hX hbl hbA hS (vin (by omega) (by omega)) dL_law_1488 ?_
    refine lv_topi (fun y_2 ey_2 => ?_)
    have u_3 : y_2.toInt = (xs (i0 + 1).toNatClampNeg).toInt := by rw [ey_2, ey_1]
    refine S_calli (va_runV (As := [.int y_2]) (rest := []) ⟨hx, hb, hml, hown, hts⟩ (k_Wlater l D k A a z G y_2 ) (cwV 1 hts (gd_V hgd m1258 m1259 m1260 m117 m1261) rfl rfl rfl (by decide +kernel) ⟨Nat.le_of_ble_eq_true rfl, Nat.le_of_ble_eq_true rfl⟩) (pre_V hW hB_G hK hZ hS kd_0 rfl) rfl rfl hl.1 rfl (lv_room (Nat.le_of_ble_eq_true rfl)) dL_law_1489 ⟨Nat.le_of_ble_eq_true rfl, Nat.le_of_ble_eq_true rfl⟩) hS (fun r_4 G_5 H locs hpo hW hS => ?_)
    have hX_8 : P_Wlater y_2 G r_4 G_5 := hpo
    obtain ⟨hB_G_5, hq_6, hp_7, -⟩ := hpo
    refine lv_pop hx hb dL_law_1492 rfl ?_
    refine lv_aload_n hx hb dL_law_1493 rfl (lv_at hl 2 rfl) ?_
    refine lv_aload_n hx hb dL_law_1494 rfl (lv_at hl 0 rfl) ?_
    refine lv_iload_n hx hb dL_law_1495 rfl (lv_at hl 3 rfl) ?_
    refine lv_iconst (v := 1) hx hb dL_law_1496 (by decide) ?_
    refine lv_iadd hx hb dL_law_1497 ?_
    refine lv_topi (fun y_9 ey_9 => ?_)
    have ty_9 : y_9.toInt = i0.toInt + 1 := xI_add rfl rfl ey_9 (by omega) (by omega)
    refine va_sld hx hb hX hbl hbA hS (vin (by omega) (by omega)) dL_law_1498 ?_
    refine lv_topi (fun y_10 ey_10 => ?_)
    have u_11 : y_10.toInt = (xs (i0 + 1).toNatClampNeg).toInt := by rw [ey_10, ey_9]
    have b_12 : 0 ≤ (G.1 66 86).toInt ∧ (G.1 66 86).toInt ≤ 100000 := hB_G.i 66 86 rfl rfl
    have g_13 : (G_5.1 66 86).toInt = (G.1 66 86).toInt := by rw [show G_5.1 66 86 = (G.1 66 86) from (hq_6.i 66 86 (by decide) (by decide))]
    refine S_calli (va_runV (As := [.int y_10]) (rest := []) ⟨hx, hb, hml, hown, hts⟩ (n_later l D k A a z G_5 y_10 ) (cwV 1 hts (gd_V hgd m2047 m2048 m2049 m131 m2050) rfl rfl rfl (by decide +kernel) ⟨Nat.le_of_ble_eq_true rfl, Nat.le_of_ble_eq_true rfl⟩) (pre_V hW hB_G_5 hK hZ hS kd_66 rfl) rfl rfl hl.1 rfl (lv_room (Nat.le_of_ble_eq_true rfl)) dL_law_1499 ⟨Nat.le_of_ble_eq_true rfl, Nat.le_of_ble_eq_true rfl⟩) hS (fun r_14 G_15 H locs hpo hW hS => ?_)
    have hX_18 : Q_later y_10 G_5 r_14 G_15 := hpo
    obtain ⟨hB_G_15, hq_16, hp_17, -⟩ := hpo
    refine lv_pop hx hb dL_law_1502 rfl ?_
    refine lv_goto (tgt := 1641) hx hb dL_law_1503 (by decide) ?_
    have g_19 : gIA G_15 = gIA G := gIA_fr (rs := []) (fs := [(31, 6), (66, 86)]) ((Fr.rf.call hq_6 (by decide) (by decide)).call hq_16 (by decide) (by decide)) (by decide) (by decide)
    have g_20 : gO G_15 = gO G := gO_fr (rs := []) (fs := [(31, 6), (66, 86)]) ((Fr.rf.call hq_6 (by decide) (by decide)).call hq_16 (by decide) (by decide)) (by decide) (by decide)
    have g_21 : gP G_15 = gP G := gP_fr (rs := []) (fs := [(31, 6), (66, 86)]) ((Fr.rf.call hq_6 (by decide) (by decide)).call hq_16 (by decide) (by decide)) (by decide) (by decide)
    have g_22 : gS G_15 = gS G := gS_fr (rs := []) (fs := [(31, 6), (66, 86)]) ((Fr.rf.call hq_6 (by decide) (by decide)).call hq_16 (by decide) (by decide)) (by decide) (by decide)
    have g_23 : gTE G_15 = gTE G := gTE_fr (rs := []) (fs := [(31, 6), (66, 86)]) ((Fr.rf.call hq_6 (by decide) (by decide)).call hq_16 (by decide) (by decide)) (by decide) (by decide)
    have g_24 : gW G_15 = gW G := gW_fr (rs := []) (fs := [(31, 6), (66, 86)]) ((Fr.rf.call hq_6 (by decide) (by decide)).call hq_16 (by decide) (by decide)) (by decide) (by decide)
    have b_25 : 0 ≤ (G.1 0 11).toInt ∧ (G.1 0 11).toInt ≤ 1600 := hB_G.i 0 11 rfl rfl
    have g_26 : (G_15.1 0 11).toInt = (G.1 0 11).toInt := by rw [show G_15.1 0 11 = (G.1 0 11) from ((hq_16.i 0 11 (by decide) (by decide)).trans (hq_6.i 0 11 (by decide) (by decide)))]
    have b_27 : 0 ≤ (G.1 3 7).toInt ∧ (G.1 3 7).toInt ≤ 4 := hB_G.i 3 7 rfl rfl
    have g_28 : (G_15.1 3 7).toInt = (G.1 3 7).toInt := by rw [show G_15.1 3 7 = (G.1 3 7) from ((hq_16.i 3 7 (by decide) (by decide)).trans (hq_6.i 3 7 (by decide) (by decide)))]
    have b_29 : (-1) ≤ (G.1 3 8).toInt ∧ (G.1 3 8).toInt ≤ 1600 := hB_G.i 3 8 rfl rfl
    have g_30 : (G_15.1 3 8).toInt = (G.1 3 8).toInt := by rw [show G_15.1 3 8 = (G.1 3 8) from ((hq_16.i 3 8 (by decide) (by decide)).trans (hq_6.i 3 8 (by decide) (by decide)))]
    have b_31 : 0 ≤ (G.1 30 4).toInt ∧ (G.1 30 4).toInt ≤ 40 := hB_G.i 30 4 rfl rfl
    have g_32 : (G_15.1 30 4).toInt = (G.1 30 4).toInt := by rw [show G_15.1 30 4 = (G.1 30 4) from ((hq_16.i 30 4 (by decide) (by decide)).trans (hq_6.i 30 4 (by decide) (by decide)))]
    have b_33 : 0 ≤ (G.1 30 5).toInt ∧ (G.1 30 5).toInt ≤ 40 := hB_G.i 30 5 rfl rfl
    have g_34 : (G_15.1 30 5).toInt = (G.1 30 5).toInt := by rw [show G_15.1 30 5 = (G.1 30 5) from ((hq_16.i 30 5 (by decide) (by decide)).trans (hq_6.i 30 5 (by decide) (by decide)))]
    have b_35 : 0 ≤ (G_5.1 31 6).toInt ∧ (G_5.1 31 6).toInt ≤ 100000 := hB_G_5.i 31 6 rfl rfl
    have g_36 : (G_15.1 31 6).toInt = (G_5.1 31 6).toInt := by rw [show G_15.1 31 6 = (G_5.1 31 6) from (hq_16.i 31 6 (by decide) (by decide))]
    have b_37 : 0 ≤ (G.1 66 1).toInt ∧ (G.1 66 1).toInt ≤ 1600 := hB_G.i 66 1 rfl rfl
    have g_38 : (G_15.1 66 1).toInt = (G.1 66 1).toInt := by rw [show G_15.1 66 1 = (G.1 66 1) from ((hq_16.i 66 1 (by decide) (by decide)).trans (hq_6.i 66 1 (by decide) (by decide)))]
    have b_39 : 0 ≤ (G.1 66 2).toInt ∧ (G.1 66 2).toInt ≤ 4 := hB_G.i 66 2 rfl rfl
    have g_40 : (G_15.1 66 2).toInt = (G.1 66 2).toInt := by rw [show G_15.1 66 2 = (G.1 66 2) from ((hq_16.i 66 2 (by decide) (by decide)).trans (hq_6.i 66 2 (by decide) (by decide)))]
    have b_41 : (-1) ≤ (G.1 66 3).toInt ∧ (G.1 66 3).toInt ≤ 1600 := hB_G.i 66 3 rfl rfl
    have g_42 : (G_15.1 66 3).toInt = (G.1 66 3).toInt := by rw [show G_15.1 66 3 = (G.1 66 3) from ((hq_16.i 66 3 (by decide) (by decide)).trans (hq_6.i 66 3 (by decide) (by decide)))]
    have b_43 : 0 ≤ (G.1 66 78).toInt ∧ (G.1 66 78).toInt ≤ 40 := hB_G.i 66 78 rfl rfl
    have g_44 : (G_15.1 66 78).toInt = (G.1 66 78).toInt := by rw [show G_15.1 66 78 = (G.1 66 78) from ((hq_16.i 66 78 (by decide) (by decide)).trans (hq_6.i 66 78 (by decide) (by decide)))]
    have b_45 : 0 ≤ (G.1 66 79).toInt ∧ (G.1 66 79).toInt ≤ 40 := hB_G.i 66 79 rfl rfl
    have g_46 : (G_15.1 66 79).toInt = (G.1 66 79).toInt := by rw [show G_15.1 66 79 = (G.1 66 79) from ((hq_16.i 66 79 (by decide) (by decide)).trans (hq_6.i 66 79 (by decide) (by decide)))]
    have b_47 : 0 ≤ (G_15.1 66 86).toInt ∧ (G_15.1 66 86).toInt ≤ 100000 := hB_G_15.i 66 86 rfl rfl
    have b_48 : 0 ≤ (G.1 96 0).toInt ∧ (G.1 96 0).toInt ≤ 9 := hB_G.i 96 0 rfl rfl
    have g_49 : (G_15.1 96 0).toInt = (G.1 96 0).toInt := by rw [show G_15.1 96 0 = (G.1 96 0) from ((hq_16.i 96 0 (by decide) (by decide)).trans (hq_6.i 96 0 (by decide) (by decide)))]
    have b_50 : 0 ≤ (G.1 96 1).toInt ∧ (G.1 96 1).toInt ≤ 9 := hB_G.i 96 1 rfl rfl
    have g_51 : (G_15.1 96 1).toInt = (G.1 96 1).toInt := by rw [show G_15.1 96 1 = (G.1 96 1) from ((hq_16.i 96 1 (by decide) (by decide)).trans (hq_6.i 96 1 (by decide) (by decide)))]
    have b_52 : 0 ≤ (G.1 96 2).toInt ∧ (G.1 96 2).toInt ≤ 9 := hB_G.i 96 2 rfl rfl
    have g_53 : (G_15.1 96 2).toInt = (G.1 96 2).toInt := by rw [show G_15.1 96 2 = (G.1 96 2) from ((hq_16.i 96 2 (by decide) (by decide)).trans (hq_6.i 96 2 (by decide) (by decide)))]
    exact K G_15 _ _ _ (Or.inl ⟨((((hq_16.r 0 0 (by decide) (by decide)).trans (hq_6.r 0 0 (by decide) (by decide)))).trans (hv_0_0)), ((((hq_16.r 0 1 (by decide) (by decide)).trans (hq_6.r 0 1 (by decide) (by decide)))).trans (hv_0_1)), ((((hq_16.r 6 4 (by decide) (by decide)).trans (hq_6.r 6 4 (by decide) (by decide)))).trans (hv_6_4)), by omega, by omega, by omega, by omega, by omega, by omega, by omega, by omega, by omega, by omega, by omega, by omega, by omega⟩) hB_G_15 hW hS (lv_sub hl [0, 1, 2, 3] rfl)
  · skip
    refine lv_aload_n hx hb dL_law_1483 rfl (lv_at hl 1 rfl) ?_
    refine lv_aload_n hx hb dL_law_1484 rfl (lv_at hl 0 rfl) ?_
    refine lv_iload_n hx hb dL_law_1485 rfl (lv_at hl 3 rfl) ?_
    refine lv_iconst (v := 1) hx hb dL_law_1486 (by decide) ?_
    refine lv_iadd hx hb dL_law_1487 ?_
    refine lv_topi (fun y_1 ey_1 => ?_)
    have ty_1 : y_1.toInt = i0.toInt + 1 := xI_add rfl rfl ey_1 (by omega) (by omega)
    refine va_sld hx hb hX hbl hbA hS (vin (by omega) (by omega)) dL_law_1488 ?_
    refine lv_topi (fun y_2 ey_2 => ?_)
    have u_3 : y_2.toInt = (xs (i0 + 1).toNatClampNeg).toInt := by rw [ey_2, ey_1]
    refine S_calli (va_runV (As := [.int y_2]) (rest := []) ⟨hx, hb, hml, hown, hts⟩ (k_Wlater l D k A a z G y_2 ) (cwV 1 hts (gd_V hgd m1258 m1259 m1260 m117 m1261) rfl rfl rfl (by decide +kernel) ⟨Nat.le_of_ble_eq_true rfl, Nat.le_of_ble_eq_true rfl⟩) (pre_V hW hB_G hK hZ hS kd_0 rfl) rfl rfl hl.1 rfl (lv_room (Nat.le_of_ble_eq_true rfl)) dL_law_1489 ⟨Nat.le_of_ble_eq_true rfl, Nat.le_of_ble_eq_true rfl⟩) hS (fun r_4 G_5 H locs hpo hW hS => ?_)
    have hX_8 : P_Wlater y_2 G r_4 G_5 := hpo
    obtain ⟨hB_G_5, hq_6, hp_7, -⟩ := hpo
    refine lv_pop hx hb dL_law_1492 rfl ?_
    refine lv_aload_n hx hb dL_law_1493 rfl (lv_at hl 2 rfl) ?_
    refine lv_aload_n hx hb dL_law_1494 rfl (lv_at hl 0 rfl) ?_
    refine lv_iload_n hx hb dL_law_1495 rfl (lv_at hl 3 rfl) ?_
    refine lv_iconst (v := 1) hx hb dL_law_1496 (by decide) ?_
    refine lv_iadd hx hb dL_law_1497 ?_
    refine lv_topi (fun y_9 ey_9 => ?_)
    have ty_9 : y_9.toInt = i0.toInt + 1 := xI_add rfl rfl ey_9 (by omega) (by omega)
    refine va_sld hx hb hX hbl hbA hS (vin (by omega) (by omega)) dL_law_1498 ?_
    refine lv_topi (fun y_10 ey_10 => ?_)
    have u_11 : y_10.toInt = (xs (i0 + 1).toNatClampNeg).toInt := by rw [ey_10, ey_9]
    have b_12 : 0 ≤ (G.1 66 86).toInt ∧ (G.1 66 86).toInt ≤ 100000 := hB_G.i 66 86 rfl rfl
    have g_13 : (G_5.1 66 86).toInt = (G.1 66 86).toInt := by rw [show G_5.1 66 86 = (G.1 66 86) from (hq_6.i 66 86 (by decide) (by decide))]
    refine S_calli (va_runV (As := [.int y_10]) (rest := []) ⟨hx, hb, hml, hown, hts⟩ (n_later l D k A a z G_5 y_10 ) (cwV 1 hts (gd_V hgd m2047 m2048 m2049 m131 m2050) rfl rfl rfl (by decide +kernel) ⟨Nat.le_of_ble_eq_true rfl, Nat.le_of_ble_eq_true rfl⟩) (pre_V hW hB_G_5 hK hZ hS kd_66 rfl) rfl rfl hl.1 rfl (lv_room (Nat.le_of_ble_eq_true rfl)) dL_law_1499 ⟨Nat.le_of_ble_eq_true rfl, Nat.le_of_ble_eq_true rfl⟩) hS (fun r_14 G_15 H locs hpo hW hS => ?_)
    have hX_18 : Q_later y_10 G_5 r_14 G_15 := hpo
    obtain ⟨hB_G_15, hq_16, hp_17, -⟩ := hpo
    refine lv_pop hx hb dL_law_1502 rfl ?_
    refine lv_goto (tgt := 1641) hx hb dL_law_1503 (by decide) ?_
    have g_19 : gIB G_15 = gIB G := gIB_fr (rs := []) (fs := [(31, 6), (66, 86)]) ((Fr.rf.call hq_6 (by decide) (by decide)).call hq_16 (by decide) (by decide)) (by decide) (by decide)
    have g_20 : gO G_15 = gO G := gO_fr (rs := []) (fs := [(31, 6), (66, 86)]) ((Fr.rf.call hq_6 (by decide) (by decide)).call hq_16 (by decide) (by decide)) (by decide) (by decide)
    have g_21 : gP G_15 = gP G := gP_fr (rs := []) (fs := [(31, 6), (66, 86)]) ((Fr.rf.call hq_6 (by decide) (by decide)).call hq_16 (by decide) (by decide)) (by decide) (by decide)
    have g_22 : gS G_15 = gS G := gS_fr (rs := []) (fs := [(31, 6), (66, 86)]) ((Fr.rf.call hq_6 (by decide) (by decide)).call hq_16 (by decide) (by decide)) (by decide) (by decide)
    have g_23 : gTE G_15 = gTE G := gTE_fr (rs := []) (fs := [(31, 6), (66, 86)]) ((Fr.rf.call hq_6 (by decide) (by decide)).call hq_16 (by decide) (by decide)) (by decide) (by decide)
    have g_24 : gW G_15 = gW G := gW_fr (rs := []) (fs := [(31, 6), (66, 86)]) ((Fr.rf.call hq_6 (by decide) (by decide)).call hq_16 (by decide) (by decide)) (by decide) (by decide)
    have b_25 : 0 ≤ (G.1 0 11).toInt ∧ (G.1 0 11).toInt ≤ 1600 := hB_G.i 0 11 rfl rfl
    have g_26 : (G_15.1 0 11).toInt = (G.1 0 11).toInt := by rw [show G_15.1 0 11 = (G.1 0 11) from ((hq_16.i 0 11 (by decide) (by decide)).trans (hq_6.i 0 11 (by decide) (by decide)))]
    have b_27 : 0 ≤ (G.1 3 7).toInt ∧ (G.1 3 7).toInt ≤ 4 := hB_G.i 3 7 rfl rfl
    have g_28 : (G_15.1 3 7).toInt = (G.1 3 7).toInt := by rw [show G_15.1 3 7 = (G.1 3 7) from ((hq_16.i 3 7 (by decide) (by decide)).trans (hq_6.i 3 7 (by decide) (by decide)))]
    have b_29 : (-1) ≤ (G.1 3 8).toInt ∧ (G.1 3 8).toInt ≤ 1600 := hB_G.i 3 8 rfl rfl
    have g_30 : (G_15.1 3 8).toInt = (G.1 3 8).toInt := by rw [show G_15.1 3 8 = (G.1 3 8) from ((hq_16.i 3 8 (by decide) (by decide)).trans (hq_6.i 3 8 (by decide) (by decide)))]
    have b_31 : 0 ≤ (G.1 30 4).toInt ∧ (G.1 30 4).toInt ≤ 40 := hB_G.i 30 4 rfl rfl
    have g_32 : (G_15.1 30 4).toInt = (G.1 30 4).toInt := by rw [show G_15.1 30 4 = (G.1 30 4) from ((hq_16.i 30 4 (by decide) (by decide)).trans (hq_6.i 30 4 (by decide) (by decide)))]
    have b_33 : 0 ≤ (G.1 30 5).toInt ∧ (G.1 30 5).toInt ≤ 40 := hB_G.i 30 5 rfl rfl
    have g_34 : (G_15.1 30 5).toInt = (G.1 30 5).toInt := by rw [show G_15.1 30 5 = (G.1 30 5) from ((hq_16.i 30 5 (by decide) (by decide)).trans (hq_6.i 30 5 (by decide) (by decide)))]
    have b_35 : 0 ≤ (G_5.1 31 6).toInt ∧ (G_5.1 31 6).toInt ≤ 100000 := hB_G_5.i 31 6 rfl rfl
    have g_36 : (G_15.1 31 6).toInt = (G_5.1 31 6).toInt := by rw [show G_15.1 31 6 = (G_5.1 31 6) from (hq_16.i 31 6 (by decide) (by decide))]
    have b_37 : 0 ≤ (G.1 66 1).toInt ∧ (G.1 66 1).toInt ≤ 1600 := hB_G.i 66 1 rfl rfl
    have g_38 : (G_15.1 66 1).toInt = (G.1 66 1).toInt := by rw [show G_15.1 66 1 = (G.1 66 1) from ((hq_16.i 66 1 (by decide) (by decide)).trans (hq_6.i 66 1 (by decide) (by decide)))]
    have b_39 : 0 ≤ (G.1 66 2).toInt ∧ (G.1 66 2).toInt ≤ 4 := hB_G.i 66 2 rfl rfl
    have g_40 : (G_15.1 66 2).toInt = (G.1 66 2).toInt := by rw [show G_15.1 66 2 = (G.1 66 2) from ((hq_16.i 66 2 (by decide) (by decide)).trans (hq_6.i 66 2 (by decide) (by decide)))]
    have b_41 : (-1) ≤ (G.1 66 3).toInt ∧ (G.1 66 3).toInt ≤ 1600 := hB_G.i 66 3 rfl rfl
    have g_42 : (G_15.1 66 3).toInt = (G.1 66 3).toInt := by rw [show G_15.1 66 3 = (G.1 66 3) from ((hq_16.i 66 3 (by decide) (by decide)).trans (hq_6.i 66 3 (by decide) (by decide)))]
    have b_43 : 0 ≤ (G.1 66 78).toInt ∧ (G.1 66 78).toInt ≤ 40 := hB_G.i 66 78 rfl rfl
    have g_44 : (G_15.1 66 78).toInt = (G.1 66 78).toInt := by rw [show G_15.1 66 78 = (G.1 66 78) from ((hq_16.i 66 78 (by decide) (by decide)).trans (hq_6.i 66 78 (by decide) (by decide)))]
    have b_45 : 0 ≤ (G.1 66 79).toInt ∧ (G.1 66 79).toInt ≤ 40 := hB_G.i 66 79 rfl rfl
    have g_46 : (G_15.1 66 79).toInt = (G.1 66 79).toInt := by rw [show G_15.1 66 79 = (G.1 66 79) from ((hq_16.i 66 79 (by decide) (by decide)).trans (hq_6.i 66 79 (by decide) (by decide)))]
    have b_47 : 0 ≤ (G_15.1 66 86).toInt ∧ (G_15.1 66 86).toInt ≤ 100000 := hB_G_15.i 66 86 rfl rfl
    have b_48 : 0 ≤ (G.1 96 0).toInt ∧ (G.1 96 0).toInt ≤ 9 := hB_G.i 96 0 rfl rfl
    have g_49 : (G_15.1 96 0).toInt = (G.1 96 0).toInt := by rw [show G_15.1 96 0 = (G.1 96 0) from ((hq_16.i 96 0 (by decide) (by decide)).trans (hq_6.i 96 0 (by decide) (by decide)))]
    have b_50 : 0 ≤ (G.1 96 1).toInt ∧ (G.1 96 1).toInt ≤ 9 := hB_G.i 96 1 rfl rfl
    have g_51 : (G_15.1 96 1).toInt = (G.1 96 1).toInt := by rw [show G_15.1 96 1 = (G.1 96 1) from ((hq_16.i 96 1 (by decide) (by decide)).trans (hq_6.i 96 1 (by decide) (by decide)))]
    have b_52 : 0 ≤ (G.1 96 2).toInt ∧ (G.1 96 2).toInt ≤ 9 := hB_G.i 96 2 rfl rfl
    have g_53 : (G_15.1 96 2).toInt = (G.1 96 2).toInt := by rw [show G_15.1 96 2 = (G.1 96 2) from ((hq_16.i 96 2 (by decide) (by decide)).trans (hq_6.i 96 2 (by decide) (by decide)))]
    exact K G_15 _ _ _ (Or.inr ⟨((((hq_16.r 0 0 (by decide) (by decide)).trans (hq_6.r 0 0 (by decide) (by decide)))).trans (hv_0_0)), ((((hq_16.r 0 1 (by decide) (by decide)).trans (hq_6.r 0 1 (by decide) (by decide)))).trans (hv_0_1)), ((((hq_16.r 6 4 (by decide) (by decide)).trans (hq_6.r 6 4 (by decide) (by decide)))).trans (hv_6_4)), by omega, by omega, by omega, by omega, by omega, by omega, by omega, by omega, by omega, by omega, by omega, by omega, by omega⟩) hB_G_15 hW hS (lv_sub hl [0, 1, 2, 3] rfl)

set_option maxHeartbeats 4000000 in
set_option maxRecDepth 100000 in
theorem law_34 {p : Program} {l : Launch} {e : Env} {s : State} {m : MethodId} {below : List Frame} {meth : Method} {c : Code} {D : va_G} {k : KT} {A : Nat → Prop} {a : Nat → Nat} {z : SK} {b L : Nat} {xs : Nat → Int32} (hL : L ≤ 3072) (C0 : lw_At p s m meth c b L xs) (hK : cK D k s) (hZ : Sx A z s) (hbA : ¬ A b) {G : GS} {i0 : Int32} (hi0 : 0 ≤ i0.toInt) (hi6 : i0.toInt + 6 ≤ L) (hI : LI G) (hB_G : Bd G) {H : Heap} {locs : List Loc} {ls : Array Slot} (hW : Wd D k A a G H) (hS : va_S A s.heap H locs) (hl : lv_has ls 4 [(0, .ref b), (1, .ref (a 0)), (2, .ref (a 66)), (3, .int i0)]) (K : ∀ (G1 : GS) (H1 : Heap) (locs1 : List Loc) (ls1 : Array Slot), LI G1 → Bd G1 → Wd D k A a G1 H1 → va_S A s.heap H1 locs1 → lv_has ls1 4 [(0, .ref b), (1, .ref (a 0)), (2, .ref (a 66)), (3, .int i0)] → W p l e room_1 s m #[Value.ref b] below meth c H1 locs1 119 46443 (lw_Z below #[Value.ref b] s) (F0 m 1641 ls1 [])) : W p l e room_1 s m #[Value.ref b] below meth c H locs 119 46443 (lw_Z below #[Value.ref b] s) (F0 m 1506 ls []) := by
  obtain ⟨hx, hb, hr, hml, hown, hts, hX, hbl, hlocks, hgv⟩ := id C0
  have hown : s.vm.findClass RL = some m.cls := hown
  have hgd : ∀ w ∈ gd, w ∈ lw_tbl := fun w h => (List.mem_filter.mp h).1
  have hg : ∀ w ∈ gd, w.before #[Value.ref b] s = true := fun w h => hts w (hgd w h)
  rcases hI with ⟨hv_0_0, hv_0_1, hv_6_4, hj0, hj1, hj2, hj3, hj4, hj5, hj6, hj7, hj8, hj9, hj10, hj11⟩ | ⟨hv_0_0, hv_0_1, hv_6_4, hj0, hj1, hj2, hj3, hj4, hj5, hj6, hj7, hj8, hj9, hj10, hj11⟩
  · skip
    refine lv_aload_n hx hb dL_law_1506 rfl (lv_at hl 1 rfl) ?_
    refine lv_aload_n hx hb dL_law_1507 rfl (lv_at hl 0 rfl) ?_
    refine lv_iload_n hx hb dL_law_1508 rfl (lv_at hl 3 rfl) ?_
    refine lv_iconst (v := 1) hx hb dL_law_1509 (by decide) ?_
    refine lv_iadd hx hb dL_law_1510 ?_
    refine lv_topi (fun y_1 ey_1 => ?_)
    have ty_1 : y_1.toInt = i0.toInt + 1 := xI_add rfl rfl ey_1 (by omega) (by omega)
    refine va_sld hx hb hX hbl hbA hS (vin (by omega) (by omega)) dL_law_1511 ?_
    refine lv_topi (fun y_2 ey_2 => ?_)
    have u_3 : y_2.toInt = (xs (i0 + 1).toNatClampNeg).toInt := by rw [ey_2, ey_1]
    refine S_calli (va_runV (As := [.int y_2]) (rest := []) ⟨hx, hb, hml, hown, hts⟩ (k_Wfits_1 l D k A a z G y_2 hv_0_0 hv_0_1 hv_6_4) (cwV 1 hts (gd_V hgd m1263 m1264 m1265 m117 m1266) rfl rfl rfl (by decide +kernel) ⟨Nat.le_of_ble_eq_true rfl, Nat.le_of_ble_eq_true rfl⟩) (pre_V hW hB_G hK hZ hS kd_0 rfl) rfl rfl hl.1 rfl (lv_room (Nat.le_of_ble_eq_true rfl)) dL_law_1512 ⟨Nat.le_of_ble_eq_true rfl, Nat.le_of_ble_eq_true rfl⟩) hS (fun r_4 G_5 H locs hpo hW hS => ?_)
    have hX_8 : P_Wfits_1 y_2 G r_4 G_5 := hpo
    obtain ⟨hB_G_5, hq_6, -⟩ := hpo
    refine lv_pop hx hb dL_law_1515 rfl ?_
    refine lv_aload_n hx hb dL_law_1516 rfl (lv_at hl 2 rfl) ?_
    refine lv_aload_n hx hb dL_law_1517 rfl (lv_at hl 0 rfl) ?_
    refine lv_iload_n hx hb dL_law_1518 rfl (lv_at hl 3 rfl) ?_
    refine lv_iconst (v := 1) hx hb dL_law_1519 (by decide) ?_
    refine lv_iadd hx hb dL_law_1520 ?_
    refine lv_topi (fun y_9 ey_9 => ?_)
    have ty_9 : y_9.toInt = i0.toInt + 1 := xI_add rfl rfl ey_9 (by omega) (by omega)
    refine va_sld hx hb hX hbl hbA hS (vin (by omega) (by omega)) dL_law_1521 ?_
    refine lv_topi (fun y_10 ey_10 => ?_)
    have u_11 : y_10.toInt = (xs (i0 + 1).toNatClampNeg).toInt := by rw [ey_10, ey_9]
    have g_12 : gP G_5 = gP G := gP_fr (rs := [37, 38, 39]) (fs := [(6, 3)]) (Fr.rf.call hq_6 (by decide) (by decide)) (by decide) (by decide)
    refine S_calli (va_runV (As := [.int y_10]) (rest := []) ⟨hx, hb, hml, hown, hts⟩ (n_fits l D k A a z G_5 y_10 (by omega)) (cwV 1 hts (gd_V hgd m2051 m2052 m2053 m131 m2054) rfl rfl rfl (by decide +kernel) ⟨Nat.le_of_ble_eq_true rfl, Nat.le_of_ble_eq_true rfl⟩) (pre_V hW hB_G_5 hK hZ hS kd_66 rfl) rfl rfl hl.1 rfl (lv_room (Nat.le_of_ble_eq_true rfl)) dL_law_1522 ⟨Nat.le_of_ble_eq_true rfl, Nat.le_of_ble_eq_true rfl⟩) hS (fun r_13 G_14 H locs hpo hW hS => ?_)
    have hX_17 : Q_fits y_10 G_5 r_13 G_14 := hpo
    obtain ⟨hB_G_14, hq_15, -⟩ := hpo
    have u_18 := L_fits_1 hX_8 hX_17 (by omega) (by omega)
    refine lv_pop hx hb dL_law_1525 rfl ?_
    refine lv_goto (tgt := 1641) hx hb dL_law_1526 (by decide) ?_
    have g_19 : gO G_14 = gO G := gO_fr (rs := [37, 38, 39, 76, 97, 98]) (fs := [(6, 3), (66, 59), (66, 60), (66, 61), (66, 62), (66, 63)]) ((Fr.rf.call hq_6 (by decide) (by decide)).call hq_15 (by decide) (by decide)) (by decide) (by decide)
    have g_20 : gP G_14 = gP G := gP_fr (rs := [37, 38, 39, 76, 97, 98]) (fs := [(6, 3), (66, 59), (66, 60), (66, 61), (66, 62), (66, 63)]) ((Fr.rf.call hq_6 (by decide) (by decide)).call hq_15 (by decide) (by decide)) (by decide) (by decide)
    have g_21 : gS G_14 = gS G := gS_fr (rs := [37, 38, 39, 76, 97, 98]) (fs := [(6, 3), (66, 59), (66, 60), (66, 61), (66, 62), (66, 63)]) ((Fr.rf.call hq_6 (by decide) (by decide)).call hq_15 (by decide) (by decide)) (by decide) (by decide)
    have g_22 : gTE G_14 = gTE G := gTE_fr (rs := [37, 38, 39, 76, 97, 98]) (fs := [(6, 3), (66, 59), (66, 60), (66, 61), (66, 62), (66, 63)]) ((Fr.rf.call hq_6 (by decide) (by decide)).call hq_15 (by decide) (by decide)) (by decide) (by decide)
    have g_23 : gW G_14 = gW G := gW_fr (rs := [37, 38, 39, 76, 97, 98]) (fs := [(6, 3), (66, 59), (66, 60), (66, 61), (66, 62), (66, 63)]) ((Fr.rf.call hq_6 (by decide) (by decide)).call hq_15 (by decide) (by decide)) (by decide) (by decide)
    have b_24 : 0 ≤ (G.1 0 11).toInt ∧ (G.1 0 11).toInt ≤ 1600 := hB_G.i 0 11 rfl rfl
    have g_25 : (G_14.1 0 11).toInt = (G.1 0 11).toInt := by rw [show G_14.1 0 11 = (G.1 0 11) from ((hq_15.i 0 11 (by decide) (by decide)).trans (hq_6.i 0 11 (by decide) (by decide)))]
    have b_26 : 0 ≤ (G.1 3 7).toInt ∧ (G.1 3 7).toInt ≤ 4 := hB_G.i 3 7 rfl rfl
    have g_27 : (G_14.1 3 7).toInt = (G.1 3 7).toInt := by rw [show G_14.1 3 7 = (G.1 3 7) from ((hq_15.i 3 7 (by decide) (by decide)).trans (hq_6.i 3 7 (by decide) (by decide)))]
    have b_28 : (-1) ≤ (G.1 3 8).toInt ∧ (G.1 3 8).toInt ≤ 1600 := hB_G.i 3 8 rfl rfl
    have g_29 : (G_14.1 3 8).toInt = (G.1 3 8).toInt := by rw [show G_14.1 3 8 = (G.1 3 8) from ((hq_15.i 3 8 (by decide) (by decide)).trans (hq_6.i 3 8 (by decide) (by decide)))]
    have b_30 : 0 ≤ (G.1 30 4).toInt ∧ (G.1 30 4).toInt ≤ 40 := hB_G.i 30 4 rfl rfl
    have g_31 : (G_14.1 30 4).toInt = (G.1 30 4).toInt := by rw [show G_14.1 30 4 = (G.1 30 4) from ((hq_15.i 30 4 (by decide) (by decide)).trans (hq_6.i 30 4 (by decide) (by decide)))]
    have b_32 : 0 ≤ (G.1 30 5).toInt ∧ (G.1 30 5).toInt ≤ 40 := hB_G.i 30 5 rfl rfl
    have g_33 : (G_14.1 30 5).toInt = (G.1 30 5).toInt := by rw [show G_14.1 30 5 = (G.1 30 5) from ((hq_15.i 30 5 (by decide) (by decide)).trans (hq_6.i 30 5 (by decide) (by decide)))]
    have b_34 : 0 ≤ (G.1 31 6).toInt ∧ (G.1 31 6).toInt ≤ 100000 := hB_G.i 31 6 rfl rfl
    have g_35 : (G_14.1 31 6).toInt = (G.1 31 6).toInt := by rw [show G_14.1 31 6 = (G.1 31 6) from ((hq_15.i 31 6 (by decide) (by decide)).trans (hq_6.i 31 6 (by decide) (by decide)))]
    have b_36 : 0 ≤ (G.1 66 1).toInt ∧ (G.1 66 1).toInt ≤ 1600 := hB_G.i 66 1 rfl rfl
    have g_37 : (G_14.1 66 1).toInt = (G.1 66 1).toInt := by rw [show G_14.1 66 1 = (G.1 66 1) from ((hq_15.i 66 1 (by decide) (by decide)).trans (hq_6.i 66 1 (by decide) (by decide)))]
    have b_38 : 0 ≤ (G.1 66 2).toInt ∧ (G.1 66 2).toInt ≤ 4 := hB_G.i 66 2 rfl rfl
    have g_39 : (G_14.1 66 2).toInt = (G.1 66 2).toInt := by rw [show G_14.1 66 2 = (G.1 66 2) from ((hq_15.i 66 2 (by decide) (by decide)).trans (hq_6.i 66 2 (by decide) (by decide)))]
    have b_40 : (-1) ≤ (G.1 66 3).toInt ∧ (G.1 66 3).toInt ≤ 1600 := hB_G.i 66 3 rfl rfl
    have g_41 : (G_14.1 66 3).toInt = (G.1 66 3).toInt := by rw [show G_14.1 66 3 = (G.1 66 3) from ((hq_15.i 66 3 (by decide) (by decide)).trans (hq_6.i 66 3 (by decide) (by decide)))]
    have b_42 : 0 ≤ (G.1 66 78).toInt ∧ (G.1 66 78).toInt ≤ 40 := hB_G.i 66 78 rfl rfl
    have g_43 : (G_14.1 66 78).toInt = (G.1 66 78).toInt := by rw [show G_14.1 66 78 = (G.1 66 78) from ((hq_15.i 66 78 (by decide) (by decide)).trans (hq_6.i 66 78 (by decide) (by decide)))]
    have b_44 : 0 ≤ (G.1 66 79).toInt ∧ (G.1 66 79).toInt ≤ 40 := hB_G.i 66 79 rfl rfl
    have g_45 : (G_14.1 66 79).toInt = (G.1 66 79).toInt := by rw [show G_14.1 66 79 = (G.1 66 79) from ((hq_15.i 66 79 (by decide) (by decide)).trans (hq_6.i 66 79 (by decide) (by decide)))]
    have b_46 : 0 ≤ (G.1 66 86).toInt ∧ (G.1 66 86).toInt ≤ 100000 := hB_G.i 66 86 rfl rfl
    have g_47 : (G_14.1 66 86).toInt = (G.1 66 86).toInt := by rw [show G_14.1 66 86 = (G.1 66 86) from ((hq_15.i 66 86 (by decide) (by decide)).trans (hq_6.i 66 86 (by decide) (by decide)))]
    have b_48 : 0 ≤ (G.1 96 0).toInt ∧ (G.1 96 0).toInt ≤ 9 := hB_G.i 96 0 rfl rfl
    have g_49 : (G_14.1 96 0).toInt = (G.1 96 0).toInt := by rw [show G_14.1 96 0 = (G.1 96 0) from ((hq_15.i 96 0 (by decide) (by decide)).trans (hq_6.i 96 0 (by decide) (by decide)))]
    have b_50 : 0 ≤ (G.1 96 1).toInt ∧ (G.1 96 1).toInt ≤ 9 := hB_G.i 96 1 rfl rfl
    have g_51 : (G_14.1 96 1).toInt = (G.1 96 1).toInt := by rw [show G_14.1 96 1 = (G.1 96 1) from ((hq_15.i 96 1 (by decide) (by decide)).trans (hq_6.i 96 1 (by decide) (by decide)))]
    have b_52 : 0 ≤ (G.1 96 2).toInt ∧ (G.1 96 2).toInt ≤ 9 := hB_G.i 96 2 rfl rfl
    have g_53 : (G_14.1 96 2).toInt = (G.1 96 2).toInt := by rw [show G_14.1 96 2 = (G.1 96 2) from ((hq_15.i 96 2 (by decide) (by decide)).trans (hq_6.i 96 2 (by decide) (by decide)))]
    exact K G_14 _ _ _ (Or.inl ⟨((((hq_15.r 0 0 (by decide) (by decide)).trans (hq_6.r 0 0 (by decide) (by decide)))).trans (hv_0_0)), ((((hq_15.r 0 1 (by decide) (by decide)).trans (hq_6.r 0 1 (by decide) (by decide)))).trans (hv_0_1)), ((((hq_15.r 6 4 (by decide) (by decide)).trans (hq_6.r 6 4 (by decide) (by decide)))).trans (hv_6_4)), by omega, by omega, by omega, by omega, by omega, by omega, by omega, by omega, by omega, by omega, by omega, by omega, by omega⟩) hB_G_14 hW hS (lv_sub hl [0, 1, 2, 3] rfl)
  · skip
    refine lv_aload_n hx hb dL_law_1506 rfl (lv_at hl 1 rfl) ?_
    refine lv_aload_n hx hb dL_law_1507 rfl (lv_at hl 0 rfl) ?_
    refine lv_iload_n hx hb dL_law_1508 rfl (lv_at hl 3 rfl) ?_
    refine lv_iconst (v := 1) hx hb dL_law_1509 (by decide) ?_
    refine lv_iadd hx hb dL_law_1510 ?_
    refine lv_topi (fun y_1 ey_1 => ?_)
    have ty_1 : y_1.toInt = i0.toInt + 1 := xI_add rfl rfl ey_1 (by omega) (by omega)
    refine va_sld hx hb hX hbl hbA hS (vin (by omega) (by omega)) dL_law_1511 ?_
    refine lv_topi (fun y_2 ey_2 => ?_)
    have u_3 : y_2.toInt = (xs (i0 + 1).toNatClampNeg).toInt := by rw [ey_2, ey_1]
    refine S_calli (va_runV (As := [.int y_2]) (rest := []) ⟨hx, hb, hml, hown, hts⟩ (k_Wfits_2 l D k A a z G y_2 hv_0_0 hv_0_1 hv_6_4) (cwV 1 hts (gd_V hgd m1263 m1264 m1265 m117 m1266) rfl rfl rfl (by decide +kernel) ⟨Nat.le_of_ble_eq_true rfl, Nat.le_of_ble_eq_true rfl⟩) (pre_V hW hB_G hK hZ hS kd_0 rfl) rfl rfl hl.1 rfl (lv_room (Nat.le_of_ble_eq_true rfl)) dL_law_1512 ⟨Nat.le_of_ble_eq_true rfl, Nat.le_of_ble_eq_true rfl⟩) hS (fun r_4 G_5 H locs hpo hW hS => ?_)
    have hX_8 : P_Wfits_2 y_2 G r_4 G_5 := hpo
    obtain ⟨hB_G_5, hq_6, -⟩ := hpo
    refine lv_pop hx hb dL_law_1515 rfl ?_
    refine lv_aload_n hx hb dL_law_1516 rfl (lv_at hl 2 rfl) ?_
    refine lv_aload_n hx hb dL_law_1517 rfl (lv_at hl 0 rfl) ?_
    refine lv_iload_n hx hb dL_law_1518 rfl (lv_at hl 3 rfl) ?_
    refine lv_iconst (v := 1) hx hb dL_law_1519 (by decide) ?_
    refine lv_iadd hx hb dL_law_1520 ?_
    refine lv_topi (fun y_9 ey_9 => ?_)
    have ty_9 : y_9.toInt = i0.toInt + 1 := xI_add rfl rfl ey_9 (by omega) (by omega)
    refine va_sld hx hb hX hbl hbA hS (vin (by omega) (by omega)) dL_law_1521 ?_
    refine lv_topi (fun y_10 ey_10 => ?_)
    have u_11 : y_10.toInt = (xs (i0 + 1).toNatClampNeg).toInt := by rw [ey_10, ey_9]
    have g_12 : gP G_5 = gP G := gP_fr (rs := [37, 38, 39]) (fs := [(6, 3)]) (Fr.rf.call hq_6 (by decide) (by decide)) (by decide) (by decide)
    refine S_calli (va_runV (As := [.int y_10]) (rest := []) ⟨hx, hb, hml, hown, hts⟩ (n_fits l D k A a z G_5 y_10 (by omega)) (cwV 1 hts (gd_V hgd m2051 m2052 m2053 m131 m2054) rfl rfl rfl (by decide +kernel) ⟨Nat.le_of_ble_eq_true rfl, Nat.le_of_ble_eq_true rfl⟩) (pre_V hW hB_G_5 hK hZ hS kd_66 rfl) rfl rfl hl.1 rfl (lv_room (Nat.le_of_ble_eq_true rfl)) dL_law_1522 ⟨Nat.le_of_ble_eq_true rfl, Nat.le_of_ble_eq_true rfl⟩) hS (fun r_13 G_14 H locs hpo hW hS => ?_)
    have hX_17 : Q_fits y_10 G_5 r_13 G_14 := hpo
    obtain ⟨hB_G_14, hq_15, -⟩ := hpo
    have u_18 := L_fits_2 hX_8 hX_17 (by omega) (by omega)
    refine lv_pop hx hb dL_law_1525 rfl ?_
    refine lv_goto (tgt := 1641) hx hb dL_law_1526 (by decide) ?_
    have g_19 : gO G_14 = gO G := gO_fr (rs := [37, 38, 39, 76, 97, 98]) (fs := [(6, 3), (66, 59), (66, 60), (66, 61), (66, 62), (66, 63)]) ((Fr.rf.call hq_6 (by decide) (by decide)).call hq_15 (by decide) (by decide)) (by decide) (by decide)
    have g_20 : gP G_14 = gP G := gP_fr (rs := [37, 38, 39, 76, 97, 98]) (fs := [(6, 3), (66, 59), (66, 60), (66, 61), (66, 62), (66, 63)]) ((Fr.rf.call hq_6 (by decide) (by decide)).call hq_15 (by decide) (by decide)) (by decide) (by decide)
    have g_21 : gS G_14 = gS G := gS_fr (rs := [37, 38, 39, 76, 97, 98]) (fs := [(6, 3), (66, 59), (66, 60), (66, 61), (66, 62), (66, 63)]) ((Fr.rf.call hq_6 (by decide) (by decide)).call hq_15 (by decide) (by decide)) (by decide) (by decide)
    have g_22 : gTE G_14 = gTE G := gTE_fr (rs := [37, 38, 39, 76, 97, 98]) (fs := [(6, 3), (66, 59), (66, 60), (66, 61), (66, 62), (66, 63)]) ((Fr.rf.call hq_6 (by decide) (by decide)).call hq_15 (by decide) (by decide)) (by decide) (by decide)
    have g_23 : gW G_14 = gW G := gW_fr (rs := [37, 38, 39, 76, 97, 98]) (fs := [(6, 3), (66, 59), (66, 60), (66, 61), (66, 62), (66, 63)]) ((Fr.rf.call hq_6 (by decide) (by decide)).call hq_15 (by decide) (by decide)) (by decide) (by decide)
    have b_24 : 0 ≤ (G.1 0 11).toInt ∧ (G.1 0 11).toInt ≤ 1600 := hB_G.i 0 11 rfl rfl
    have g_25 : (G_14.1 0 11).toInt = (G.1 0 11).toInt := by rw [show G_14.1 0 11 = (G.1 0 11) from ((hq_15.i 0 11 (by decide) (by decide)).trans (hq_6.i 0 11 (by decide) (by decide)))]
    have b_26 : 0 ≤ (G.1 3 7).toInt ∧ (G.1 3 7).toInt ≤ 4 := hB_G.i 3 7 rfl rfl
    have g_27 : (G_14.1 3 7).toInt = (G.1 3 7).toInt := by rw [show G_14.1 3 7 = (G.1 3 7) from ((hq_15.i 3 7 (by decide) (by decide)).trans (hq_6.i 3 7 (by decide) (by decide)))]
    have b_28 : (-1) ≤ (G.1 3 8).toInt ∧ (G.1 3 8).toInt ≤ 1600 := hB_G.i 3 8 rfl rfl
    have g_29 : (G_14.1 3 8).toInt = (G.1 3 8).toInt := by rw [show G_14.1 3 8 = (G.1 3 8) from ((hq_15.i 3 8 (by decide) (by decide)).trans (hq_6.i 3 8 (by decide) (by decide)))]
    have b_30 : 0 ≤ (G.1 30 4).toInt ∧ (G.1 30 4).toInt ≤ 40 := hB_G.i 30 4 rfl rfl
    have g_31 : (G_14.1 30 4).toInt = (G.1 30 4).toInt := by rw [show G_14.1 30 4 = (G.1 30 4) from ((hq_15.i 30 4 (by decide) (by decide)).trans (hq_6.i 30 4 (by decide) (by decide)))]
    have b_32 : 0 ≤ (G.1 30 5).toInt ∧ (G.1 30 5).toInt ≤ 40 := hB_G.i 30 5 rfl rfl
    have g_33 : (G_14.1 30 5).toInt = (G.1 30 5).toInt := by rw [show G_14.1 30 5 = (G.1 30 5) from ((hq_15.i 30 5 (by decide) (by decide)).trans (hq_6.i 30 5 (by decide) (by decide)))]
    have b_34 : 0 ≤ (G.1 31 6).toInt ∧ (G.1 31 6).toInt ≤ 100000 := hB_G.i 31 6 rfl rfl
    have g_35 : (G_14.1 31 6).toInt = (G.1 31 6).toInt := by rw [show G_14.1 31 6 = (G.1 31 6) from ((hq_15.i 31 6 (by decide) (by decide)).trans (hq_6.i 31 6 (by decide) (by decide)))]
    have b_36 : 0 ≤ (G.1 66 1).toInt ∧ (G.1 66 1).toInt ≤ 1600 := hB_G.i 66 1 rfl rfl
    have g_37 : (G_14.1 66 1).toInt = (G.1 66 1).toInt := by rw [show G_14.1 66 1 = (G.1 66 1) from ((hq_15.i 66 1 (by decide) (by decide)).trans (hq_6.i 66 1 (by decide) (by decide)))]
    have b_38 : 0 ≤ (G.1 66 2).toInt ∧ (G.1 66 2).toInt ≤ 4 := hB_G.i 66 2 rfl rfl
    have g_39 : (G_14.1 66 2).toInt = (G.1 66 2).toInt := by rw [show G_14.1 66 2 = (G.1 66 2) from ((hq_15.i 66 2 (by decide) (by decide)).trans (hq_6.i 66 2 (by decide) (by decide)))]
    have b_40 : (-1) ≤ (G.1 66 3).toInt ∧ (G.1 66 3).toInt ≤ 1600 := hB_G.i 66 3 rfl rfl
    have g_41 : (G_14.1 66 3).toInt = (G.1 66 3).toInt := by rw [show G_14.1 66 3 = (G.1 66 3) from ((hq_15.i 66 3 (by decide) (by decide)).trans (hq_6.i 66 3 (by decide) (by decide)))]
    have b_42 : 0 ≤ (G.1 66 78).toInt ∧ (G.1 66 78).toInt ≤ 40 := hB_G.i 66 78 rfl rfl
    have g_43 : (G_14.1 66 78).toInt = (G.1 66 78).toInt := by rw [show G_14.1 66 78 = (G.1 66 78) from ((hq_15.i 66 78 (by decide) (by decide)).trans (hq_6.i 66 78 (by decide) (by decide)))]
    have b_44 : 0 ≤ (G.1 66 79).toInt ∧ (G.1 66 79).toInt ≤ 40 := hB_G.i 66 79 rfl rfl
    have g_45 : (G_14.1 66 79).toInt = (G.1 66 79).toInt := by rw [show G_14.1 66 79 = (G.1 66 79) from ((hq_15.i 66 79 (by decide) (by decide)).trans (hq_6.i 66 79 (by decide) (by decide)))]
    have b_46 : 0 ≤ (G.1 66 86).toInt ∧ (G.1 66 86).toInt ≤ 100000 := hB_G.i 66 86 rfl rfl
    have g_47 : (G_14.1 66 86).toInt = (G.1 66 86).toInt := by rw [show G_14.1 66 86 = (G.1 66 86) from ((hq_15.i 66 86 (by decide) (by decide)).trans (hq_6.i 66 86 (by decide) (by decide)))]
    have b_48 : 0 ≤ (G.1 96 0).toInt ∧ (G.1 96 0).toInt ≤ 9 := hB_G.i 96 0 rfl rfl
    have g_49 : (G_14.1 96 0).toInt = (G.1 96 0).toInt := by rw [show G_14.1 96 0 = (G.1 96 0) from ((hq_15.i 96 0 (by decide) (by decide)).trans (hq_6.i 96 0 (by decide) (by decide)))]
    have b_50 : 0 ≤ (G.1 96 1).toInt ∧ (G.1 96 1).toInt ≤ 9 := hB_G.i 96 1 rfl rfl
    have g_51 : (G_14.1 96 1).toInt = (G.1 96 1).toInt := by rw [show G_14.1 96 1 = (G.1 96 1) from ((hq_15.i 96 1 (by decide) (by decide)).trans (hq_6.i 96 1 (by decide) (by decide)))]
    have b_52 : 0 ≤ (G.1 96 2).toInt ∧ (G.1 96 2).toInt ≤ 9 := hB_G.i 96 2 rfl rfl
    have g_53 : (G_14.1 96 2).toInt = (G.1 96 2).toInt := by rw [show G_14.1 96 2 = (G.1 96 2) from ((hq_15.i 96 2 (by decide) (by decide)).trans (hq_6.i 96 2 (by decide) (by decide)))]
    exact K G_14 _ _ _ (Or.inr ⟨((((hq_15.r 0 0 (by decide) (by decide)).trans (hq_6.r 0 0 (by decide) (by decide)))).trans (hv_0_0)), ((((hq_15.r 0 1 (by decide) (by decide)).trans (hq_6.r 0 1 (by decide) (by decide)))).trans (hv_0_1)), ((((hq_15.r 6 4 (by decide) (by decide)).trans (hq_6.r 6 4 (by decide) (by decide)))).trans (hv_6_4)), by omega, by omega, by omega, by omega, by omega, by omega, by omega, by omega, by omega, by omega, by omega, by omega, by omega⟩) hB_G_14 hW hS (lv_sub hl [0, 1, 2, 3] rfl)

set_option maxHeartbeats 4000000 in
set_option maxRecDepth 100000 in
theorem law_35 {p : Program} {l : Launch} {e : Env} {s : State} {m : MethodId} {below : List Frame} {meth : Method} {c : Code} {D : va_G} {k : KT} {A : Nat → Prop} {a : Nat → Nat} {z : SK} {b L : Nat} {xs : Nat → Int32} (hL : L ≤ 3072) (C0 : lw_At p s m meth c b L xs) (hK : cK D k s) (hZ : Sx A z s) (hbA : ¬ A b) {G : GS} {i0 : Int32} (hi0 : 0 ≤ i0.toInt) (hi6 : i0.toInt + 6 ≤ L) (hI : LI G) (hB_G : Bd G) {H : Heap} {locs : List Loc} {ls : Array Slot} (hW : Wd D k A a G H) (hS : va_S A s.heap H locs) (hl : lv_has ls 4 [(0, .ref b), (1, .ref (a 0)), (2, .ref (a 66)), (3, .int i0)]) (K : ∀ (G1 : GS) (H1 : Heap) (locs1 : List Loc) (ls1 : Array Slot), LI G1 → Bd G1 → Wd D k A a G1 H1 → va_S A s.heap H1 locs1 → lv_has ls1 4 [(0, .ref b), (1, .ref (a 0)), (2, .ref (a 66)), (3, .int i0)] → W p l e room_1 s m #[Value.ref b] below meth c H1 locs1 119 46443 (lw_Z below #[Value.ref b] s) (F0 m 1641 ls1 [])) : W p l e room_1 s m #[Value.ref b] below meth c H locs 119 46443 (lw_Z below #[Value.ref b] s) (F0 m 1529 ls []) := by
  obtain ⟨hx, hb, hr, hml, hown, hts, hX, hbl, hlocks, hgv⟩ := id C0
  have hown : s.vm.findClass RL = some m.cls := hown
  have hgd : ∀ w ∈ gd, w ∈ lw_tbl := fun w h => (List.mem_filter.mp h).1
  have hg : ∀ w ∈ gd, w.before #[Value.ref b] s = true := fun w h => hts w (hgd w h)
  rcases hI with ⟨hv_0_0, hv_0_1, hv_6_4, hj0, hj1, hj2, hj3, hj4, hj5, hj6, hj7, hj8, hj9, hj10, hj11⟩ | ⟨hv_0_0, hv_0_1, hv_6_4, hj0, hj1, hj2, hj3, hj4, hj5, hj6, hj7, hj8, hj9, hj10, hj11⟩
  · skip
    refine lv_aload_n hx hb dL_law_1529 rfl (lv_at hl 1 rfl) ?_
    refine lv_aload_n hx hb dL_law_1530 rfl (lv_at hl 0 rfl) ?_
    refine lv_iload_n hx hb dL_law_1531 rfl (lv_at hl 3 rfl) ?_
    refine lv_iconst (v := 1) hx hb dL_law_1532 (by decide) ?_
    refine lv_iadd hx hb dL_law_1533 ?_
    refine lv_topi (fun y_1 ey_1 => ?_)
    have ty_1 : y_1.toInt = i0.toInt + 1 := xI_add rfl rfl ey_1 (by omega) (by omega)
    refine va_sld hx hb hX hbl hbA hS (vin (by omega) (by omega)) dL_law_1534 ?_
    refine lv_topi (fun y_2 ey_2 => ?_)
    have u_3 : y_2.toInt = (xs (i0 + 1).toNatClampNeg).toInt := by rw [ey_2, ey_1]
    refine lv_aload_n hx hb dL_law_1535 rfl (lv_at hl 0 rfl) ?_
    refine lv_iload_n hx hb dL_law_1536 rfl (lv_at hl 3 rfl) ?_
    refine lv_iconst (v := 2) hx hb dL_law_1537 (by decide) ?_
    refine lv_iadd hx hb dL_law_1538 ?_
    refine lv_topi (fun y_4 ey_4 => ?_)
    have ty_4 : y_4.toInt = i0.toInt + 2 := xI_add rfl rfl ey_4 (by omega) (by omega)
    refine va_sld hx hb hX hbl hbA hS (vin (by omega) (by omega)) dL_law_1539 ?_
    refine lv_topi (fun y_5 ey_5 => ?_)
    have u_6 : y_5.toInt = (xs (i0 + 2).toNatClampNeg).toInt := by rw [ey_5, ey_4]
    refine lv_aload_n hx hb dL_law_1540 rfl (lv_at hl 0 rfl) ?_
    refine lv_iload_n hx hb dL_law_1541 rfl (lv_at hl 3 rfl) ?_
    refine lv_iconst (v := 3) hx hb dL_law_1542 (by decide) ?_
    refine lv_iadd hx hb dL_law_1543 ?_
    refine lv_topi (fun y_7 ey_7 => ?_)
    have ty_7 : y_7.toInt = i0.toInt + 3 := xI_add rfl rfl ey_7 (by omega) (by omega)
    refine va_sld hx hb hX hbl hbA hS (vin (by omega) (by omega)) dL_law_1544 ?_
    refine lv_topi (fun y_8 ey_8 => ?_)
    have u_9 : y_8.toInt = (xs (i0 + 3).toNatClampNeg).toInt := by rw [ey_8, ey_7]
    refine S_calll (va_runV (As := [.int y_2, .int y_5, .int y_8]) (rest := []) ⟨hx, hb, hml, hown, hts⟩ (k_Wchance_1 l D k A a z G y_2 y_5 y_8 hv_0_0 hv_0_1 hv_6_4) (cwV 3 hts (gd_V hgd m1279 m1280 m1281 m117 m1282) rfl rfl rfl (by decide +kernel) ⟨Nat.le_of_ble_eq_true rfl, Nat.le_of_ble_eq_true rfl⟩) (pre_V hW hB_G hK hZ hS kd_0 rfl) rfl rfl hl.1 rfl (lv_room (Nat.le_of_ble_eq_true rfl)) dL_law_1545 ⟨Nat.le_of_ble_eq_true rfl, Nat.le_of_ble_eq_true rfl⟩) hS (fun r_10 G_11 H locs hpo hW hS => ?_)
    have hX_14 : P_Wchance_1 y_2 y_5 y_8 G r_10 G_11 := hpo
    obtain ⟨hB_G_11, hq_12, -⟩ := hpo
    refine lv_pop2_2 hx hb dL_law_1548 rfl ?_
    refine lv_aload_n hx hb dL_law_1549 rfl (lv_at hl 2 rfl) ?_
    refine lv_aload_n hx hb dL_law_1550 rfl (lv_at hl 0 rfl) ?_
    refine lv_iload_n hx hb dL_law_1551 rfl (lv_at hl 3 rfl) ?_
    refine lv_iconst (v := 1) hx hb dL_law_1552 (by decide) ?_
    refine lv_iadd hx hb dL_law_1553 ?_
    refine lv_topi (fun y_15 ey_15 => ?_)
    have ty_15 : y_15.toInt = i0.toInt + 1 := xI_add rfl rfl ey_15 (by omega) (by omega)
    refine va_sld hx hb hX hbl hbA hS (vin (by omega) (by omega)) dL_law_1554 ?_
    refine lv_topi (fun y_16 ey_16 => ?_)
    have u_17 : y_16.toInt = (xs (i0 + 1).toNatClampNeg).toInt := by rw [ey_16, ey_15]
    refine lv_aload_n hx hb dL_law_1555 rfl (lv_at hl 0 rfl) ?_
    refine lv_iload_n hx hb dL_law_1556 rfl (lv_at hl 3 rfl) ?_
    refine lv_iconst (v := 2) hx hb dL_law_1557 (by decide) ?_
    refine lv_iadd hx hb dL_law_1558 ?_
    refine lv_topi (fun y_18 ey_18 => ?_)
    have ty_18 : y_18.toInt = i0.toInt + 2 := xI_add rfl rfl ey_18 (by omega) (by omega)
    refine va_sld hx hb hX hbl hbA hS (vin (by omega) (by omega)) dL_law_1559 ?_
    refine lv_topi (fun y_19 ey_19 => ?_)
    have u_20 : y_19.toInt = (xs (i0 + 2).toNatClampNeg).toInt := by rw [ey_19, ey_18]
    refine lv_aload_n hx hb dL_law_1560 rfl (lv_at hl 0 rfl) ?_
    refine lv_iload_n hx hb dL_law_1561 rfl (lv_at hl 3 rfl) ?_
    refine lv_iconst (v := 3) hx hb dL_law_1562 (by decide) ?_
    refine lv_iadd hx hb dL_law_1563 ?_
    refine lv_topi (fun y_21 ey_21 => ?_)
    have ty_21 : y_21.toInt = i0.toInt + 3 := xI_add rfl rfl ey_21 (by omega) (by omega)
    refine va_sld hx hb hX hbl hbA hS (vin (by omega) (by omega)) dL_law_1564 ?_
    refine lv_topi (fun y_22 ey_22 => ?_)
    have u_23 : y_22.toInt = (xs (i0 + 3).toNatClampNeg).toInt := by rw [ey_22, ey_21]
    have g_24 : gP G_11 = gP G := gP_fr (rs := [37, 38, 39]) (fs := [(6, 3)]) (Fr.rf.call hq_12 (by decide) (by decide)) (by decide) (by decide)
    have g_25 : gS G_11 = gS G := gS_fr (rs := [37, 38, 39]) (fs := [(6, 3)]) (Fr.rf.call hq_12 (by decide) (by decide)) (by decide) (by decide)
    refine S_calll (va_runV (As := [.int y_16, .int y_19, .int y_22]) (rest := []) ⟨hx, hb, hml, hown, hts⟩ (n_chance l D k A a z G_11 y_16 y_19 y_22 (by omega) (by omega)) (cwV 3 hts (gd_V hgd m2059 m2060 m2061 m131 m2062) rfl rfl rfl (by decide +kernel) ⟨Nat.le_of_ble_eq_true rfl, Nat.le_of_ble_eq_true rfl⟩) (pre_V hW hB_G_11 hK hZ hS kd_66 rfl) rfl rfl hl.1 rfl (lv_room (Nat.le_of_ble_eq_true rfl)) dL_law_1565 ⟨Nat.le_of_ble_eq_true rfl, Nat.le_of_ble_eq_true rfl⟩) hS (fun r_26 G_27 H locs hpo hW hS => ?_)
    have hX_30 : Q_chance y_16 y_19 y_22 G_11 r_26 G_27 := hpo
    obtain ⟨hB_G_27, hq_28, -⟩ := hpo
    have u_31 := L_chance_1 hX_14 hX_30 (by omega) (by omega) (by omega) (by omega)
    refine lv_pop2_2 hx hb dL_law_1568 rfl ?_
    refine lv_goto (tgt := 1641) hx hb dL_law_1569 (by decide) ?_
    have g_32 : gO G_27 = gO G := gO_fr (rs := [37, 38, 39, 76, 97, 98]) (fs := [(6, 3), (66, 59), (66, 60), (66, 61), (66, 62), (66, 63)]) ((Fr.rf.call hq_12 (by decide) (by decide)).call hq_28 (by decide) (by decide)) (by decide) (by decide)
    have g_33 : gP G_27 = gP G := gP_fr (rs := [37, 38, 39, 76, 97, 98]) (fs := [(6, 3), (66, 59), (66, 60), (66, 61), (66, 62), (66, 63)]) ((Fr.rf.call hq_12 (by decide) (by decide)).call hq_28 (by decide) (by decide)) (by decide) (by decide)
    have g_34 : gS G_27 = gS G := gS_fr (rs := [37, 38, 39, 76, 97, 98]) (fs := [(6, 3), (66, 59), (66, 60), (66, 61), (66, 62), (66, 63)]) ((Fr.rf.call hq_12 (by decide) (by decide)).call hq_28 (by decide) (by decide)) (by decide) (by decide)
    have g_35 : gTE G_27 = gTE G := gTE_fr (rs := [37, 38, 39, 76, 97, 98]) (fs := [(6, 3), (66, 59), (66, 60), (66, 61), (66, 62), (66, 63)]) ((Fr.rf.call hq_12 (by decide) (by decide)).call hq_28 (by decide) (by decide)) (by decide) (by decide)
    have g_36 : gW G_27 = gW G := gW_fr (rs := [37, 38, 39, 76, 97, 98]) (fs := [(6, 3), (66, 59), (66, 60), (66, 61), (66, 62), (66, 63)]) ((Fr.rf.call hq_12 (by decide) (by decide)).call hq_28 (by decide) (by decide)) (by decide) (by decide)
    have b_37 : 0 ≤ (G.1 0 11).toInt ∧ (G.1 0 11).toInt ≤ 1600 := hB_G.i 0 11 rfl rfl
    have g_38 : (G_27.1 0 11).toInt = (G.1 0 11).toInt := by rw [show G_27.1 0 11 = (G.1 0 11) from ((hq_28.i 0 11 (by decide) (by decide)).trans (hq_12.i 0 11 (by decide) (by decide)))]
    have b_39 : 0 ≤ (G.1 3 7).toInt ∧ (G.1 3 7).toInt ≤ 4 := hB_G.i 3 7 rfl rfl
    have g_40 : (G_27.1 3 7).toInt = (G.1 3 7).toInt := by rw [show G_27.1 3 7 = (G.1 3 7) from ((hq_28.i 3 7 (by decide) (by decide)).trans (hq_12.i 3 7 (by decide) (by decide)))]
    have b_41 : (-1) ≤ (G.1 3 8).toInt ∧ (G.1 3 8).toInt ≤ 1600 := hB_G.i 3 8 rfl rfl
    have g_42 : (G_27.1 3 8).toInt = (G.1 3 8).toInt := by rw [show G_27.1 3 8 = (G.1 3 8) from ((hq_28.i 3 8 (by decide) (by decide)).trans (hq_12.i 3 8 (by decide) (by decide)))]
    have b_43 : 0 ≤ (G.1 30 4).toInt ∧ (G.1 30 4).toInt ≤ 40 := hB_G.i 30 4 rfl rfl
    have g_44 : (G_27.1 30 4).toInt = (G.1 30 4).toInt := by rw [show G_27.1 30 4 = (G.1 30 4) from ((hq_28.i 30 4 (by decide) (by decide)).trans (hq_12.i 30 4 (by decide) (by decide)))]
    have b_45 : 0 ≤ (G.1 30 5).toInt ∧ (G.1 30 5).toInt ≤ 40 := hB_G.i 30 5 rfl rfl
    have g_46 : (G_27.1 30 5).toInt = (G.1 30 5).toInt := by rw [show G_27.1 30 5 = (G.1 30 5) from ((hq_28.i 30 5 (by decide) (by decide)).trans (hq_12.i 30 5 (by decide) (by decide)))]
    have b_47 : 0 ≤ (G.1 31 6).toInt ∧ (G.1 31 6).toInt ≤ 100000 := hB_G.i 31 6 rfl rfl
    have g_48 : (G_27.1 31 6).toInt = (G.1 31 6).toInt := by rw [show G_27.1 31 6 = (G.1 31 6) from ((hq_28.i 31 6 (by decide) (by decide)).trans (hq_12.i 31 6 (by decide) (by decide)))]
    have b_49 : 0 ≤ (G.1 66 1).toInt ∧ (G.1 66 1).toInt ≤ 1600 := hB_G.i 66 1 rfl rfl
    have g_50 : (G_27.1 66 1).toInt = (G.1 66 1).toInt := by rw [show G_27.1 66 1 = (G.1 66 1) from ((hq_28.i 66 1 (by decide) (by decide)).trans (hq_12.i 66 1 (by decide) (by decide)))]
    have b_51 : 0 ≤ (G.1 66 2).toInt ∧ (G.1 66 2).toInt ≤ 4 := hB_G.i 66 2 rfl rfl
    have g_52 : (G_27.1 66 2).toInt = (G.1 66 2).toInt := by rw [show G_27.1 66 2 = (G.1 66 2) from ((hq_28.i 66 2 (by decide) (by decide)).trans (hq_12.i 66 2 (by decide) (by decide)))]
    have b_53 : (-1) ≤ (G.1 66 3).toInt ∧ (G.1 66 3).toInt ≤ 1600 := hB_G.i 66 3 rfl rfl
    have g_54 : (G_27.1 66 3).toInt = (G.1 66 3).toInt := by rw [show G_27.1 66 3 = (G.1 66 3) from ((hq_28.i 66 3 (by decide) (by decide)).trans (hq_12.i 66 3 (by decide) (by decide)))]
    have b_55 : 0 ≤ (G.1 66 78).toInt ∧ (G.1 66 78).toInt ≤ 40 := hB_G.i 66 78 rfl rfl
    have g_56 : (G_27.1 66 78).toInt = (G.1 66 78).toInt := by rw [show G_27.1 66 78 = (G.1 66 78) from ((hq_28.i 66 78 (by decide) (by decide)).trans (hq_12.i 66 78 (by decide) (by decide)))]
    have b_57 : 0 ≤ (G.1 66 79).toInt ∧ (G.1 66 79).toInt ≤ 40 := hB_G.i 66 79 rfl rfl
    have g_58 : (G_27.1 66 79).toInt = (G.1 66 79).toInt := by rw [show G_27.1 66 79 = (G.1 66 79) from ((hq_28.i 66 79 (by decide) (by decide)).trans (hq_12.i 66 79 (by decide) (by decide)))]
    have b_59 : 0 ≤ (G.1 66 86).toInt ∧ (G.1 66 86).toInt ≤ 100000 := hB_G.i 66 86 rfl rfl
    have g_60 : (G_27.1 66 86).toInt = (G.1 66 86).toInt := by rw [show G_27.1 66 86 = (G.1 66 86) from ((hq_28.i 66 86 (by decide) (by decide)).trans (hq_12.i 66 86 (by decide) (by decide)))]
    have b_61 : 0 ≤ (G.1 96 0).toInt ∧ (G.1 96 0).toInt ≤ 9 := hB_G.i 96 0 rfl rfl
    have g_62 : (G_27.1 96 0).toInt = (G.1 96 0).toInt := by rw [show G_27.1 96 0 = (G.1 96 0) from ((hq_28.i 96 0 (by decide) (by decide)).trans (hq_12.i 96 0 (by decide) (by decide)))]
    have b_63 : 0 ≤ (G.1 96 1).toInt ∧ (G.1 96 1).toInt ≤ 9 := hB_G.i 96 1 rfl rfl
    have g_64 : (G_27.1 96 1).toInt = (G.1 96 1).toInt := by rw [show G_27.1 96 1 = (G.1 96 1) from ((hq_28.i 96 1 (by decide) (by decide)).trans (hq_12.i 96 1 (by decide) (by decide)))]
    have b_65 : 0 ≤ (G.1 96 2).toInt ∧ (G.1 96 2).toInt ≤ 9 := hB_G.i 96 2 rfl rfl
    have g_66 : (G_27.1 96 2).toInt = (G.1 96 2).toInt := by rw [show G_27.1 96 2 = (G.1 96 2) from ((hq_28.i 96 2 (by decide) (by decide)).trans (hq_12.i 96 2 (by decide) (by decide)))]
    exact K G_27 _ _ _ (Or.inl ⟨((((hq_28.r 0 0 (by decide) (by decide)).trans (hq_12.r 0 0 (by decide) (by decide)))).trans (hv_0_0)), ((((hq_28.r 0 1 (by decide) (by decide)).trans (hq_12.r 0 1 (by decide) (by decide)))).trans (hv_0_1)), ((((hq_28.r 6 4 (by decide) (by decide)).trans (hq_12.r 6 4 (by decide) (by decide)))).trans (hv_6_4)), by omega, by omega, by omega, by omega, by omega, by omega, by omega, by omega, by omega, by omega, by omega, by omega, by omega⟩) hB_G_27 hW hS (lv_sub hl [0, 1, 2, 3] rfl)
  · skip
    refine lv_aload_n hx hb dL_law_1529 rfl (lv_at hl 1 rfl) ?_
    refine lv_aload_n hx hb dL_law_1530 rfl (lv_at hl 0 rfl) ?_
    refine lv_iload_n hx hb dL_law_1531 rfl (lv_at hl 3 rfl) ?_
    refine lv_iconst (v := 1) hx hb dL_law_1532 (by decide) ?_
    refine lv_iadd hx hb dL_law_1533 ?_
    refine lv_topi (fun y_1 ey_1 => ?_)
    have ty_1 : y_1.toInt = i0.toInt + 1 := xI_add rfl rfl ey_1 (by omega) (by omega)
    refine va_sld hx hb hX hbl hbA hS (vin (by omega) (by omega)) dL_law_1534 ?_
    refine lv_topi (fun y_2 ey_2 => ?_)
    have u_3 : y_2.toInt = (xs (i0 + 1).toNatClampNeg).toInt := by rw [ey_2, ey_1]
    refine lv_aload_n hx hb dL_law_1535 rfl (lv_at hl 0 rfl) ?_
    refine lv_iload_n hx hb dL_law_1536 rfl (lv_at hl 3 rfl) ?_
    refine lv_iconst (v := 2) hx hb dL_law_1537 (by decide) ?_
    refine lv_iadd hx hb dL_law_1538 ?_
    refine lv_topi (fun y_4 ey_4 => ?_)
    have ty_4 : y_4.toInt = i0.toInt + 2 := xI_add rfl rfl ey_4 (by omega) (by omega)
    refine va_sld hx hb hX hbl hbA hS (vin (by omega) (by omega)) dL_law_1539 ?_
    refine lv_topi (fun y_5 ey_5 => ?_)
    have u_6 : y_5.toInt = (xs (i0 + 2).toNatClampNeg).toInt := by rw [ey_5, ey_4]
    refine lv_aload_n hx hb dL_law_1540 rfl (lv_at hl 0 rfl) ?_
    refine lv_iload_n hx hb dL_law_1541 rfl (lv_at hl 3 rfl) ?_
    refine lv_iconst (v := 3) hx hb dL_law_1542 (by decide) ?_
    refine lv_iadd hx hb dL_law_1543 ?_
    refine lv_topi (fun y_7 ey_7 => ?_)
    have ty_7 : y_7.toInt = i0.toInt + 3 := xI_add rfl rfl ey_7 (by omega) (by omega)
    refine va_sld hx hb hX hbl hbA hS (vin (by omega) (by omega)) dL_law_1544 ?_
    refine lv_topi (fun y_8 ey_8 => ?_)
    have u_9 : y_8.toInt = (xs (i0 + 3).toNatClampNeg).toInt := by rw [ey_8, ey_7]
    refine S_calll (va_runV (As := [.int y_2, .int y_5, .int y_8]) (rest := []) ⟨hx, hb, hml, hown, hts⟩ (k_Wchance_2 l D k A a z G y_2 y_5 y_8 hv_0_0 hv_0_1 hv_6_4) (cwV 3 hts (gd_V hgd m1279 m1280 m1281 m117 m1282) rfl rfl rfl (by decide +kernel) ⟨Nat.le_of_ble_eq_true rfl, Nat.le_of_ble_eq_true rfl⟩) (pre_V hW hB_G hK hZ hS kd_0 rfl) rfl rfl hl.1 rfl (lv_room (Nat.le_of_ble_eq_true rfl)) dL_law_1545 ⟨Nat.le_of_ble_eq_true rfl, Nat.le_of_ble_eq_true rfl⟩) hS (fun r_10 G_11 H locs hpo hW hS => ?_)
    have hX_14 : P_Wchance_2 y_2 y_5 y_8 G r_10 G_11 := hpo
    obtain ⟨hB_G_11, hq_12, -⟩ := hpo
    refine lv_pop2_2 hx hb dL_law_1548 rfl ?_
    refine lv_aload_n hx hb dL_law_1549 rfl (lv_at hl 2 rfl) ?_
    refine lv_aload_n hx hb dL_law_1550 rfl (lv_at hl 0 rfl) ?_
    refine lv_iload_n hx hb dL_law_1551 rfl (lv_at hl 3 rfl) ?_
    refine lv_iconst (v := 1) hx hb dL_law_1552 (by decide) ?_
    refine lv_iadd hx hb dL_law_1553 ?_
    refine lv_topi (fun y_15 ey_15 => ?_)
    have ty_15 : y_15.toInt = i0.toInt + 1 := xI_add rfl rfl ey_15 (by omega) (by omega)
    refine va_sld hx hb hX hbl hbA hS (vin (by omega) (by omega)) dL_law_1554 ?_
    refine lv_topi (fun y_16 ey_16 => ?_)
    have u_17 : y_16.toInt = (xs (i0 + 1).toNatClampNeg).toInt := by rw [ey_16, ey_15]
    refine lv_aload_n hx hb dL_law_1555 rfl (lv_at hl 0 rfl) ?_
    refine lv_iload_n hx hb dL_law_1556 rfl (lv_at hl 3 rfl) ?_
    refine lv_iconst (v := 2) hx hb dL_law_1557 (by decide) ?_
    refine lv_iadd hx hb dL_law_1558 ?_
    refine lv_topi (fun y_18 ey_18 => ?_)
    have ty_18 : y_18.toInt = i0.toInt + 2 := xI_add rfl rfl ey_18 (by omega) (by omega)
    refine va_sld hx hb hX hbl hbA hS (vin (by omega) (by omega)) dL_law_1559 ?_
    refine lv_topi (fun y_19 ey_19 => ?_)
    have u_20 : y_19.toInt = (xs (i0 + 2).toNatClampNeg).toInt := by rw [ey_19, ey_18]
    refine lv_aload_n hx hb dL_law_1560 rfl (lv_at hl 0 rfl) ?_
    refine lv_iload_n hx hb dL_law_1561 rfl (lv_at hl 3 rfl) ?_
    refine lv_iconst (v := 3) hx hb dL_law_1562 (by decide) ?_
    refine lv_iadd hx hb dL_law_1563 ?_
    refine lv_topi (fun y_21 ey_21 => ?_)
    have ty_21 : y_21.toInt = i0.toInt + 3 := xI_add rfl rfl ey_21 (by omega) (by omega)
    refine va_sld hx hb hX hbl hbA hS (vin (by omega) (by omega)) dL_law_1564 ?_
    refine lv_topi (fun y_22 ey_22 => ?_)
    have u_23 : y_22.toInt = (xs (i0 + 3).toNatClampNeg).toInt := by rw [ey_22, ey_21]
    have g_24 : gP G_11 = gP G := gP_fr (rs := [37, 38, 39]) (fs := [(6, 3)]) (Fr.rf.call hq_12 (by decide) (by decide)) (by decide) (by decide)
    have g_25 : gS G_11 = gS G := gS_fr (rs := [37, 38, 39]) (fs := [(6, 3)]) (Fr.rf.call hq_12 (by decide) (by decide)) (by decide) (by decide)
    refine S_calll (va_runV (As := [.int y_16, .int y_19, .int y_22]) (rest := []) ⟨hx, hb, hml, hown, hts⟩ (n_chance l D k A a z G_11 y_16 y_19 y_22 (by omega) (by omega)) (cwV 3 hts (gd_V hgd m2059 m2060 m2061 m131 m2062) rfl rfl rfl (by decide +kernel) ⟨Nat.le_of_ble_eq_true rfl, Nat.le_of_ble_eq_true rfl⟩) (pre_V hW hB_G_11 hK hZ hS kd_66 rfl) rfl rfl hl.1 rfl (lv_room (Nat.le_of_ble_eq_true rfl)) dL_law_1565 ⟨Nat.le_of_ble_eq_true rfl, Nat.le_of_ble_eq_true rfl⟩) hS (fun r_26 G_27 H locs hpo hW hS => ?_)
    have hX_30 : Q_chance y_16 y_19 y_22 G_11 r_26 G_27 := hpo
    obtain ⟨hB_G_27, hq_28, -⟩ := hpo
    have u_31 := L_chance_2 hX_14 hX_30 (by omega) (by omega) (by omega) (by omega)
    refine lv_pop2_2 hx hb dL_law_1568 rfl ?_
    refine lv_goto (tgt := 1641) hx hb dL_law_1569 (by decide) ?_
    have g_32 : gO G_27 = gO G := gO_fr (rs := [37, 38, 39, 76, 97, 98]) (fs := [(6, 3), (66, 59), (66, 60), (66, 61), (66, 62), (66, 63)]) ((Fr.rf.call hq_12 (by decide) (by decide)).call hq_28 (by decide) (by decide)) (by decide) (by decide)
    have g_33 : gP G_27 = gP G := gP_fr (rs := [37, 38, 39, 76, 97, 98]) (fs := [(6, 3), (66, 59), (66, 60), (66, 61), (66, 62), (66, 63)]) ((Fr.rf.call hq_12 (by decide) (by decide)).call hq_28 (by decide) (by decide)) (by decide) (by decide)
    have g_34 : gS G_27 = gS G := gS_fr (rs := [37, 38, 39, 76, 97, 98]) (fs := [(6, 3), (66, 59), (66, 60), (66, 61), (66, 62), (66, 63)]) ((Fr.rf.call hq_12 (by decide) (by decide)).call hq_28 (by decide) (by decide)) (by decide) (by decide)
    have g_35 : gTE G_27 = gTE G := gTE_fr (rs := [37, 38, 39, 76, 97, 98]) (fs := [(6, 3), (66, 59), (66, 60), (66, 61), (66, 62), (66, 63)]) ((Fr.rf.call hq_12 (by decide) (by decide)).call hq_28 (by decide) (by decide)) (by decide) (by decide)
    have g_36 : gW G_27 = gW G := gW_fr (rs := [37, 38, 39, 76, 97, 98]) (fs := [(6, 3), (66, 59), (66, 60), (66, 61), (66, 62), (66, 63)]) ((Fr.rf.call hq_12 (by decide) (by decide)).call hq_28 (by decide) (by decide)) (by decide) (by decide)
    have b_37 : 0 ≤ (G.1 0 11).toInt ∧ (G.1 0 11).toInt ≤ 1600 := hB_G.i 0 11 rfl rfl
    have g_38 : (G_27.1 0 11).toInt = (G.1 0 11).toInt := by rw [show G_27.1 0 11 = (G.1 0 11) from ((hq_28.i 0 11 (by decide) (by decide)).trans (hq_12.i 0 11 (by decide) (by decide)))]
    have b_39 : 0 ≤ (G.1 3 7).toInt ∧ (G.1 3 7).toInt ≤ 4 := hB_G.i 3 7 rfl rfl
    have g_40 : (G_27.1 3 7).toInt = (G.1 3 7).toInt := by rw [show G_27.1 3 7 = (G.1 3 7) from ((hq_28.i 3 7 (by decide) (by decide)).trans (hq_12.i 3 7 (by decide) (by decide)))]
    have b_41 : (-1) ≤ (G.1 3 8).toInt ∧ (G.1 3 8).toInt ≤ 1600 := hB_G.i 3 8 rfl rfl
    have g_42 : (G_27.1 3 8).toInt = (G.1 3 8).toInt := by rw [show G_27.1 3 8 = (G.1 3 8) from ((hq_28.i 3 8 (by decide) (by decide)).trans (hq_12.i 3 8 (by decide) (by decide)))]
    have b_43 : 0 ≤ (G.1 30 4).toInt ∧ (G.1 30 4).toInt ≤ 40 := hB_G.i 30 4 rfl rfl
    have g_44 : (G_27.1 30 4).toInt = (G.1 30 4).toInt := by rw [show G_27.1 30 4 = (G.1 30 4) from ((hq_28.i 30 4 (by decide) (by decide)).trans (hq_12.i 30 4 (by decide) (by decide)))]
    have b_45 : 0 ≤ (G.1 30 5).toInt ∧ (G.1 30 5).toInt ≤ 40 := hB_G.i 30 5 rfl rfl
    have g_46 : (G_27.1 30 5).toInt = (G.1 30 5).toInt := by rw [show G_27.1 30 5 = (G.1 30 5) from ((hq_28.i 30 5 (by decide) (by decide)).trans (hq_12.i 30 5 (by decide) (by decide)))]
    have b_47 : 0 ≤ (G.1 31 6).toInt ∧ (G.1 31 6).toInt ≤ 100000 := hB_G.i 31 6 rfl rfl
    have g_48 : (G_27.1 31 6).toInt = (G.1 31 6).toInt := by rw [show G_27.1 31 6 = (G.1 31 6) from ((hq_28.i 31 6 (by decide) (by decide)).trans (hq_12.i 31 6 (by decide) (by decide)))]
    have b_49 : 0 ≤ (G.1 66 1).toInt ∧ (G.1 66 1).toInt ≤ 1600 := hB_G.i 66 1 rfl rfl
    have g_50 : (G_27.1 66 1).toInt = (G.1 66 1).toInt := by rw [show G_27.1 66 1 = (G.1 66 1) from ((hq_28.i 66 1 (by decide) (by decide)).trans (hq_12.i 66 1 (by decide) (by decide)))]
    have b_51 : 0 ≤ (G.1 66 2).toInt ∧ (G.1 66 2).toInt ≤ 4 := hB_G.i 66 2 rfl rfl
    have g_52 : (G_27.1 66 2).toInt = (G.1 66 2).toInt := by rw [show G_27.1 66 2 = (G.1 66 2) from ((hq_28.i 66 2 (by decide) (by decide)).trans (hq_12.i 66 2 (by decide) (by decide)))]
    have b_53 : (-1) ≤ (G.1 66 3).toInt ∧ (G.1 66 3).toInt ≤ 1600 := hB_G.i 66 3 rfl rfl
    have g_54 : (G_27.1 66 3).toInt = (G.1 66 3).toInt := by rw [show G_27.1 66 3 = (G.1 66 3) from ((hq_28.i 66 3 (by decide) (by decide)).trans (hq_12.i 66 3 (by decide) (by decide)))]
    have b_55 : 0 ≤ (G.1 66 78).toInt ∧ (G.1 66 78).toInt ≤ 40 := hB_G.i 66 78 rfl rfl
    have g_56 : (G_27.1 66 78).toInt = (G.1 66 78).toInt := by rw [show G_27.1 66 78 = (G.1 66 78) from ((hq_28.i 66 78 (by decide) (by decide)).trans (hq_12.i 66 78 (by decide) (by decide)))]
    have b_57 : 0 ≤ (G.1 66 79).toInt ∧ (G.1 66 79).toInt ≤ 40 := hB_G.i 66 79 rfl rfl
    have g_58 : (G_27.1 66 79).toInt = (G.1 66 79).toInt := by rw [show G_27.1 66 79 = (G.1 66 79) from ((hq_28.i 66 79 (by decide) (by decide)).trans (hq_12.i 66 79 (by decide) (by decide)))]
    have b_59 : 0 ≤ (G.1 66 86).toInt ∧ (G.1 66 86).toInt ≤ 100000 := hB_G.i 66 86 rfl rfl
    have g_60 : (G_27.1 66 86).toInt = (G.1 66 86).toInt := by rw [show G_27.1 66 86 = (G.1 66 86) from ((hq_28.i 66 86 (by decide) (by decide)).trans (hq_12.i 66 86 (by decide) (by decide)))]
    have b_61 : 0 ≤ (G.1 96 0).toInt ∧ (G.1 96 0).toInt ≤ 9 := hB_G.i 96 0 rfl rfl
    have g_62 : (G_27.1 96 0).toInt = (G.1 96 0).toInt := by rw [show G_27.1 96 0 = (G.1 96 0) from ((hq_28.i 96 0 (by decide) (by decide)).trans (hq_12.i 96 0 (by decide) (by decide)))]
    have b_63 : 0 ≤ (G.1 96 1).toInt ∧ (G.1 96 1).toInt ≤ 9 := hB_G.i 96 1 rfl rfl
    have g_64 : (G_27.1 96 1).toInt = (G.1 96 1).toInt := by rw [show G_27.1 96 1 = (G.1 96 1) from ((hq_28.i 96 1 (by decide) (by decide)).trans (hq_12.i 96 1 (by decide) (by decide)))]
    have b_65 : 0 ≤ (G.1 96 2).toInt ∧ (G.1 96 2).toInt ≤ 9 := hB_G.i 96 2 rfl rfl
    have g_66 : (G_27.1 96 2).toInt = (G.1 96 2).toInt := by rw [show G_27.1 96 2 = (G.1 96 2) from ((hq_28.i 96 2 (by decide) (by decide)).trans (hq_12.i 96 2 (by decide) (by decide)))]
    exact K G_27 _ _ _ (Or.inr ⟨((((hq_28.r 0 0 (by decide) (by decide)).trans (hq_12.r 0 0 (by decide) (by decide)))).trans (hv_0_0)), ((((hq_28.r 0 1 (by decide) (by decide)).trans (hq_12.r 0 1 (by decide) (by decide)))).trans (hv_0_1)), ((((hq_28.r 6 4 (by decide) (by decide)).trans (hq_12.r 6 4 (by decide) (by decide)))).trans (hv_6_4)), by omega, by omega, by omega, by omega, by omega, by omega, by omega, by omega, by omega, by omega, by omega, by omega, by omega⟩) hB_G_27 hW hS (lv_sub hl [0, 1, 2, 3] rfl)
