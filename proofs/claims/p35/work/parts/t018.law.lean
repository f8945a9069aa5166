theorem m1258 : Cond.methodLink RL 155 yX11_later ∈ gd := gd_mem 1258 (by decide +kernel) (by decide +kernel)
theorem m1259 : Cond.instanceMethod yX11_later ∈ gd := gd_mem 1259 (by decide +kernel) (by decide +kernel)
theorem m1260 : Cond.selects RX11 yX11_later yX11_later ∈ gd := gd_mem 1260 (by decide +kernel) (by decide +kernel)
theorem m1261 : Cond.code yX11_later cX11_later 2 (some .int) ∈ gd := gd_mem 1261 (by decide +kernel) (by decide +kernel)
theorem m1263 : Cond.methodLink RL 159 yX11_fits ∈ gd := gd_mem 1263 (by decide +kernel) (by decide +kernel)
theorem m1264 : Cond.instanceMethod yX11_fits ∈ gd := gd_mem 1264 (by decide +kernel) (by decide +kernel)
theorem m1265 : Cond.selects RX11 yX11_fits yX11_fits ∈ gd := gd_mem 1265 (by decide +kernel) (by decide +kernel)
theorem m1266 : Cond.code yX11_fits cX11_fits 4 (some .int) ∈ gd := gd_mem 1266 (by decide +kernel) (by decide +kernel)
theorem m1279 : Cond.methodLink RL 163 yX11_chance ∈ gd := gd_mem 1279 (by decide +kernel) (by decide +kernel)
theorem m1280 : Cond.instanceMethod yX11_chance ∈ gd := gd_mem 1280 (by decide +kernel) (by decide +kernel)
theorem m1281 : Cond.selects RX11 yX11_chance yX11_chance ∈ gd := gd_mem 1281 (by decide +kernel) (by decide +kernel)
theorem m1282 : Cond.code yX11_chance cX11_chance 10 (some .long) ∈ gd := gd_mem 1282 (by decide +kernel) (by decide +kernel)
theorem m1287 : Cond.methodLink RL 168 yX11_image ∈ gd := gd_mem 1287 (by decide +kernel) (by decide +kernel)
theorem m1288 : Cond.instanceMethod yX11_image ∈ gd := gd_mem 1288 (by decide +kernel) (by decide +kernel)
theorem m1289 : Cond.selects RX11 yX11_image yX11_image ∈ gd := gd_mem 1289 (by decide +kernel) (by decide +kernel)
theorem m1290 : Cond.code yX11_image cX11_image 2 (some .int) ∈ gd := gd_mem 1290 (by decide +kernel) (by decide +kernel)
theorem m1295 : Cond.methodLink RL 172 yX11_back ∈ gd := gd_mem 1295 (by decide +kernel) (by decide +kernel)
theorem m1296 : Cond.instanceMethod yX11_back ∈ gd := gd_mem 1296 (by decide +kernel) (by decide +kernel)
theorem m1297 : Cond.selects RX11 yX11_back yX11_back ∈ gd := gd_mem 1297 (by decide +kernel) (by decide +kernel)
theorem m1298 : Cond.code yX11_back cX11_back 2 (some .int) ∈ gd := gd_mem 1298 (by decide +kernel) (by decide +kernel)
theorem m2047 : Cond.methodLink RL 158 yX12_later ∈ gd := gd_mem 2047 (by decide +kernel) (by decide +kernel)
theorem m2048 : Cond.instanceMethod yX12_later ∈ gd := gd_mem 2048 (by decide +kernel) (by decide +kernel)
theorem m2049 : Cond.selects RX12 yX12_later yX12_later ∈ gd := gd_mem 2049 (by decide +kernel) (by decide +kernel)
theorem m2050 : Cond.code yX12_later cX12_later 2 (some .int) ∈ gd := gd_mem 2050 (by decide +kernel) (by decide +kernel)
theorem m2051 : Cond.methodLink RL 162 yX12_fits ∈ gd := gd_mem 2051 (by decide +kernel) (by decide +kernel)
theorem m2052 : Cond.instanceMethod yX12_fits ∈ gd := gd_mem 2052 (by decide +kernel) (by decide +kernel)
theorem m2053 : Cond.selects RX12 yX12_fits yX12_fits ∈ gd := gd_mem 2053 (by decide +kernel) (by decide +kernel)
theorem m2054 : Cond.code yX12_fits cX12_fits 6 (some .int) ∈ gd := gd_mem 2054 (by decide +kernel) (by decide +kernel)
theorem m2059 : Cond.methodLink RL 167 yX12_chance ∈ gd := gd_mem 2059 (by decide +kernel) (by decide +kernel)
theorem m2060 : Cond.instanceMethod yX12_chance ∈ gd := gd_mem 2060 (by decide +kernel) (by decide +kernel)
theorem m2061 : Cond.selects RX12 yX12_chance yX12_chance ∈ gd := gd_mem 2061 (by decide +kernel) (by decide +kernel)
theorem m2062 : Cond.code yX12_chance cX12_chance 12 (some .long) ∈ gd := gd_mem 2062 (by decide +kernel) (by decide +kernel)
theorem m2066 : Cond.methodLink RL 171 yX12_image ∈ gd := gd_mem 2066 (by decide +kernel) (by decide +kernel)
theorem m2067 : Cond.instanceMethod yX12_image ∈ gd := gd_mem 2067 (by decide +kernel) (by decide +kernel)
theorem m2068 : Cond.selects RX12 yX12_image yX12_image ∈ gd := gd_mem 2068 (by decide +kernel) (by decide +kernel)
theorem m2069 : Cond.code yX12_image cX12_image 3 (some .int) ∈ gd := gd_mem 2069 (by decide +kernel) (by decide +kernel)
theorem m2073 : Cond.methodLink RL 175 yX12_back ∈ gd := gd_mem 2073 (by decide +kernel) (by decide +kernel)
theorem m2074 : Cond.instanceMethod yX12_back ∈ gd := gd_mem 2074 (by decide +kernel) (by decide +kernel)
theorem m2075 : Cond.selects RX12 yX12_back yX12_back ∈ gd := gd_mem 2075 (by decide +kernel) (by decide +kernel)
theorem m2076 : Cond.code yX12_back cX12_back 3 (some .int) ∈ gd := gd_mem 2076 (by decide +kernel) (by decide +kernel)
theorem dL_law_1483 : decode cL_law 1483 = .ok (.aload_n 1, 1) := by decide +kernel
theorem dL_law_1484 : decode cL_law 1484 = .ok (.aload_n 0, 1) := by decide +kernel
theorem dL_law_1485 : decode cL_law 1485 = .ok (.iload_n 3, 1) := by decide +kernel
theorem dL_law_1486 : decode cL_law 1486 = .ok (.iconst 1, 1) := by decide +kernel
theorem dL_law_1487 : decode cL_law 1487 = .ok (.iadd, 1) := by decide +kernel
theorem dL_law_1488 : decode cL_law 1488 = .ok (.iaload, 1) := by decide +kernel
theorem dL_law_1489 : decode cL_law 1489 = .ok (.invokevirtual 155, 3) := by decide +kernel
theorem dL_law_1492 : decode cL_law 1492 = .ok (.aload_n 2, 1) := by decide +kernel
theorem dL_law_1493 : decode cL_law 1493 = .ok (.aload_n 0, 1) := by decide +kernel
theorem dL_law_1494 : decode cL_law 1494 = .ok (.iload_n 3, 1) := by decide +kernel
theorem dL_law_1495 : decode cL_law 1495 = .ok (.iconst 1, 1) := by decide +kernel
theorem dL_law_1496 : decode cL_law 1496 = .ok (.iadd, 1) := by decide +kernel
theorem dL_law_1497 : decode cL_law 1497 = .ok (.iaload, 1) := by decide +kernel
theorem dL_law_1498 : decode cL_law 1498 = .ok (.invokevirtual 158, 3) := by decide +kernel
theorem dL_law_1501 : decode cL_law 1501 = .ok (.if_icmp .eq 140, 3) := by decide +kernel
theorem dL_law_1506 : decode cL_law 1506 = .ok (.aload_n 1, 1) := by decide +kernel
theorem dL_law_1507 : decode cL_law 1507 = .ok (.aload_n 0, 1) := by decide +kernel
theorem dL_law_1508 : decode cL_law 1508 = .ok (.iload_n 3, 1) := by decide +kernel
theorem dL_law_1509 : decode cL_law 1509 = .ok (.iconst 1, 1) := by decide +kernel
theorem dL_law_1510 : decode cL_law 1510 = .ok (.iadd, 1) := by decide +kernel
theorem dL_law_1511 : decode cL_law 1511 = .ok (.iaload, 1) := by decide +kernel
theorem dL_law_1512 : decode cL_law 1512 = .ok (.invokevirtual 159, 3) := by decide +kernel
theorem dL_law_1515 : decode cL_law 1515 = .ok (.pop, 1) := by decide +kernel
theorem dL_law_1516 : decode cL_law 1516 = .ok (.aload_n 2, 1) := by decide +kernel
theorem dL_law_1517 : decode cL_law 1517 = .ok (.aload_n 0, 1) := by decide +kernel
theorem dL_law_1518 : decode cL_law 1518 = .ok (.iload_n 3, 1) := by decide +kernel
theorem dL_law_1519 : decode cL_law 1519 = .ok (.iconst 1, 1) := by decide +kernel
theorem dL_law_1520 : decode cL_law 1520 = .ok (.iadd, 1) := by decide +kernel
theorem dL_law_1521 : decode cL_law 1521 = .ok (.iaload, 1) := by decide +kernel
theorem dL_law_1522 : decode cL_law 1522 = .ok (.invokevirtual 162, 3) := by decide +kernel
theorem dL_law_1525 : decode cL_law 1525 = .ok (.pop, 1) := by decide +kernel
theorem dL_law_1526 : decode cL_law 1526 = .ok (.goto 115, 3) := by decide +kernel
theorem dL_law_1529 : decode cL_law 1529 = .ok (.aload_n 1, 1) := by decide +kernel
theorem dL_law_1530 : decode cL_law 1530 = .ok (.aload_n 0, 1) := by decide +kernel
theorem dL_law_1531 : decode cL_law 1531 = .ok (.iload_n 3, 1) := by decide +kernel
theorem dL_law_1532 : decode cL_law 1532 = .ok (.iconst 1, 1) := by decide +kernel
theorem dL_law_1533 : decode cL_law 1533 = .ok (.iadd, 1) := by decide +kernel
theorem dL_law_1534 : decode cL_law 1534 = .ok (.iaload, 1) := by decide +kernel
theorem dL_law_1535 : decode cL_law 1535 = .ok (.aload_n 0, 1) := by decide +kernel
theorem dL_law_1536 : decode cL_law 1536 = .ok (.iload_n 3, 1) := by decide +kernel
theorem dL_law_1537 : decode cL_law 1537 = .ok (.iconst 2, 1) := by decide +kernel
theorem dL_law_1538 : decode cL_law 1538 = .ok (.iadd, 1) := by decide +kernel
theorem dL_law_1539 : decode cL_law 1539 = .ok (.iaload, 1) := by decide +kernel
theorem dL_law_1540 : decode cL_law 1540 = .ok (.aload_n 0, 1) := by decide +kernel
theorem dL_law_1541 : decode cL_law 1541 = .ok (.iload_n 3, 1) := by decide +kernel
theorem dL_law_1542 : decode cL_law 1542 = .ok (.iconst 3, 1) := by decide +kernel
theorem dL_law_1543 : decode cL_law 1543 = .ok (.iadd, 1) := by decide +kernel
theorem dL_law_1544 : decode cL_law 1544 = .ok (.iaload, 1) := by decide +kernel
theorem dL_law_1545 : decode cL_law 1545 = .ok (.invokevirtual 163, 3) := by decide +kernel
theorem dL_law_1548 : decode cL_law 1548 = .ok (.pop2, 1) := by decide +kernel
theorem dL_law_1549 : decode cL_law 1549 = .ok (.aload_n 2, 1) := by decide +kernel
theorem dL_law_1550 : decode cL_law 1550 = .ok (.aload_n 0, 1) := by decide +kernel
theorem dL_law_1551 : decode cL_law 1551 = .ok (.iload_n 3, 1) := by decide +kernel
theorem dL_law_1552 : decode cL_law 1552 = .ok (.iconst 1, 1) := by decide +kernel
theorem dL_law_1553 : decode cL_law 1553 = .ok (.iadd, 1) := by decide +kernel
theorem dL_law_1554 : decode cL_law 1554 = .ok (.iaload, 1) := by decide +kernel
theorem dL_law_1555 : decode cL_law 1555 = .ok (.aload_n 0, 1) := by decide +kernel
theorem dL_law_1556 : decode cL_law 1556 = .ok (.iload_n 3, 1) := by decide +kernel
theorem dL_law_1557 : decode cL_law 1557 = .ok (.iconst 2, 1) := by decide +kernel
theorem dL_law_1558 : decode cL_law 1558 = .ok (.iadd, 1) := by decide +kernel
theorem dL_law_1559 : decode cL_law 1559 = .ok (.iaload, 1) := by decide +kernel
theorem dL_law_1560 : decode cL_law 1560 = .ok (.aload_n 0, 1) := by decide +kernel
theorem dL_law_1561 : decode cL_law 1561 = .ok (.iload_n 3, 1) := by decide +kernel
theorem dL_law_1562 : decode cL_law 1562 = .ok (.iconst 3, 1) := by decide +kernel
theorem dL_law_1563 : decode cL_law 1563 = .ok (.iadd, 1) := by decide +kernel
theorem dL_law_1564 : decode cL_law 1564 = .ok (.iaload, 1) := by decide +kernel
theorem dL_law_1565 : decode cL_law 1565 = .ok (.invokevirtual 167, 3) := by decide +kernel
theorem dL_law_1568 : decode cL_law 1568 = .ok (.pop2, 1) := by decide +kernel
theorem dL_law_1569 : decode cL_law 1569 = .ok (.goto 72, 3) := by decide +kernel
theorem dL_law_1572 : decode cL_law 1572 = .ok (.aload_n 1, 1) := by decide +kernel
theorem dL_law_1573 : decode cL_law 1573 = .ok (.aload_n 0, 1) := by decide +kernel
theorem dL_law_1574 : decode cL_law 1574 = .ok (.iload_n 3, 1) := by decide +kernel
theorem dL_law_1575 : decode cL_law 1575 = .ok (.iconst 1, 1) := by decide +kernel
theorem dL_law_1576 : decode cL_law 1576 = .ok (.iadd, 1) := by decide +kernel
theorem dL_law_1577 : decode cL_law 1577 = .ok (.iaload, 1) := by decide +kernel
theorem dL_law_1578 : decode cL_law 1578 = .ok (.invokevirtual 168, 3) := by decide +kernel
theorem dL_law_1581 : decode cL_law 1581 = .ok (.pop, 1) := by decide +kernel
theorem dL_law_1582 : decode cL_law 1582 = .ok (.aload_n 2, 1) := by decide +kernel
theorem dL_law_1583 : decode cL_law 1583 = .ok (.aload_n 0, 1) := by decide +kernel
theorem dL_law_1584 : decode cL_law 1584 = .ok (.iload_n 3, 1) := by decide +kernel
theorem dL_law_1585 : decode cL_law 1585 = .ok (.iconst 1, 1) := by decide +kernel
theorem dL_law_1586 : decode cL_law 1586 = .ok (.iadd, 1) := by decide +kernel
theorem dL_law_1587 : decode cL_law 1587 = .ok (.iaload, 1) := by decide +kernel
theorem dL_law_1588 : decode cL_law 1588 = .ok (.invokevirtual 171, 3) := by decide +kernel
theorem dL_law_1591 : decode cL_law 1591 = .ok (.pop, 1) := by decide +kernel
theorem dL_law_1592 : decode cL_law 1592 = .ok (.goto 49, 3) := by decide +kernel
theorem dL_law_1595 : decode cL_law 1595 = .ok (.aload_n 1, 1) := by decide +kernel
theorem dL_law_1596 : decode cL_law 1596 = .ok (.aload_n 0, 1) := by decide +kernel
theorem dL_law_1597 : decode cL_law 1597 = .ok (.iload_n 3, 1) := by decide +kernel
theorem dL_law_1598 : decode cL_law 1598 = .ok (.iconst 1, 1) := by decide +kernel
theorem dL_law_1599 : decode cL_law 1599 = .ok (.iadd, 1) := by decide +kernel
theorem dL_law_1600 : decode cL_law 1600 = .ok (.iaload, 1) := by decide +kernel
theorem dL_law_1601 : decode cL_law 1601 = .ok (.invokevirtual 172, 3) := by decide +kernel
theorem dL_law_1604 : decode cL_law 1604 = .ok (.pop, 1) := by decide +kernel
theorem dL_law_1605 : decode cL_law 1605 = .ok (.aload_n 2, 1) := by decide +kernel
theorem dL_law_1606 : decode cL_law 1606 = .ok (.aload_n 0, 1) := by decide +kernel
theorem dL_law_1607 : decode cL_law 1607 = .ok (.iload_n 3, 1) := by decide +kernel
theorem dL_law_1608 : decode cL_law 1608 = .ok (.iconst 1, 1) := by decide +kernel
theorem dL_law_1609 : decode cL_law 1609 = .ok (.iadd, 1) := by decide +kernel
theorem dL_law_1610 : decode cL_law 1610 = .ok (.iaload, 1) := by decide +kernel
theorem dL_law_1611 : decode cL_law 1611 = .ok (.invokevirtual 175, 3) := by decide +kernel
theorem dL_law_1614 : decode cL_law 1614 = .ok (.pop, 1) := by decide +kernel
theorem dL_law_1615 : decode cL_law 1615 = .ok (.goto 26, 3) := by decide +kernel
set_option maxHeartbeats 4000000 in
set_option maxRecDepth 100000 in
theorem law_33 {p : Program} {l : Launch} {e : Env} {s : State} {m : MethodId} {below : List Frame} {meth : Method} {c : Code} {D : va_G} {k : KT} {A : Nat → Prop} {a : Nat → Nat} {z : SK} {b L : Nat} {xs : Nat → Int32} (hL : L ≤ 3072) (C0 : lw_At p s m meth c b L xs) (hK : cK D k s) (hZ : Sx A z s) (hbA : ¬ A b) {G : GS} {i0 : Int32} (hi0 : 0 ≤ i0.toInt) (hi6 : i0.toInt + 6 ≤ L) (hI : LI G) (hB_G : Bd G) {H : Heap} {locs : List Loc} {ls : Array Slot} (hW : Wd D k A a G H) (hS : va_S A s.heap H locs) (hl : lv_has ls 4 [(0, .ref b), (1, .ref (a 0)), (2, .ref (a 66)), (3, .int i0)]) (K : ∀ (G1 : GS) (H1 : Heap) (locs1 : List Loc) (ls1 : Array Slot), LI G1 → Bd G1 → Wd D k A a G1 H1 → va_S A s.heap H1 locs1 → lv_has ls1 4 [(0, .ref b), (1, .ref (a 0)), (2, .ref (a 66)), (3, .int i0)] → W p l e room_1 s m #[Value.ref b] below meth c H1 locs1 119 46443 (lw_Z below #[Value.ref b] s) (F0 m 1641 ls1 [])) : W p l e room_1 s m #[Value.ref b] below meth c H locs 119 46443 (lw_Z below #[Value.ref b] s) (F0 m 1483 ls []) := by
  obtain ⟨hx, hb, hr, hml, hown, hts, hX, hbl, hlocks, hgv⟩ := id C0
  have hown : s.vm.findClass RL = some m.cls := hown
  have hgd : ∀ w ∈ gd, w ∈ lw_tbl := fun w h => (List.mem_filter.mp h).1
  have hg : ∀ w ∈ gd, w.before #[Value.ref b] s = true := fun w h => hts w (hgd w h)
  rcases hI with ⟨hv_0_0, hv_0_1, hv_6_4, hj0, hj1, hj2, hj3, hj4, hj5, hj6, hj7, hj8⟩ | ⟨hv_0_0, hv_0_1, hv_6_4, hj0, hj1, hj2, hj3, hj4, hj5, hj6, hj7, hj8⟩
  · skip
    refine lv_aload_n hx hb dL_law_1483 rfl (lv_at hl 1 rfl) ?_
    refine lv_aload_n hx hb dL_law_1484 rfl (lv_at hl 0 rfl) ?_
    refine lv_iload_n hx hb dL_law_1485 rfl (lv_at hl 3 rfl) ?_
    refine lv_iconst (v := 1) hx hb dL_law_1486 (by decide) ?_
    refine lv_iadd hx hb dL_law_1487 ?_
    refine lv_topi (fun y_1 ey_1 => ?_)
    have ty_1 : y_1.toInt = i0.toInt + 1 := xI_add rfl rfl ey_1 (by omega) (by omega)
    refine va_sld hx hb hX hbl hbA hS (vin (by omega) (by omega)) dL_law_1488 ?_
    refine lv_topi (fun y_2 ey_2 => ?_)
    have u_3 : y_2.toInt = (xs (i0 + 1).toNatClampNeg).toInt := by rw [ey_2, ey_1]
    refine S_calli (va_runV (As := [.int y_2]) (rest := []) ⟨hx, hb, hml, hown, hts⟩ (k_Wlater l D k A a z G y_2 ) (cwV 1 hts (gd_V hgd m1258 m1259 m1260 m117 m1261) rfl rfl rfl (by decide +kernel) ⟨Nat.le_of_ble_eq_true rfl, Nat.le_of_ble_eq_true rfl⟩) (pre_V hW hB_G hK hZ hS kd_0 rfl) rfl rfl hl.1 rfl (lv_room (Nat.le_of_ble_eq_true rfl)) dL_law_1489 ⟨Nat.le_of_ble_eq_true rfl, Nat.le_of_ble_eq_true rfl⟩) hS (fun r_4 G_5 H locs hpo hW hS => ?_)
    obtain ⟨hB_G_5, hq_6, hp_7⟩ := hpo
    refine lv_aload_n hx hb dL_law_1492 rfl (lv_at hl 2 rfl) ?_
    refine lv_aload_n hx hb dL_law_1493 rfl (lv_at hl 0 rfl) ?_
    refine lv_iload_n hx hb dL_law_1494 rfl (lv_at hl 3 rfl) ?_
    refine lv_iconst (v := 1) hx hb dL_law_1495 (by decide) ?_
    refine lv_iadd hx hb dL_law_1496 ?_
    refine lv_topi (fun y_8 ey_8 => ?_)
    have ty_8 : y_8.toInt = i0.toInt + 1 := xI_add rfl rfl ey_8 (by omega) (by omega)
    refine va_sld hx hb hX hbl hbA hS (vin (by omega) (by omega)) dL_law_1497 ?_
    refine lv_topi (fun y_9 ey_9 => ?_)
    have u_10 : y_9.toInt = (xs (i0 + 1).toNatClampNeg).toInt := by rw [ey_9, ey_8]
    have b_11 : 0 ≤ (G.1 66 86).toInt ∧ (G.1 66 86).toInt ≤ 100000 := hB_G.i 66 86 rfl rfl
    have g_12 : (G_5.1 66 86).toInt = (G.1 66 86).toInt := by rw [show G_5.1 66 86 = (G.1 66 86) from (hq_6.i 66 86 (by decide) (by decide))]
    refine S_calli (va_runV (As := [.int y_9]) (rest := [.int r_4]) ⟨hx, hb, hml, hown, hts⟩ (n_later l D k A a z G_5 y_9 ) (cwV 1 hts (gd_V hgd m2047 m2048 m2049 m131 m2050) rfl rfl rfl (by decide +kernel) ⟨Nat.le_of_ble_eq_true rfl, Nat.le_of_ble_eq_true rfl⟩) (pre_V hW hB_G_5 hK hZ hS kd_66 rfl) rfl rfl hl.1 rfl (lv_room (Nat.le_of_ble_eq_true rfl)) dL_law_1498 ⟨Nat.le_of_ble_eq_true rfl, Nat.le_of_ble_eq_true rfl⟩) hS (fun r_13 G_14 H locs hpo hW hS => ?_)
    obtain ⟨hB_G_14, hq_15, hp_16⟩ := hpo
    refine lv_icmp_eq (tgt := 1641) hx hb dL_law_1501 (by decide) (fun c_17 => ?_) (fun c_17 => ?_)
    · have c_17 : r_4.toInt = r_13.toInt := xI_eq rfl rfl c_17
      have g_18 : gO G_14 = gO G := gO_fr (rs := []) (fs := [(31, 6), (66, 86)]) ((Fr.rf.call hq_6 (by decide) (by decide)).call hq_15 (by decide) (by decide)) (by decide) (by decide)
      have g_19 : gP G_14 = gP G := gP_fr (rs := []) (fs := [(31, 6), (66, 86)]) ((Fr.rf.call hq_6 (by decide) (by decide)).call hq_15 (by decide) (by decide)) (by decide) (by decide)
      have g_20 : gS G_14 = gS G := gS_fr (rs := []) (fs := [(31, 6), (66, 86)]) ((Fr.rf.call hq_6 (by decide) (by decide)).call hq_15 (by decide) (by decide)) (by decide) (by decide)
      have g_21 : gW G_14 = gW G := gW_fr (rs := []) (fs := [(31, 6), (66, 86)]) ((Fr.rf.call hq_6 (by decide) (by decide)).call hq_15 (by decide) (by decide)) (by decide) (by decide)
      have b_22 : 0 ≤ (G.1 0 11).toInt ∧ (G.1 0 11).toInt ≤ 1600 := hB_G.i 0 11 rfl rfl
      have g_23 : (G_14.1 0 11).toInt = (G.1 0 11).toInt := by rw [show G_14.1 0 11 = (G.1 0 11) from ((hq_15.i 0 11 (by decide) (by decide)).trans (hq_6.i 0 11 (by decide) (by decide)))]
      have b_24 : 0 ≤ (G.1 30 4).toInt ∧ (G.1 30 4).toInt ≤ 40 := hB_G.i 30 4 rfl rfl
      have g_25 : (G_14.1 30 4).toInt = (G.1 30 4).toInt := by rw [show G_14.1 30 4 = (G.1 30 4) from ((hq_15.i 30 4 (by decide) (by decide)).trans (hq_6.i 30 4 (by decide) (by decide)))]
      have b_26 : 0 ≤ (G.1 30 5).toInt ∧ (G.1 30 5).toInt ≤ 40 := hB_G.i 30 5 rfl rfl
      have g_27 : (G_14.1 30 5).toInt = (G.1 30 5).toInt := by rw [show G_14.1 30 5 = (G.1 30 5) from ((hq_15.i 30 5 (by decide) (by decide)).trans (hq_6.i 30 5 (by decide) (by decide)))]
      have b_28 : 0 ≤ (G_5.1 31 6).toInt ∧ (G_5.1 31 6).toInt ≤ 100000 := hB_G_5.i 31 6 rfl rfl
      have g_29 : (G_14.1 31 6).toInt = (G_5.1 31 6).toInt := by rw [show G_14.1 31 6 = (G_5.1 31 6) from (hq_15.i 31 6 (by decide) (by decide))]
      have b_30 : 0 ≤ (G.1 66 1).toInt ∧ (G.1 66 1).toInt ≤ 1600 := hB_G.i 66 1 rfl rfl
      have g_31 : (G_14.1 66 1).toInt = (G.1 66 1).toInt := by rw [show G_14.1 66 1 = (G.1 66 1) from ((hq_15.i 66 1 (by decide) (by decide)).trans (hq_6.i 66 1 (by decide) (by decide)))]
      have b_32 : 0 ≤ (G.1 66 78).toInt ∧ (G.1 66 78).toInt ≤ 40 := hB_G.i 66 78 rfl rfl
      have g_33 : (G_14.1 66 78).toInt = (G.1 66 78).toInt := by rw [show G_14.1 66 78 = (G.1 66 78) from ((hq_15.i 66 78 (by decide) (by decide)).trans (hq_6.i 66 78 (by decide) (by decide)))]
      have b_34 : 0 ≤ (G.1 66 79).toInt ∧ (G.1 66 79).toInt ≤ 40 := hB_G.i 66 79 rfl rfl
      have g_35 : (G_14.1 66 79).toInt = (G.1 66 79).toInt := by rw [show G_14.1 66 79 = (G.1 66 79) from ((hq_15.i 66 79 (by decide) (by decide)).trans (hq_6.i 66 79 (by decide) (by decide)))]
      have b_36 : 0 ≤ (G_14.1 66 86).toInt ∧ (G_14.1 66 86).toInt ≤ 100000 := hB_G_14.i 66 86 rfl rfl
      have b_37 : 0 ≤ (G.1 96 0).toInt ∧ (G.1 96 0).toInt ≤ 9 := hB_G.i 96 0 rfl rfl
      have g_38 : (G_14.1 96 0).toInt = (G.1 96 0).toInt := by rw [show G_14.1 96 0 = (G.1 96 0) from ((hq_15.i 96 0 (by decide) (by decide)).trans (hq_6.i 96 0 (by decide) (by decide)))]
      have b_39 : 0 ≤ (G.1 96 1).toInt ∧ (G.1 96 1).toInt ≤ 9 := hB_G.i 96 1 rfl rfl
      have g_40 : (G_14.1 96 1).toInt = (G.1 96 1).toInt := by rw [show G_14.1 96 1 = (G.1 96 1) from ((hq_15.i 96 1 (by decide) (by decide)).trans (hq_6.i 96 1 (by decide) (by decide)))]
      have b_41 : 0 ≤ (G.1 96 2).toInt ∧ (G.1 96 2).toInt ≤ 9 := hB_G.i 96 2 rfl rfl
      have g_42 : (G_14.1 96 2).toInt = (G.1 96 2).toInt := by rw [show G_14.1 96 2 = (G.1 96 2) from ((hq_15.i 96 2 (by decide) (by decide)).trans (hq_6.i 96 2 (by decide) (by decide)))]
      exact K G_14 _ _ _ (Or.inl ⟨((((hq_15.r 0 0 (by decide) (by decide)).trans (hq_6.r 0 0 (by decide) (by decide)))).trans (hv_0_0)), ((((hq_15.r 0 1 (by decide) (by decide)).trans (hq_6.r 0 1 (by decide) (by decide)))).trans (hv_0_1)), ((((hq_15.r 6 4 (by decide) (by decide)).trans (hq_6.r 6 4 (by decide) (by decide)))).trans (hv_6_4)), by omega, by omega, by omega, by omega, by omega, by omega, by omega, by omega, by omega⟩) hB_G_14 hW hS (lv_sub hl [0, 1, 2, 3] rfl)
    · have c_17 : r_4.toInt ≠ r_13.toInt := xI_ne rfl rfl c_17
      exfalso; omega
  · skip
    refine lv_aload_n hx hb dL_law_1483 rfl (lv_at hl 1 rfl) ?_
    refine lv_aload_n hx hb dL_law_1484 rfl (lv_at hl 0 rfl) ?_
    refine lv_iload_n hx hb dL_law_1485 rfl (lv_at hl 3 rfl) ?_
    refine lv_iconst (v := 1) hx hb dL_law_1486 (by decide) ?_
    refine lv_iadd hx hb dL_law_1487 ?_
    refine lv_topi (fun y_1 ey_1 => ?_)
    have ty_1 : y_1.toInt = i0.toInt + 1 := xI_add rfl rfl ey_1 (by omega) (by omega)
    refine va_sld hx hb hX hbl hbA hS (vin (by omega) (by omega)) dL_law_1488 ?_
    refine lv_topi (fun y_2 ey_2 => ?_)
    have u_3 : y_2.toInt = (xs (i0 + 1).toNatClampNeg).toInt := by rw [ey_2, ey_1]
    refine S_calli (va_runV (As := [.int y_2]) (rest := []) ⟨hx, hb, hml, hown, hts⟩ (k_Wlater l D k A a z G y_2 ) (cwV 1 hts (gd_V hgd m1258 m1259 m1260 m117 m1261) rfl rfl rfl (by decide +kernel) ⟨Nat.le_of_ble_eq_true rfl, Nat.le_of_ble_eq_true rfl⟩) (pre_V hW hB_G hK hZ hS kd_0 rfl) rfl rfl hl.1 rfl (lv_room (Nat.le_of_ble_eq_true rfl)) dL_law_1489 ⟨Nat.le_of_ble_eq_true rfl, Nat.le_of_ble_eq_true rfl⟩) hS (fun r_4 G_5 H locs hpo hW hS => ?_)
    obtain ⟨hB_G_5, hq_6, hp_7⟩ := hpo
    refine lv_aload_n hx hb dL_law_1492 rfl (lv_at hl 2 rfl) ?_
    refine lv_aload_n hx hb dL_law_1493 rfl (lv_at hl 0 rfl) ?_
    refine lv_iload_n hx hb dL_law_1494 rfl (lv_at hl 3 rfl) ?_
    refine lv_iconst (v := 1) hx hb dL_law_1495 (by decide) ?_
    refine lv_iadd hx hb dL_law_1496 ?_
    refine lv_topi (fun y_8 ey_8 => ?_)
    have ty_8 : y_8.toInt = i0.toInt + 1 := xI_add rfl rfl ey_8 (by omega) (by omega)
    refine va_sld hx hb hX hbl hbA hS (vin (by omega) (by omega)) dL_law_1497 ?_
    refine lv_topi (fun y_9 ey_9 => ?_)
    have u_10 : y_9.toInt = (xs (i0 + 1).toNatClampNeg).toInt := by rw [ey_9, ey_8]
    have b_11 : 0 ≤ (G.1 66 86).toInt ∧ (G.1 66 86).toInt ≤ 100000 := hB_G.i 66 86 rfl rfl
    have g_12 : (G_5.1 66 86).toInt = (G.1 66 86).toInt := by rw [show G_5.1 66 86 = (G.1 66 86) from (hq_6.i 66 86 (by decide) (by decide))]
    refine S_calli (va_runV (As := [.int y_9]) (rest := [.int r_4]) ⟨hx, hb, hml, hown, hts⟩ (n_later l D k A a z G_5 y_9 ) (cwV 1 hts (gd_V hgd m2047 m2048 m2049 m131 m2050) rfl rfl rfl (by decide +kernel) ⟨Nat.le_of_ble_eq_true rfl, Nat.le_of_ble_eq_true rfl⟩) (pre_V hW hB_G_5 hK hZ hS kd_66 rfl) rfl rfl hl.1 rfl (lv_room (Nat.le_of_ble_eq_true rfl)) dL_law_1498 ⟨Nat.le_of_ble_eq_true rfl, Nat.le_of_ble_eq_true rfl⟩) hS (fun r_13 G_14 H locs hpo hW hS => ?_)
    obtain ⟨hB_G_14, hq_15, hp_16⟩ := hpo
    refine lv_icmp_eq (tgt := 1641) hx hb dL_law_1501 (by decide) (fun c_17 => ?_) (fun c_17 => ?_)
    · have c_17 : r_4.toInt = r_13.toInt := xI_eq rfl rfl c_17
      have g_18 : gO G_14 = gO G := gO_fr (rs := []) (fs := [(31, 6), (66, 86)]) ((Fr.rf.call hq_6 (by decide) (by decide)).call hq_15 (by decide) (by decide)) (by decide) (by decide)
      have g_19 : gP G_14 = gP G := gP_fr (rs := []) (fs := [(31, 6), (66, 86)]) ((Fr.rf.call hq_6 (by decide) (by decide)).call hq_15 (by decide) (by decide)) (by decide) (by decide)
      have g_20 : gS G_14 = gS G := gS_fr (rs := []) (fs := [(31, 6), (66, 86)]) ((Fr.rf.call hq_6 (by decide) (by decide)).call hq_15 (by decide) (by decide)) (by decide) (by decide)
      have g_21 : gW G_14 = gW G := gW_fr (rs := []) (fs := [(31, 6), (66, 86)]) ((Fr.rf.call hq_6 (by decide) (by decide)).call hq_15 (by decide) (by decide)) (by decide) (by decide)
      have b_22 : 0 ≤ (G.1 0 11).toInt ∧ (G.1 0 11).toInt ≤ 1600 := hB_G.i 0 11 rfl rfl
      have g_23 : (G_14.1 0 11).toInt = (G.1 0 11).toInt := by rw [show G_14.1 0 11 = (G.1 0 11) from ((hq_15.i 0 11 (by decide) (by decide)).trans (hq_6.i 0 11 (by decide) (by decide)))]
      have b_24 : 0 ≤ (G.1 30 4).toInt ∧ (G.1 30 4).toInt ≤ 40 := hB_G.i 30 4 rfl rfl
      have g_25 : (G_14.1 30 4).toInt = (G.1 30 4).toInt := by rw [show G_14.1 30 4 = (G.1 30 4) from ((hq_15.i 30 4 (by decide) (by decide)).trans (hq_6.i 30 4 (by decide) (by decide)))]
      have b_26 : 0 ≤ (G.1 30 5).toInt ∧ (G.1 30 5).toInt ≤ 40 := hB_G.i 30 5 rfl rfl
      have g_27 : (G_14.1 30 5).toInt = (G.1 30 5).toInt := by rw [show G_14.1 30 5 = (G.1 30 5) from ((hq_15.i 30 5 (by decide) (by decide)).trans (hq_6.i 30 5 (by decide) (by decide)))]
      have b_28 : 0 ≤ (G_5.1 31 6).toInt ∧ (G_5.1 31 6).toInt ≤ 100000 := hB_G_5.i 31 6 rfl rfl
      have g_29 : (G_14.1 31 6).toInt = (G_5.1 31 6).toInt := by rw [show G_14.1 31 6 = (G_5.1 31 6) from (hq_15.i 31 6 (by decide) (by decide))]
      have b_30 : 0 ≤ (G.1 66 1).toInt ∧ (G.1 66 1).toInt ≤ 1600 := hB_G.i 66 1 rfl rfl
      have g_31 : (G_14.1 66 1).toInt = (G.1 66 1).toInt := by rw [show G_14.1 66 1 = (G.1 66 1) from ((hq_15.i 66 1 (by decide) (by decide)).trans (hq_6.i 66 1 (by decide) (by decide)))]
      have b_32 : 0 ≤ (G.1 66 78).toInt ∧ (G.1 66 78).toInt ≤ 40 := hB_G.i 66 78 rfl rfl
      have g_33 : (G_14.1 66 78).toInt = (G.1 66 78).toInt := by rw [show G_14.1 66 78 = (G.1 66 78) from ((hq_15.i 66 78 (by decide) (by decide)).trans (hq_6.i 66 78 (by decide) (by decide)))]
      have b_34 : 0 ≤ (G.1 66 79).toInt ∧ (G.1 66 79).toInt ≤ 40 := hB_G.i 66 79 rfl rfl
      have g_35 : (G_14.1 66 79).toInt = (G.1 66 79).toInt := by rw [show G_14.1 66 79 = (G.1 66 79) from ((hq_15.i 66 79 (by decide) (by decide)).trans (hq_6.i 66 79 (by decide) (by decide)))]
      have b_36 : 0 ≤ (G_14.1 66 86).toInt ∧ (G_14.1 66 86).toInt ≤ 100000 := hB_G_14.i 66 86 rfl rfl
      have b_37 : 0 ≤ (G.1 96 0).toInt ∧ (G.1 96 0).toInt ≤ 9 := hB_G.i 96 0 rfl rfl
      have g_38 : (G_14.1 96 0).toInt = (G.1 96 0).toInt := by rw [show G_14.1 96 0 = (G.1 96 0) from ((hq_15.i 96 0 (by decide) (by decide)).trans (hq_6.i 96 0 (by decide) (by decide)))]
      have b_39 : 0 ≤ (G.1 96 1).toInt ∧ (G.1 96 1).toInt ≤ 9 := hB_G.i 96 1 rfl rfl
      have g_40 : (G_14.1 96 1).toInt = (G.1 96 1).toInt := by rw [show G_14.1 96 1 = (G.1 96 1) from ((hq_15.i 96 1 (by decide) (by decide)).trans (hq_6.i 96 1 (by decide) (by decide)))]
      have b_41 : 0 ≤ (G.1 96 2).toInt ∧ (G.1 96 2).toInt ≤ 9 := hB_G.i 96 2 rfl rfl
      have g_42 : (G_14.1 96 2).toInt = (G.1 96 2).toInt := by rw [show G_14.1 96 2 = (G.1 96 2) from ((hq_15.i 96 2 (by decide) (by decide)).trans (hq_6.i 96 2 (by decide) (by decide)))]
      exact K G_14 _ _ _ (Or.inr ⟨((((hq_15.r 0 0 (by decide) (by decide)).trans (hq_6.r 0 0 (by decide) (by decide)))).trans (hv_0_0)), ((((hq_15.r 0 1 (by decide) (by decide)).trans (hq_6.r 0 1 (by decide) (by decide)))).trans (hv_0_1)), ((((hq_15.r 6 4 (by decide) (by decide)).trans (hq_6.r 6 4 (by decide) (by decide)))).trans (hv_6_4)), by omega, by omega, by omega, by omega, by omega, by omega, by omega, by omega, by omega⟩) hB_G_14 hW hS (lv_sub hl [0, 1, 2, 3] rfl)
    · have c_17 : r_4.toInt ≠ r_13.toInt := xI_ne rfl rfl c_17
      exfalso; omega

set_option maxHeartbeats 4000000 in
set_option maxRecDepth 100000 in
theorem law_34 {p : Program} {l : Launch} {e : Env} {s : State} {m : MethodId} {below : List Frame} {meth : Method} {c : Code} {D : va_G} {k : KT} {A : Nat → Prop} {a : Nat → Nat} {z : SK} {b L : Nat} {xs : Nat → Int32} (hL : L ≤ 3072) (C0 : lw_At p s m meth c b L xs) (hK : cK D k s) (hZ : Sx A z s) (hbA : ¬ A b) {G : GS} {i0 : Int32} (hi0 : 0 ≤ i0.toInt) (hi6 : i0.toInt + 6 ≤ L) (hI : LI G) (hB_G : Bd G) {H : Heap} {locs : List Loc} {ls : Array Slot} (hW : Wd D k A a G H) (hS : va_S A s.heap H locs) (hl : lv_has ls 4 [(0, .ref b), (1, .ref (a 0)), (2, .ref (a 66)), (3, .int i0)]) (K : ∀ (G1 : GS) (H1 : Heap) (locs1 : List Loc) (ls1 : Array Slot), LI G1 → Bd G1 → Wd D k A a G1 H1 → va_S A s.heap H1 locs1 → lv_has ls1 4 [(0, .ref b), (1, .ref (a 0)), (2, .ref (a 66)), (3, .int i0)] → W p l e room_1 s m #[Value.ref b] below meth c H1 locs1 119 46443 (lw_Z below #[Value.ref b] s) (F0 m 1641 ls1 [])) : W p l e room_1 s m #[Value.ref b] below meth c H locs 119 46443 (lw_Z below #[Value.ref b] s) (F0 m 1506 ls []) := by
  obtain ⟨hx, hb, hr, hml, hown, hts, hX, hbl, hlocks, hgv⟩ := id C0
  have hown : s.vm.findClass RL = some m.cls := hown
  have hgd : ∀ w ∈ gd, w ∈ lw_tbl := fun w h => (List.mem_filter.mp h).1
  have hg : ∀ w ∈ gd, w.before #[Value.ref b] s = true := fun w h => hts w (hgd w h)
  rcases hI with ⟨hv_0_0, hv_0_1, hv_6_4, hj0, hj1, hj2, hj3, hj4, hj5, hj6, hj7, hj8⟩ | ⟨hv_0_0, hv_0_1, hv_6_4, hj0, hj1, hj2, hj3, hj4, hj5, hj6, hj7, hj8⟩
  · skip
    refine lv_aload_n hx hb dL_law_1506 rfl (lv_at hl 1 rfl) ?_
    refine lv_aload_n hx hb dL_law_1507 rfl (lv_at hl 0 rfl) ?_
    refine lv_iload_n hx hb dL_law_1508 rfl (lv_at hl 3 rfl) ?_
    refine lv_iconst (v := 1) hx hb dL_law_1509 (by decide) ?_
    refine lv_iadd hx hb dL_law_1510 ?_
    refine lv_topi (fun y_1 ey_1 => ?_)
    have ty_1 : y_1.toInt = i0.toInt + 1 := xI_add rfl rfl ey_1 (by omega) (by omega)
    refine va_sld hx hb hX hbl hbA hS (vin (by omega) (by omega)) dL_law_1511 ?_
    refine lv_topi (fun y_2 ey_2 => ?_)
    have u_3 : y_2.toInt = (xs (i0 + 1).toNatClampNeg).toInt := by rw [ey_2, ey_1]
    refine S_calli (va_runV (As := [.int y_2]) (rest := []) ⟨hx, hb, hml, hown, hts⟩ (k_Wfits_1 l D k A a z G y_2 hv_0_0 hv_0_1 hv_6_4) (cwV 1 hts (gd_V hgd m1263 m1264 m1265 m117 m1266) rfl rfl rfl (by decide +kernel) ⟨Nat.le_of_ble_eq_true rfl, Nat.le_of_ble_eq_true rfl⟩) (pre_V hW hB_G hK hZ hS kd_0 rfl) rfl rfl hl.1 rfl (lv_room (Nat.le_of_ble_eq_true rfl)) dL_law_1512 ⟨Nat.le_of_ble_eq_true rfl, Nat.le_of_ble_eq_true rfl⟩) hS (fun r_4 G_5 H locs hpo hW hS => ?_)
    obtain ⟨hB_G_5, hq_6⟩ := hpo
    refine lv_pop hx hb dL_law_1515 rfl ?_
    refine lv_aload_n hx hb dL_law_1516 rfl (lv_at hl 2 rfl) ?_
    refine lv_aload_n hx hb dL_law_1517 rfl (lv_at hl 0 rfl) ?_
    refine lv_iload_n hx hb dL_law_1518 rfl (lv_at hl 3 rfl) ?_
    refine lv_iconst (v := 1) hx hb dL_law_1519 (by decide) ?_
    refine lv_iadd hx hb dL_law_1520 ?_
    refine lv_topi (fun y_8 ey_8 => ?_)
    have ty_8 : y_8.toInt = i0.toInt + 1 := xI_add rfl rfl ey_8 (by omega) (by omega)
    refine va_sld hx hb hX hbl hbA hS (vin (by omega) (by omega)) dL_law_1521 ?_
    refine lv_topi (fun y_9 ey_9 => ?_)
    have u_10 : y_9.toInt = (xs (i0 + 1).toNatClampNeg).toInt := by rw [ey_9, ey_8]
    have g_11 : gP G_5 = gP G := gP_fr (rs := [37, 38, 39]) (fs := [(6, 3)]) (Fr.rf.call hq_6 (by decide) (by decide)) (by decide) (by decide)
    refine S_calli (va_runV (As := [.int y_9]) (rest := []) ⟨hx, hb, hml, hown, hts⟩ (n_fits l D k A a z G_5 y_9 (by omega)) (cwV 1 hts (gd_V hgd m2051 m2052 m2053 m131 m2054) rfl rfl rfl (by decide +kernel) ⟨Nat.le_of_ble_eq_true rfl, Nat.le_of_ble_eq_true rfl⟩) (pre_V hW hB_G_5 hK hZ hS kd_66 rfl) rfl rfl hl.1 rfl (lv_room (Nat.le_of_ble_eq_true rfl)) dL_law_1522 ⟨Nat.le_of_ble_eq_true rfl, Nat.le_of_ble_eq_true rfl⟩) hS (fun r_12 G_13 H locs hpo hW hS => ?_)
    obtain ⟨hB_G_13, hq_14⟩ := hpo
    refine lv_pop hx hb dL_law_1525 rfl ?_
    refine lv_goto (tgt := 1641) hx hb dL_law_1526 (by decide) ?_
    have g_16 : gO G_13 = gO G := gO_fr (rs := [37, 38, 39, 76, 97, 98]) (fs := [(6, 3), (66, 59), (66, 60), (66, 61), (66, 62), (66, 63)]) ((Fr.rf.call hq_6 (by decide) (by decide)).call hq_14 (by decide) (by decide)) (by decide) (by decide)
    have g_17 : gP G_13 = gP G := gP_fr (rs := [37, 38, 39, 76, 97, 98]) (fs := [(6, 3), (66, 59), (66, 60), (66, 61), (66, 62), (66, 63)]) ((Fr.rf.call hq_6 (by decide) (by decide)).call hq_14 (by decide) (by decide)) (by decide) (by decide)
    have g_18 : gS G_13 = gS G := gS_fr (rs := [37, 38, 39, 76, 97, 98]) (fs := [(6, 3), (66, 59), (66, 60), (66, 61), (66, 62), (66, 63)]) ((Fr.rf.call hq_6 (by decide) (by decide)).call hq_14 (by decide) (by decide)) (by decide) (by decide)
    have g_19 : gW G_13 = gW G := gW_fr (rs := [37, 38, 39, 76, 97, 98]) (fs := [(6, 3), (66, 59), (66, 60), (66, 61), (66, 62), (66, 63)]) ((Fr.rf.call hq_6 (by decide) (by decide)).call hq_14 (by decide) (by decide)) (by decide) (by decide)
    have b_20 : 0 ≤ (G.1 0 11).toInt ∧ (G.1 0 11).toInt ≤ 1600 := hB_G.i 0 11 rfl rfl
    have g_21 : (G_13.1 0 11).toInt = (G.1 0 11).toInt := by rw [show G_13.1 0 11 = (G.1 0 11) from ((hq_14.i 0 11 (by decide) (by decide)).trans (hq_6.i 0 11 (by decide) (by decide)))]
    have b_22 : 0 ≤ (G.1 30 4).toInt ∧ (G.1 30 4).toInt ≤ 40 := hB_G.i 30 4 rfl rfl
    have g_23 : (G_13.1 30 4).toInt = (G.1 30 4).toInt := by rw [show G_13.1 30 4 = (G.1 30 4) from ((hq_14.i 30 4 (by decide) (by decide)).trans (hq_6.i 30 4 (by decide) (by decide)))]
    have b_24 : 0 ≤ (G.1 30 5).toInt ∧ (G.1 30 5).toInt ≤ 40 := hB_G.i 30 5 rfl rfl
    have g_25 : (G_13.1 30 5).toInt = (G.1 30 5).toInt := by rw [show G_13.1 30 5 = (G.1 30 5) from ((hq_14.i 30 5 (by decide) (by decide)).trans (hq_6.i 30 5 (by decide) (by decide)))]
    have b_26 : 0 ≤ (G.1 31 6).toInt ∧ (G.1 31 6).toInt ≤ 100000 := hB_G.i 31 6 rfl rfl
    have g_27 : (G_13.1 31 6).toInt = (G.1 31 6).toInt := by rw [show G_13.1 31 6 = (G.1 31 6) from ((hq_14.i 31 6 (by decide) (by decide)).trans (hq_6.i 31 6 (by decide) (by decide)))]
    have b_28 : 0 ≤ (G.1 66 1).toInt ∧ (G.1 66 1).toInt ≤ 1600 := hB_G.i 66 1 rfl rfl
    have g_29 : (G_13.1 66 1).toInt = (G.1 66 1).toInt := by rw [show G_13.1 66 1 = (G.1 66 1) from ((hq_14.i 66 1 (by decide) (by decide)).trans (hq_6.i 66 1 (by decide) (by decide)))]
    have b_30 : 0 ≤ (G.1 66 78).toInt ∧ (G.1 66 78).toInt ≤ 40 := hB_G.i 66 78 rfl rfl
    have g_31 : (G_13.1 66 78).toInt = (G.1 66 78).toInt := by rw [show G_13.1 66 78 = (G.1 66 78) from ((hq_14.i 66 78 (by decide) (by decide)).trans (hq_6.i 66 78 (by decide) (by decide)))]
    have b_32 : 0 ≤ (G.1 66 79).toInt ∧ (G.1 66 79).toInt ≤ 40 := hB_G.i 66 79 rfl rfl
    have g_33 : (G_13.1 66 79).toInt = (G.1 66 79).toInt := by rw [show G_13.1 66 79 = (G.1 66 79) from ((hq_14.i 66 79 (by decide) (by decide)).trans (hq_6.i 66 79 (by decide) (by decide)))]
    have b_34 : 0 ≤ (G.1 66 86).toInt ∧ (G.1 66 86).toInt ≤ 100000 := hB_G.i 66 86 rfl rfl
    have g_35 : (G_13.1 66 86).toInt = (G.1 66 86).toInt := by rw [show G_13.1 66 86 = (G.1 66 86) from ((hq_14.i 66 86 (by decide) (by decide)).trans (hq_6.i 66 86 (by decide) (by decide)))]
    have b_36 : 0 ≤ (G.1 96 0).toInt ∧ (G.1 96 0).toInt ≤ 9 := hB_G.i 96 0 rfl rfl
    have g_37 : (G_13.1 96 0).toInt = (G.1 96 0).toInt := by rw [show G_13.1 96 0 = (G.1 96 0) from ((hq_14.i 96 0 (by decide) (by decide)).trans (hq_6.i 96 0 (by decide) (by decide)))]
    have b_38 : 0 ≤ (G.1 96 1).toInt ∧ (G.1 96 1).toInt ≤ 9 := hB_G.i 96 1 rfl rfl
    have g_39 : (G_13.1 96 1).toInt = (G.1 96 1).toInt := by rw [show G_13.1 96 1 = (G.1 96 1) from ((hq_14.i 96 1 (by decide) (by decide)).trans (hq_6.i 96 1 (by decide) (by decide)))]
    have b_40 : 0 ≤ (G.1 96 2).toInt ∧ (G.1 96 2).toInt ≤ 9 := hB_G.i 96 2 rfl rfl
    have g_41 : (G_13.1 96 2).toInt = (G.1 96 2).toInt := by rw [show G_13.1 96 2 = (G.1 96 2) from ((hq_14.i 96 2 (by decide) (by decide)).trans (hq_6.i 96 2 (by decide) (by decide)))]
    exact K G_13 _ _ _ (Or.inl ⟨((((hq_14.r 0 0 (by decide) (by decide)).trans (hq_6.r 0 0 (by decide) (by decide)))).trans (hv_0_0)), ((((hq_14.r 0 1 (by decide) (by decide)).trans (hq_6.r 0 1 (by decide) (by decide)))).trans (hv_0_1)), ((((hq_14.r 6 4 (by decide) (by decide)).trans (hq_6.r 6 4 (by decide) (by decide)))).trans (hv_6_4)), by omega, by omega, by omega, by omega, by omega, by omega, by omega, by omega, by omega⟩) hB_G_13 hW hS (lv_sub hl [0, 1, 2, 3] rfl)
  · skip
    refine lv_aload_n hx hb dL_law_1506 rfl (lv_at hl 1 rfl) ?_
    refine lv_aload_n hx hb dL_law_1507 rfl (lv_at hl 0 rfl) ?_
    refine lv_iload_n hx hb dL_law_1508 rfl (lv_at hl 3 rfl) ?_
    refine lv_iconst (v := 1) hx hb dL_law_1509 (by decide) ?_
    refine lv_iadd hx hb dL_law_1510 ?_
    refine lv_topi (fun y_1 ey_1 => ?_)
    have ty_1 : y_1.toInt = i0.toInt + 1 := xI_add rfl rfl ey_1 (by omega) (by omega)
    refine va_sld hx hb hX hbl hbA hS (vin (by omega) (by omega)) dL_law_1511 ?_
    refine lv_topi (fun y_2 ey_2 => ?_)
    have u_3 : y_2.toInt = (xs (i0 + 1).toNatClampNeg).toInt := by rw [ey_2, ey_1]
    refine S_calli (va_runV (As := [.int y_2]) (rest := []) ⟨hx, hb, hml, hown, hts⟩ (k_Wfits_2 l D k A a z G y_2 hv_0_0 hv_0_1 hv_6_4) (cwV 1 hts (gd_V hgd m1263 m1264 m1265 m117 m1266) rfl rfl rfl (by decide +kernel) ⟨Nat.le_of_ble_eq_true rfl, Nat.le_of_ble_eq_true rfl⟩) (pre_V hW hB_G hK hZ hS kd_0 rfl) rfl rfl hl.1 rfl (lv_room (Nat.le_of_ble_eq_true rfl)) dL_law_1512 ⟨Nat.le_of_ble_eq_true rfl, Nat.le_of_ble_eq_true rfl⟩) hS (fun r_4 G_5 H locs hpo hW hS => ?_)
    obtain ⟨hB_G_5, hq_6⟩ := hpo
    refine lv_pop hx hb dL_law_1515 rfl ?_
    refine lv_aload_n hx hb dL_law_1516 rfl (lv_at hl 2 rfl) ?_
    refine lv_aload_n hx hb dL_law_1517 rfl (lv_at hl 0 rfl) ?_
    refine lv_iload_n hx hb dL_law_1518 rfl (lv_at hl 3 rfl) ?_
    refine lv_iconst (v := 1) hx hb dL_law_1519 (by decide) ?_
    refine lv_iadd hx hb dL_law_1520 ?_
    refine lv_topi (fun y_8 ey_8 => ?_)
    have ty_8 : y_8.toInt = i0.toInt + 1 := xI_add rfl rfl ey_8 (by omega) (by omega)
    refine va_sld hx hb hX hbl hbA hS (vin (by omega) (by omega)) dL_law_1521 ?_
    refine lv_topi (fun y_9 ey_9 => ?_)
    have u_10 : y_9.toInt = (xs (i0 + 1).toNatClampNeg).toInt := by rw [ey_9, ey_8]
    have g_11 : gP G_5 = gP G := gP_fr (rs := [37, 38, 39]) (fs := [(6, 3)]) (Fr.rf.call hq_6 (by decide) (by decide)) (by decide) (by decide)
    refine S_calli (va_runV (As := [.int y_9]) (rest := []) ⟨hx, hb, hml, hown, hts⟩ (n_fits l D k A a z G_5 y_9 (by omega)) (cwV 1 hts (gd_V hgd m2051 m2052 m2053 m131 m2054) rfl rfl rfl (by decide +kernel) ⟨Nat.le_of_ble_eq_true rfl, Nat.le_of_ble_eq_true rfl⟩) (pre_V hW hB_G_5 hK hZ hS kd_66 rfl) rfl rfl hl.1 rfl (lv_room (Nat.le_of_ble_eq_true rfl)) dL_law_1522 ⟨Nat.le_of_ble_eq_true rfl, Nat.le_of_ble_eq_true rfl⟩) hS (fun r_12 G_13 H locs hpo hW hS => ?_)
    obtain ⟨hB_G_13, hq_14⟩ := hpo
    refine lv_pop hx hb dL_law_1525 rfl ?_
    refine lv_goto (tgt := 1641) hx hb dL_law_1526 (by decide) ?_
    have g_16 : gO G_13 = gO G := gO_fr (rs := [37, 38, 39, 76, 97, 98]) (fs := [(6, 3), (66, 59), (66, 60), (66, 61), (66, 62), (66, 63)]) ((Fr.rf.call hq_6 (by decide) (by decide)).call hq_14 (by decide) (by decide)) (by decide) (by decide)
    have g_17 : gP G_13 = gP G := gP_fr (rs := [37, 38, 39, 76, 97, 98]) (fs := [(6, 3), (66, 59), (66, 60), (66, 61), (66, 62), (66, 63)]) ((Fr.rf.call hq_6 (by decide) (by decide)).call hq_14 (by decide) (by decide)) (by decide) (by decide)
    have g_18 : gS G_13 = gS G := gS_fr (rs := [37, 38, 39, 76, 97, 98]) (fs := [(6, 3), (66, 59), (66, 60), (66, 61), (66, 62), (66, 63)]) ((Fr.rf.call hq_6 (by decide) (by decide)).call hq_14 (by decide) (by decide)) (by decide) (by decide)
    have g_19 : gW G_13 = gW G := gW_fr (rs := [37, 38, 39, 76, 97, 98]) (fs := [(6, 3), (66, 59), (66, 60), (66, 61), (66, 62), (66, 63)]) ((Fr.rf.call hq_6 (by decide) (by decide)).call hq_14 (by decide) (by decide)) (by decide) (by decide)
    have b_20 : 0 ≤ (G.1 0 11).toInt ∧ (G.1 0 11).toInt ≤ 1600 := hB_G.i 0 11 rfl rfl
    have g_21 : (G_13.1 0 11).toInt = (G.1 0 11).toInt := by rw [show G_13.1 0 11 = (G.1 0 11) from ((hq_14.i 0 11 (by decide) (by decide)).trans (hq_6.i 0 11 (by decide) (by decide)))]
    have b_22 : 0 ≤ (G.1 30 4).toInt ∧ (G.1 30 4).toInt ≤ 40 := hB_G.i 30 4 rfl rfl
    have g_23 : (G_13.1 30 4).toInt = (G.1 30 4).toInt := by rw [show G_13.1 30 4 = (G.1 30 4) from ((hq_14.i 30 4 (by decide) (by decide)).trans (hq_6.i 30 4 (by decide) (by decide)))]
    have b_24 : 0 ≤ (G.1 30 5).toInt ∧ (G.1 30 5).toInt ≤ 40 := hB_G.i 30 5 rfl rfl
    have g_25 : (G_13.1 30 5).toInt = (G.1 30 5).toInt := by rw [show G_13.1 30 5 = (G.1 30 5) from ((hq_14.i 30 5 (by decide) (by decide)).trans (hq_6.i 30 5 (by decide) (by decide)))]
    have b_26 : 0 ≤ (G.1 31 6).toInt ∧ (G.1 31 6).toInt ≤ 100000 := hB_G.i 31 6 rfl rfl
    have g_27 : (G_13.1 31 6).toInt = (G.1 31 6).toInt := by rw [show G_13.1 31 6 = (G.1 31 6) from ((hq_14.i 31 6 (by decide) (by decide)).trans (hq_6.i 31 6 (by decide) (by decide)))]
    have b_28 : 0 ≤ (G.1 66 1).toInt ∧ (G.1 66 1).toInt ≤ 1600 := hB_G.i 66 1 rfl rfl
    have g_29 : (G_13.1 66 1).toInt = (G.1 66 1).toInt := by rw [show G_13.1 66 1 = (G.1 66 1) from ((hq_14.i 66 1 (by decide) (by decide)).trans (hq_6.i 66 1 (by decide) (by decide)))]
    have b_30 : 0 ≤ (G.1 66 78).toInt ∧ (G.1 66 78).toInt ≤ 40 := hB_G.i 66 78 rfl rfl
    have g_31 : (G_13.1 66 78).toInt = (G.1 66 78).toInt := by rw [show G_13.1 66 78 = (G.1 66 78) from ((hq_14.i 66 78 (by decide) (by decide)).trans (hq_6.i 66 78 (by decide) (by decide)))]
    have b_32 : 0 ≤ (G.1 66 79).toInt ∧ (G.1 66 79).toInt ≤ 40 := hB_G.i 66 79 rfl rfl
    have g_33 : (G_13.1 66 79).toInt = (G.1 66 79).toInt := by rw [show G_13.1 66 79 = (G.1 66 79) from ((hq_14.i 66 79 (by decide) (by decide)).trans (hq_6.i 66 79 (by decide) (by decide)))]
    have b_34 : 0 ≤ (G.1 66 86).toInt ∧ (G.1 66 86).toInt ≤ 100000 := hB_G.i 66 86 rfl rfl
    have g_35 : (G_13.1 66 86).toInt = (G.1 66 86).toInt := by rw [show G_13.1 66 86 = (G.1 66 86) from ((hq_14.i 66 86 (by decide) (by decide)).trans (hq_6.i 66 86 (by decide) (by decide)))]
    have b_36 : 0 ≤ (G.1 96 0).toInt ∧ (G.1 96 0).toInt ≤ 9 := hB_G.i 96 0 rfl rfl
    have g_37 : (G_13.1 96 0).toInt = (G.1 96 0).toInt := by rw [show G_13.1 96 0 = (G.1 96 0) from ((hq_14.i 96 0 (by decide) (by decide)).trans (hq_6.i 96 0 (by decide) (by decide)))]
    have b_38 : 0 ≤ (G.1 96 1).toInt ∧ (G.1 96 1).toInt ≤ 9 := hB_G.i 96 1 rfl rfl
    have g_39 : (G_13.1 96 1).toInt = (G.1 96 1).toInt := by rw [show G_13.1 96 1 = (G.1 96 1) from ((hq_14.i 96 1 (by decide) (by decide)).trans (hq_6.i 96 1 (by decide) (by decide)))]
    have b_40 : 0 ≤ (G.1 96 2).toInt ∧ (G.1 96 2).toInt ≤ 9 := hB_G.i 96 2 rfl rfl
    have g_41 : (G_13.1 96 2).toInt = (G.1 96 2).toInt := by rw [show G_13.1 96 2 = (G.1 96 2) from ((hq_14.i 96 2 (by decide) (by decide)).trans (hq_6.i 96 2 (by decide) (by decide)))]
    exact K G_13 _ _ _ (Or.inr ⟨((((hq_14.r 0 0 (by decide) (by decide)).trans (hq_6.r 0 0 (by decide) (by decide)))).trans (hv_0_0)), ((((hq_14.r 0 1 (by decide) (by decide)).trans (hq_6.r 0 1 (by decide) (by decide)))).trans (hv_0_1)), ((((hq_14.r 6 4 (by decide) (by decide)).trans (hq_6.r 6 4 (by decide) (by decide)))).trans (hv_6_4)), by omega, by omega, by omega, by omega, by omega, by omega, by omega, by omega, by omega⟩) hB_G_13 hW hS (lv_sub hl [0, 1, 2, 3] rfl)

set_option maxHeartbeats 4000000 in
set_option maxRecDepth 100000 in
theorem law_35 {p : Program} {l : Launch} {e : Env} {s : State} {m : MethodId} {below : List Frame} {meth : Method} {c : Code} {D : va_G} {k : KT} {A : Nat → Prop} {a : Nat → Nat} {z : SK} {b L : Nat} {xs : Nat → Int32} (hL : L ≤ 3072) (C0 : lw_At p s m meth c b L xs) (hK : cK D k s) (hZ : Sx A z s) (hbA : ¬ A b) {G : GS} {i0 : Int32} (hi0 : 0 ≤ i0.toInt) (hi6 : i0.toInt + 6 ≤ L) (hI : LI G) (hB_G : Bd G) {H : Heap} {locs : List Loc} {ls : Array Slot} (hW : Wd D k A a G H) (hS : va_S A s.heap H locs) (hl : lv_has ls 4 [(0, .ref b), (1, .ref (a 0)), (2, .ref (a 66)), (3, .int i0)]) (K : ∀ (G1 : GS) (H1 : Heap) (locs1 : List Loc) (ls1 : Array Slot), LI G1 → Bd G1 → Wd D k A a G1 H1 → va_S A s.heap H1 locs1 → lv_has ls1 4 [(0, .ref b), (1, .ref (a 0)), (2, .ref (a 66)), (3, .int i0)] → W p l e room_1 s m #[Value.ref b] below meth c H1 locs1 119 46443 (lw_Z below #[Value.ref b] s) (F0 m 1641 ls1 [])) : W p l e room_1 s m #[Value.ref b] below meth c H locs 119 46443 (lw_Z below #[Value.ref b] s) (F0 m 1529 ls []) := by
  obtain ⟨hx, hb, hr, hml, hown, hts, hX, hbl, hlocks, hgv⟩ := id C0
  have hown : s.vm.findClass RL = some m.cls := hown
  have hgd : ∀ w ∈ gd, w ∈ lw_tbl := fun w h => (List.mem_filter.mp h).1
  have hg : ∀ w ∈ gd, w.before #[Value.ref b] s = true := fun w h => hts w (hgd w h)
  rcases hI with ⟨hv_0_0, hv_0_1, hv_6_4, hj0, hj1, hj2, hj3, hj4, hj5, hj6, hj7, hj8⟩ | ⟨hv_0_0, hv_0_1, hv_6_4, hj0, hj1, hj2, hj3, hj4, hj5, hj6, hj7, hj8⟩
  · skip
    refine lv_aload_n hx hb dL_law_1529 rfl (lv_at hl 1 rfl) ?_
    refine lv_aload_n hx hb dL_law_1530 rfl (lv_at hl 0 rfl) ?_
    refine lv_iload_n hx hb dL_law_1531 rfl (lv_at hl 3 rfl) ?_
    refine lv_iconst (v := 1) hx hb dL_law_1532 (by decide) ?_
    refine lv_iadd hx hb dL_law_1533 ?_
    refine lv_topi (fun y_1 ey_1 => ?_)
    have ty_1 : y_1.toInt = i0.toInt + 1 := xI_add rfl rfl ey_1 (by omega) (by omega)
    refine va_sld hx hb hX hbl hbA hS (vin (by omega) (by omega)) dL_law_1534 ?_
    refine lv_topi (fun y_2 ey_2 => ?_)
    have u_3 : y_2.toInt = (xs (i0 + 1).toNatClampNeg).toInt := by rw [ey_2, ey_1]
    refine lv_aload_n hx hb dL_law_1535 rfl (lv_at hl 0 rfl) ?_
    refine lv_iload_n hx hb dL_law_1536 rfl (lv_at hl 3 rfl) ?_
    refine lv_iconst (v := 2) hx hb dL_law_1537 (by decide) ?_
    refine lv_iadd hx hb dL_law_1538 ?_
    refine lv_topi (fun y_4 ey_4 => ?_)
    have ty_4 : y_4.toInt = i0.toInt + 2 := xI_add rfl rfl ey_4 (by omega) (by omega)
    refine va_sld hx hb hX hbl hbA hS (vin (by omega) (by omega)) dL_law_1539 ?_
    refine lv_topi (fun y_5 ey_5 => ?_)
    have u_6 : y_5.toInt = (xs (i0 + 2).toNatClampNeg).toInt := by rw [ey_5, ey_4]
    refine lv_aload_n hx hb dL_law_1540 rfl (lv_at hl 0 rfl) ?_
    refine lv_iload_n hx hb dL_law_1541 rfl (lv_at hl 3 rfl) ?_
    refine lv_iconst (v := 3) hx hb dL_law_1542 (by decide) ?_
    refine lv_iadd hx hb dL_law_1543 ?_
    refine lv_topi (fun y_7 ey_7 => ?_)
    have ty_7 : y_7.toInt = i0.toInt + 3 := xI_add rfl rfl ey_7 (by omega) (by omega)
    refine va_sld hx hb hX hbl hbA hS (vin (by omega) (by omega)) dL_law_1544 ?_
    refine lv_topi (fun y_8 ey_8 => ?_)
    have u_9 : y_8.toInt = (xs (i0 + 3).toNatClampNeg).toInt := by rw [ey_8, ey_7]
    refine S_calll (va_runV (As := [.int y_2, .int y_5, .int y_8]) (rest := []) ⟨hx, hb, hml, hown, hts⟩ (k_Wchance_1 l D k A a z G y_2 y_5 y_8 hv_0_0 hv_0_1 hv_6_4) (cwV 3 hts (gd_V hgd m1279 m1280 m1281 m117 m1282) rfl rfl rfl (by decide +kernel) ⟨Nat.le_of_ble_eq_true rfl, Nat.le_of_ble_eq_true rfl⟩) (pre_V hW hB_G hK hZ hS kd_0 rfl) rfl rfl hl.1 rfl (lv_room (Nat.le_of_ble_eq_true rfl)) dL_law_1545 ⟨Nat.le_of_ble_eq_true rfl, Nat.le_of_ble_eq_true rfl⟩) hS (fun r_10 G_11 H locs hpo hW hS => ?_)
    obtain ⟨hB_G_11, hq_12⟩ := hpo
    refine lv_pop2_2 hx hb dL_law_1548 rfl ?_
    refine lv_aload_n hx hb dL_law_1549 rfl (lv_at hl 2 rfl) ?_
    refine lv_aload_n hx hb dL_law_1550 rfl (lv_at hl 0 rfl) ?_
    refine lv_iload_n hx hb dL_law_1551 rfl (lv_at hl 3 rfl) ?_
    refine lv_iconst (v := 1) hx hb dL_law_1552 (by decide) ?_
    refine lv_iadd hx hb dL_law_1553 ?_
    refine lv_topi (fun y_14 ey_14 => ?_)
    have ty_14 : y_14.toInt = i0.toInt + 1 := xI_add rfl rfl ey_14 (by omega) (by omega)
    refine va_sld hx hb hX hbl hbA hS (vin (by omega) (by omega)) dL_law_1554 ?_
    refine lv_topi (fun y_15 ey_15 => ?_)
    have u_16 : y_15.toInt = (xs (i0 + 1).toNatClampNeg).toInt := by rw [ey_15, ey_14]
    refine lv_aload_n hx hb dL_law_1555 rfl (lv_at hl 0 rfl) ?_
    refine lv_iload_n hx hb dL_law_1556 rfl (lv_at hl 3 rfl) ?_
    refine lv_iconst (v := 2) hx hb dL_law_1557 (by decide) ?_
    refine lv_iadd hx hb dL_law_1558 ?_
    refine lv_topi (fun y_17 ey_17 => ?_)
    have ty_17 : y_17.toInt = i0.toInt + 2 := xI_add rfl rfl ey_17 (by omega) (by omega)
    refine va_sld hx hb hX hbl hbA hS (vin (by omega) (by omega)) dL_law_1559 ?_
    refine lv_topi (fun y_18 ey_18 => ?_)
    have u_19 : y_18.toInt = (xs (i0 + 2).toNatClampNeg).toInt := by rw [ey_18, ey_17]
    refine lv_aload_n hx hb dL_law_1560 rfl (lv_at hl 0 rfl) ?_
    refine lv_iload_n hx hb dL_law_1561 rfl (lv_at hl 3 rfl) ?_
    refine lv_iconst (v := 3) hx hb dL_law_1562 (by decide) ?_
    refine lv_iadd hx hb dL_law_1563 ?_
    refine lv_topi (fun y_20 ey_20 => ?_)
    have ty_20 : y_20.toInt = i0.toInt + 3 := xI_add rfl rfl ey_20 (by omega) (by omega)
    refine va_sld hx hb hX hbl hbA hS (vin (by omega) (by omega)) dL_law_1564 ?_
    refine lv_topi (fun y_21 ey_21 => ?_)
    have u_22 : y_21.toInt = (xs (i0 + 3).toNatClampNeg).toInt := by rw [ey_21, ey_20]
    have g_23 : gP G_11 = gP G := gP_fr (rs := [37, 38, 39]) (fs := [(6, 3)]) (Fr.rf.call hq_12 (by decide) (by decide)) (by decide) (by decide)
    have g_24 : gS G_11 = gS G := gS_fr (rs := [37, 38, 39]) (fs := [(6, 3)]) (Fr.rf.call hq_12 (by decide) (by decide)) (by decide) (by decide)
    refine S_calll (va_runV (As := [.int y_15, .int y_18, .int y_21]) (rest := []) ⟨hx, hb, hml, hown, hts⟩ (n_chance l D k A a z G_11 y_15 y_18 y_21 (by omega) (by omega)) (cwV 3 hts (gd_V hgd m2059 m2060 m2061 m131 m2062) rfl rfl rfl (by decide +kernel) ⟨Nat.le_of_ble_eq_true rfl, Nat.le_of_ble_eq_true rfl⟩) (pre_V hW hB_G_11 hK hZ hS kd_66 rfl) rfl rfl hl.1 rfl (lv_room (Nat.le_of_ble_eq_true rfl)) dL_law_1565 ⟨Nat.le_of_ble_eq_true rfl, Nat.le_of_ble_eq_true rfl⟩) hS (fun r_25 G_26 H locs hpo hW hS => ?_)
    obtain ⟨hB_G_26, hq_27⟩ := hpo
    refine lv_pop2_2 hx hb dL_law_1568 rfl ?_
    refine lv_goto (tgt := 1641) hx hb dL_law_1569 (by decide) ?_
    have g_29 : gO G_26 = gO G := gO_fr (rs := [37, 38, 39, 76, 97, 98]) (fs := [(6, 3), (66, 59), (66, 60), (66, 61), (66, 62), (66, 63)]) ((Fr.rf.call hq_12 (by decide) (by decide)).call hq_27 (by decide) (by decide)) (by decide) (by decide)
    have g_30 : gP G_26 = gP G := gP_fr (rs := [37, 38, 39, 76, 97, 98]) (fs := [(6, 3), (66, 59), (66, 60), (66, 61), (66, 62), (66, 63)]) ((Fr.rf.call hq_12 (by decide) (by decide)).call hq_27 (by decide) (by decide)) (by decide) (by decide)
    have g_31 : gS G_26 = gS G := gS_fr (rs := [37, 38, 39, 76, 97, 98]) (fs := [(6, 3), (66, 59), (66, 60), (66, 61), (66, 62), (66, 63)]) ((Fr.rf.call hq_12 (by decide) (by decide)).call hq_27 (by decide) (by decide)) (by decide) (by decide)
    have g_32 : gW G_26 = gW G := gW_fr (rs := [37, 38, 39, 76, 97, 98]) (fs := [(6, 3), (66, 59), (66, 60), (66, 61), (66, 62), (66, 63)]) ((Fr.rf.call hq_12 (by decide) (by decide)).call hq_27 (by decide) (by decide)) (by decide) (by decide)
    have b_33 : 0 ≤ (G.1 0 11).toInt ∧ (G.1 0 11).toInt ≤ 1600 := hB_G.i 0 11 rfl rfl
    have g_34 : (G_26.1 0 11).toInt = (G.1 0 11).toInt := by rw [show G_26.1 0 11 = (G.1 0 11) from ((hq_27.i 0 11 (by decide) (by decide)).trans (hq_12.i 0 11 (by decide) (by decide)))]
    have b_35 : 0 ≤ (G.1 30 4).toInt ∧ (G.1 30 4).toInt ≤ 40 := hB_G.i 30 4 rfl rfl
    have g_36 : (G_26.1 30 4).toInt = (G.1 30 4).toInt := by rw [show G_26.1 30 4 = (G.1 30 4) from ((hq_27.i 30 4 (by decide) (by decide)).trans (hq_12.i 30 4 (by decide) (by decide)))]
    have b_37 : 0 ≤ (G.1 30 5).toInt ∧ (G.1 30 5).toInt ≤ 40 := hB_G.i 30 5 rfl rfl
    have g_38 : (G_26.1 30 5).toInt = (G.1 30 5).toInt := by rw [show G_26.1 30 5 = (G.1 30 5) from ((hq_27.i 30 5 (by decide) (by decide)).trans (hq_12.i 30 5 (by decide) (by decide)))]
    have b_39 : 0 ≤ (G.1 31 6).toInt ∧ (G.1 31 6).toInt ≤ 100000 := hB_G.i 31 6 rfl rfl
    have g_40 : (G_26.1 31 6).toInt = (G.1 31 6).toInt := by rw [show G_26.1 31 6 = (G.1 31 6) from ((hq_27.i 31 6 (by decide) (by decide)).trans (hq_12.i 31 6 (by decide) (by decide)))]
    have b_41 : 0 ≤ (G.1 66 1).toInt ∧ (G.1 66 1).toInt ≤ 1600 := hB_G.i 66 1 rfl rfl
    have g_42 : (G_26.1 66 1).toInt = (G.1 66 1).toInt := by rw [show G_26.1 66 1 = (G.1 66 1) from ((hq_27.i 66 1 (by decide) (by decide)).trans (hq_12.i 66 1 (by decide) (by decide)))]
    have b_43 : 0 ≤ (G.1 66 78).toInt ∧ (G.1 66 78).toInt ≤ 40 := hB_G.i 66 78 rfl rfl
    have g_44 : (G_26.1 66 78).toInt = (G.1 66 78).toInt := by rw [show G_26.1 66 78 = (G.1 66 78) from ((hq_27.i 66 78 (by decide) (by decide)).trans (hq_12.i 66 78 (by decide) (by decide)))]
    have b_45 : 0 ≤ (G.1 66 79).toInt ∧ (G.1 66 79).toInt ≤ 40 := hB_G.i 66 79 rfl rfl
    have g_46 : (G_26.1 66 79).toInt = (G.1 66 79).toInt := by rw [show G_26.1 66 79 = (G.1 66 79) from ((hq_27.i 66 79 (by decide) (by decide)).trans (hq_12.i 66 79 (by decide) (by decide)))]
    have b_47 : 0 ≤ (G.1 66 86).toInt ∧ (G.1 66 86).toInt ≤ 100000 := hB_G.i 66 86 rfl rfl
    have g_48 : (G_26.1 66 86).toInt = (G.1 66 86).toInt := by rw [show G_26.1 66 86 = (G.1 66 86) from ((hq_27.i 66 86 (by decide) (by decide)).trans (hq_12.i 66 86 (by decide) (by decide)))]
    have b_49 : 0 ≤ (G.1 96 0).toInt ∧ (G.1 96 0).toInt ≤ 9 := hB_G.i 96 0 rfl rfl
    have g_50 : (G_26.1 96 0).toInt = (G.1 96 0).toInt := by rw [show G_26.1 96 0 = (G.1 96 0) from ((hq_27.i 96 0 (by decide) (by decide)).trans (hq_12.i 96 0 (by decide) (by decide)))]
    have b_51 : 0 ≤ (G.1 96 1).toInt ∧ (G.1 96 1).toInt ≤ 9 := hB_G.i 96 1 rfl rfl
    have g_52 : (G_26.1 96 1).toInt = (G.1 96 1).toInt := by rw [show G_26.1 96 1 = (G.1 96 1) from ((hq_27.i 96 1 (by decide) (by decide)).trans (hq_12.i 96 1 (by decide) (by decide)))]
    have b_53 : 0 ≤ (G.1 96 2).toInt ∧ (G.1 96 2).toInt ≤ 9 := hB_G.i 96 2 rfl rfl
    have g_54 : (G_26.1 96 2).toInt = (G.1 96 2).toInt := by rw [show G_26.1 96 2 = (G.1 96 2) from ((hq_27.i 96 2 (by decide) (by decide)).trans (hq_12.i 96 2 (by decide) (by decide)))]
    exact K G_26 _ _ _ (Or.inl ⟨((((hq_27.r 0 0 (by decide) (by decide)).trans (hq_12.r 0 0 (by decide) (by decide)))).trans (hv_0_0)), ((((hq_27.r 0 1 (by decide) (by decide)).trans (hq_12.r 0 1 (by decide) (by decide)))).trans (hv_0_1)), ((((hq_27.r 6 4 (by decide) (by decide)).trans (hq_12.r 6 4 (by decide) (by decide)))).trans (hv_6_4)), by omega, by omega, by omega, by omega, by omega, by omega, by omega, by omega, by omega⟩) hB_G_26 hW hS (lv_sub hl [0, 1, 2, 3] rfl)
  · skip
    refine lv_aload_n hx hb dL_law_1529 rfl (lv_at hl 1 rfl) ?_
    refine lv_aload_n hx hb dL_law_1530 rfl (lv_at hl 0 rfl) ?_
    refine lv_iload_n hx hb dL_law_1531 rfl (lv_at hl 3 rfl) ?_
    refine lv_iconst (v := 1) hx hb dL_law_1532 (by decide) ?_
    refine lv_iadd hx hb dL_law_1533 ?_
    refine lv_topi (fun y_1 ey_1 => ?_)
    have ty_1 : y_1.toInt = i0.toInt + 1 := xI_add rfl rfl ey_1 (by omega) (by omega)
    refine va_sld hx hb hX hbl hbA hS (vin (by omega) (by omega)) dL_law_1534 ?_
    refine lv_topi (fun y_2 ey_2 => ?_)
    have u_3 : y_2.toInt = (xs (i0 + 1).toNatClampNeg).toInt := by rw [ey_2, ey_1]
    refine lv_aload_n hx hb dL_law_1535 rfl (lv_at hl 0 rfl) ?_
    refine lv_iload_n hx hb dL_law_1536 rfl (lv_at hl 3 rfl) ?_
    refine lv_iconst (v := 2) hx hb dL_law_1537 (by decide) ?_
    refine lv_iadd hx hb dL_law_1538 ?_
    refine lv_topi (fun y_4 ey_4 => ?_)
    have ty_4 : y_4.toInt = i0.toInt + 2 := xI_add rfl rfl ey_4 (by omega) (by omega)
    refine va_sld hx hb hX hbl hbA hS (vin (by omega) (by omega)) dL_law_1539 ?_
    refine lv_topi (fun y_5 ey_5 => ?_)
    have u_6 : y_5.toInt = (xs (i0 + 2).toNatClampNeg).toInt := by rw [ey_5, ey_4]
    refine lv_aload_n hx hb dL_law_1540 rfl (lv_at hl 0 rfl) ?_
    refine lv_iload_n hx hb dL_law_1541 rfl (lv_at hl 3 rfl) ?_
    refine lv_iconst (v := 3) hx hb dL_law_1542 (by decide) ?_
    refine lv_iadd hx hb dL_law_1543 ?_
    refine lv_topi (fun y_7 ey_7 => ?_)
    have ty_7 : y_7.toInt = i0.toInt + 3 := xI_add rfl rfl ey_7 (by omega) (by omega)
    refine va_sld hx hb hX hbl hbA hS (vin (by omega) (by omega)) dL_law_1544 ?_
    refine lv_topi (fun y_8 ey_8 => ?_)
    have u_9 : y_8.toInt = (xs (i0 + 3).toNatClampNeg).toInt := by rw [ey_8, ey_7]
    refine S_calll (va_runV (As := [.int y_2, .int y_5, .int y_8]) (rest := []) ⟨hx, hb, hml, hown, hts⟩ (k_Wchance_2 l D k A a z G y_2 y_5 y_8 hv_0_0 hv_0_1 hv_6_4) (cwV 3 hts (gd_V hgd m1279 m1280 m1281 m117 m1282) rfl rfl rfl (by decide +kernel) ⟨Nat.le_of_ble_eq_true rfl, Nat.le_of_ble_eq_true rfl⟩) (pre_V hW hB_G hK hZ hS kd_0 rfl) rfl rfl hl.1 rfl (lv_room (Nat.le_of_ble_eq_true rfl)) dL_law_1545 ⟨Nat.le_of_ble_eq_true rfl, Nat.le_of_ble_eq_true rfl⟩) hS (fun r_10 G_11 H locs hpo hW hS => ?_)
    obtain ⟨hB_G_11, hq_12⟩ := hpo
    refine lv_pop2_2 hx hb dL_law_1548 rfl ?_
    refine lv_aload_n hx hb dL_law_1549 rfl (lv_at hl 2 rfl) ?_
    refine lv_aload_n hx hb dL_law_1550 rfl (lv_at hl 0 rfl) ?_
    refine lv_iload_n hx hb dL_law_1551 rfl (lv_at hl 3 rfl) ?_
    refine lv_iconst (v := 1) hx hb dL_law_1552 (by decide) ?_
    refine lv_iadd hx hb dL_law_1553 ?_
    refine lv_topi (fun y_14 ey_14 => ?_)
    have ty_14 : y_14.toInt = i0.toInt + 1 := xI_add rfl rfl ey_14 (by omega) (by omega)
    refine va_sld hx hb hX hbl hbA hS (vin (by omega) (by omega)) dL_law_1554 ?_
    refine lv_topi (fun y_15 ey_15 => ?_)
    have u_16 : y_15.toInt = (xs (i0 + 1).toNatClampNeg).toInt := by rw [ey_15, ey_14]
    refine lv_aload_n hx hb dL_law_1555 rfl (lv_at hl 0 rfl) ?_
    refine lv_iload_n hx hb dL_law_1556 rfl (lv_at hl 3 rfl) ?_
    refine lv_iconst (v := 2) hx hb dL_law_1557 (by decide) ?_
    refine lv_iadd hx hb dL_law_1558 ?_
    refine lv_topi (fun y_17 ey_17 => ?_)
    have ty_17 : y_17.toInt = i0.toInt + 2 := xI_add rfl rfl ey_17 (by omega) (by omega)
    refine va_sld hx hb hX hbl hbA hS (vin (by omega) (by omega)) dL_law_1559 ?_
    refine lv_topi (fun y_18 ey_18 => ?_)
    have u_19 : y_18.toInt = (xs (i0 + 2).toNatClampNeg).toInt := by rw [ey_18, ey_17]
    refine lv_aload_n hx hb dL_law_1560 rfl (lv_at hl 0 rfl) ?_
    refine lv_iload_n hx hb dL_law_1561 rfl (lv_at hl 3 rfl) ?_
    refine lv_iconst (v := 3) hx hb dL_law_1562 (by decide) ?_
    refine lv_iadd hx hb dL_law_1563 ?_
    refine lv_topi (fun y_20 ey_20 => ?_)
    have ty_20 : y_20.toInt = i0.toInt + 3 := xI_add rfl rfl ey_20 (by omega) (by omega)
    refine va_sld hx hb hX hbl hbA hS (vin (by omega) (by omega)) dL_law_1564 ?_
    refine lv_topi (fun y_21 ey_21 => ?_)
    have u_22 : y_21.toInt = (xs (i0 + 3).toNatClampNeg).toInt := by rw [ey_21, ey_20]
    have g_23 : gP G_11 = gP G := gP_fr (rs := [37, 38, 39]) (fs := [(6, 3)]) (Fr.rf.call hq_12 (by decide) (by decide)) (by decide) (by decide)
    have g_24 : gS G_11 = gS G := gS_fr (rs := [37, 38, 39]) (fs := [(6, 3)]) (Fr.rf.call hq_12 (by decide) (by decide)) (by decide) (by decide)
    refine S_calll (va_runV (As := [.int y_15, .int y_18, .int y_21]) (rest := []) ⟨hx, hb, hml, hown, hts⟩ (n_chance l D k A a z G_11 y_15 y_18 y_21 (by omega) (by omega)) (cwV 3 hts (gd_V hgd m2059 m2060 m2061 m131 m2062) rfl rfl rfl (by decide +kernel) ⟨Nat.le_of_ble_eq_true rfl, Nat.le_of_ble_eq_true rfl⟩) (pre_V hW hB_G_11 hK hZ hS kd_66 rfl) rfl rfl hl.1 rfl (lv_room (Nat.le_of_ble_eq_true rfl)) dL_law_1565 ⟨Nat.le_of_ble_eq_true rfl, Nat.le_of_ble_eq_true rfl⟩) hS (fun r_25 G_26 H locs hpo hW hS => ?_)
    obtain ⟨hB_G_26, hq_27⟩ := hpo
    refine lv_pop2_2 hx hb dL_law_1568 rfl ?_
    refine lv_goto (tgt := 1641) hx hb dL_law_1569 (by decide) ?_
    have g_29 : gO G_26 = gO G := gO_fr (rs := [37, 38, 39, 76, 97, 98]) (fs := [(6, 3), (66, 59), (66, 60), (66, 61), (66, 62), (66, 63)]) ((Fr.rf.call hq_12 (by decide) (by decide)).call hq_27 (by decide) (by decide)) (by decide) (by decide)
    have g_30 : gP G_26 = gP G := gP_fr (rs := [37, 38, 39, 76, 97, 98]) (fs := [(6, 3), (66, 59), (66, 60), (66, 61), (66, 62), (66, 63)]) ((Fr.rf.call hq_12 (by decide) (by decide)).call hq_27 (by decide) (by decide)) (by decide) (by decide)
    have g_31 : gS G_26 = gS G := gS_fr (rs := [37, 38, 39, 76, 97, 98]) (fs := [(6, 3), (66, 59), (66, 60), (66, 61), (66, 62), (66, 63)]) ((Fr.rf.call hq_12 (by decide) (by decide)).call hq_27 (by decide) (by decide)) (by decide) (by decide)
    have g_32 : gW G_26 = gW G := gW_fr (rs := [37, 38, 39, 76, 97, 98]) (fs := [(6, 3), (66, 59), (66, 60), (66, 61), (66, 62), (66, 63)]) ((Fr.rf.call hq_12 (by decide) (by decide)).call hq_27 (by decide) (by decide)) (by decide) (by decide)
    have b_33 : 0 ≤ (G.1 0 11).toInt ∧ (G.1 0 11).toInt ≤ 1600 := hB_G.i 0 11 rfl rfl
    have g_34 : (G_26.1 0 11).toInt = (G.1 0 11).toInt := by rw [show G_26.1 0 11 = (G.1 0 11) from ((hq_27.i 0 11 (by decide) (by decide)).trans (hq_12.i 0 11 (by decide) (by decide)))]
    have b_35 : 0 ≤ (G.1 30 4).toInt ∧ (G.1 30 4).toInt ≤ 40 := hB_G.i 30 4 rfl rfl
    have g_36 : (G_26.1 30 4).toInt = (G.1 30 4).toInt := by rw [show G_26.1 30 4 = (G.1 30 4) from ((hq_27.i 30 4 (by decide) (by decide)).trans (hq_12.i 30 4 (by decide) (by decide)))]
    have b_37 : 0 ≤ (G.1 30 5).toInt ∧ (G.1 30 5).toInt ≤ 40 := hB_G.i 30 5 rfl rfl
    have g_38 : (G_26.1 30 5).toInt = (G.1 30 5).toInt := by rw [show G_26.1 30 5 = (G.1 30 5) from ((hq_27.i 30 5 (by decide) (by decide)).trans (hq_12.i 30 5 (by decide) (by decide)))]
    have b_39 : 0 ≤ (G.1 31 6).toInt ∧ (G.1 31 6).toInt ≤ 100000 := hB_G.i 31 6 rfl rfl
    have g_40 : (G_26.1 31 6).toInt = (G.1 31 6).toInt := by rw [show G_26.1 31 6 = (G.1 31 6) from ((hq_27.i 31 6 (by decide) (by decide)).trans (hq_12.i 31 6 (by decide) (by decide)))]
    have b_41 : 0 ≤ (G.1 66 1).toInt ∧ (G.1 66 1).toInt ≤ 1600 := hB_G.i 66 1 rfl rfl
    have g_42 : (G_26.1 66 1).toInt = (G.1 66 1).toInt := by rw [show G_26.1 66 1 = (G.1 66 1) from ((hq_27.i 66 1 (by decide) (by decide)).trans (hq_12.i 66 1 (by decide) (by decide)))]
    have b_43 : 0 ≤ (G.1 66 78).toInt ∧ (G.1 66 78).toInt ≤ 40 := hB_G.i 66 78 rfl rfl
    have g_44 : (G_26.1 66 78).toInt = (G.1 66 78).toInt := by rw [show G_26.1 66 78 = (G.1 66 78) from ((hq_27.i 66 78 (by decide) (by decide)).trans (hq_12.i 66 78 (by decide) (by decide)))]
    have b_45 : 0 ≤ (G.1 66 79).toInt ∧ (G.1 66 79).toInt ≤ 40 := hB_G.i 66 79 rfl rfl
    have g_46 : (G_26.1 66 79).toInt = (G.1 66 79).toInt := by rw [show G_26.1 66 79 = (G.1 66 79) from ((hq_27.i 66 79 (by decide) (by decide)).trans (hq_12.i 66 79 (by decide) (by decide)))]
    have b_47 : 0 ≤ (G.1 66 86).toInt ∧ (G.1 66 86).toInt ≤ 100000 := hB_G.i 66 86 rfl rfl
    have g_48 : (G_26.1 66 86).toInt = (G.1 66 86).toInt := by rw [show G_26.1 66 86 = (G.1 66 86) from ((hq_27.i 66 86 (by decide) (by decide)).trans (hq_12.i 66 86 (by decide) (by decide)))]
    have b_49 : 0 ≤ (G.1 96 0).toInt ∧ (G.1 96 0).toInt ≤ 9 := hB_G.i 96 0 rfl rfl
    have g_50 : (G_26.1 96 0).toInt = (G.1 96 0).toInt := by rw [show G_26.1 96 0 = (G.1 96 0) from ((hq_27.i 96 0 (by decide) (by decide)).trans (hq_12.i 96 0 (by decide) (by decide)))]
    have b_51 : 0 ≤ (G.1 96 1).toInt ∧ (G.1 96 1).toInt ≤ 9 := hB_G.i 96 1 rfl rfl
    have g_52 : (G_26.1 96 1).toInt = (G.1 96 1).toInt := by rw [show G_26.1 96 1 = (G.1 96 1) from ((hq_27.i 96 1 (by decide) (by decide)).trans (hq_12.i 96 1 (by decide) (by decide)))]
    have b_53 : 0 ≤ (G.1 96 2).toInt ∧ (G.1 96 2).toInt ≤ 9 := hB_G.i 96 2 rfl rfl
    have g_54 : (G_26.1 96 2).toInt = (G.1 96 2).toInt := by rw [show G_26.1 96 2 = (G.1 96 2) from ((hq_27.i 96 2 (by decide) (by decide)).trans (hq_12.i 96 2 (by decide) (by decide)))]
    exact K G_26 _ _ _ (Or.inr ⟨((((hq_27.r 0 0 (by decide) (by decide)).trans (hq_12.r 0 0 (by decide) (by decide)))).trans (hv_0_0)), ((((hq_27.r 0 1 (by decide) (by decide)).trans (hq_12.r 0 1 (by decide) (by decide)))).trans (hv_0_1)), ((((hq_27.r 6 4 (by decide) (by decide)).trans (hq_12.r 6 4 (by decide) (by decide)))).trans (hv_6_4)), by omega, by omega, by omega, by omega, by omega, by omega, by omega, by omega, by omega⟩) hB_G_26 hW hS (lv_sub hl [0, 1, 2, 3] rfl)

set_option maxHeartbeats 4000000 in
set_option maxRecDepth 100000 in
theorem law_36 {p : Program} {l : Launch} {e : Env} {s : State} {m : MethodId} {below : List Frame} {meth : Method} {c : Code} {D : va_G} {k : KT} {A : Nat → Prop} {a : Nat → Nat} {z : SK} {b L : Nat} {xs : Nat → Int32} (hL : L ≤ 3072) (C0 : lw_At p s m meth c b L xs) (hK : cK D k s) (hZ : Sx A z s) (hbA : ¬ A b) {G : GS} {i0 : Int32} (hi0 : 0 ≤ i0.toInt) (hi6 : i0.toInt + 6 ≤ L) (hI : LI G) (hB_G : Bd G) {H : Heap} {locs : List Loc} {ls : Array Slot} (hW : Wd D k A a G H) (hS : va_S A s.heap H locs) (hl : lv_has ls 4 [(0, .ref b), (1, .ref (a 0)), (2, .ref (a 66)), (3, .int i0)]) (K : ∀ (G1 : GS) (H1 : Heap) (locs1 : List Loc) (ls1 : Array Slot), LI G1 → Bd G1 → Wd D k A a G1 H1 → va_S A s.heap H1 locs1 → lv_has ls1 4 [(0, .ref b), (1, .ref (a 0)), (2, .ref (a 66)), (3, .int i0)] → W p l e room_1 s m #[Value.ref b] below meth c H1 locs1 119 46443 (lw_Z below #[Value.ref b] s) (F0 m 1641 ls1 [])) : W p l e room_1 s m #[Value.ref b] below meth c H locs 119 46443 (lw_Z below #[Value.ref b] s) (F0 m 1572 ls []) := by
  obtain ⟨hx, hb, hr, hml, hown, hts, hX, hbl, hlocks, hgv⟩ := id C0
  have hown : s.vm.findClass RL = some m.cls := hown
  have hgd : ∀ w ∈ gd, w ∈ lw_tbl := fun w h => (List.mem_filter.mp h).1
  have hg : ∀ w ∈ gd, w.before #[Value.ref b] s = true := fun w h => hts w (hgd w h)
  rcases hI with ⟨hv_0_0, hv_0_1, hv_6_4, hj0, hj1, hj2, hj3, hj4, hj5, hj6, hj7, hj8⟩ | ⟨hv_0_0, hv_0_1, hv_6_4, hj0, hj1, hj2, hj3, hj4, hj5, hj6, hj7, hj8⟩
  · skip
    refine lv_aload_n hx hb dL_law_1572 rfl (lv_at hl 1 rfl) ?_
    refine lv_aload_n hx hb dL_law_1573 rfl (lv_at hl 0 rfl) ?_
    refine lv_iload_n hx hb dL_law_1574 rfl (lv_at hl 3 rfl) ?_
    refine lv_iconst (v := 1) hx hb dL_law_1575 (by decide) ?_
    refine lv_iadd hx hb dL_law_1576 ?_
    refine lv_topi (fun y_1 ey_1 => ?_)
    have ty_1 : y_1.toInt = i0.toInt + 1 := xI_add rfl rfl ey_1 (by omega) (by omega)
    refine va_sld hx hb hX hbl hbA hS (vin (by omega) (by omega)) dL_law_1577 ?_
    refine lv_topi (fun y_2 ey_2 => ?_)
    have u_3 : y_2.toInt = (xs (i0 + 1).toNatClampNeg).toInt := by rw [ey_2, ey_1]
    have b_4 : 0 ≤ (G.1 30 4).toInt ∧ (G.1 30 4).toInt ≤ 40 := hB_G.i 30 4 rfl rfl
    have b_5 : 0 ≤ (G.1 30 5).toInt ∧ (G.1 30 5).toInt ≤ 40 := hB_G.i 30 5 rfl rfl
    refine S_calli (va_runV (As := [.int y_2]) (rest := []) ⟨hx, hb, hml, hown, hts⟩ (k_Wimage l D k A a z G y_2 (by omega)) (cwV 1 hts (gd_V hgd m1287 m1288 m1289 m117 m1290) rfl rfl rfl (by decide +kernel) ⟨Nat.le_of_ble_eq_true rfl, Nat.le_of_ble_eq_true rfl⟩) (pre_V hW hB_G hK hZ hS kd_0 rfl) rfl rfl hl.1 rfl (lv_room (Nat.le_of_ble_eq_true rfl)) dL_law_1578 ⟨Nat.le_of_ble_eq_true rfl, Nat.le_of_ble_eq_true rfl⟩) hS (fun r_6 G_7 H locs hpo hW hS => ?_)
    obtain ⟨hB_G_7, hq_8, hp_9⟩ := hpo
    refine lv_pop hx hb dL_law_1581 rfl ?_
    refine lv_aload_n hx hb dL_law_1582 rfl (lv_at hl 2 rfl) ?_
    refine lv_aload_n hx hb dL_law_1583 rfl (lv_at hl 0 rfl) ?_
    refine lv_iload_n hx hb dL_law_1584 rfl (lv_at hl 3 rfl) ?_
    refine lv_iconst (v := 1) hx hb dL_law_1585 (by decide) ?_
    refine lv_iadd hx hb dL_law_1586 ?_
    refine lv_topi (fun y_10 ey_10 => ?_)
    have ty_10 : y_10.toInt = i0.toInt + 1 := xI_add rfl rfl ey_10 (by omega) (by omega)
    refine va_sld hx hb hX hbl hbA hS (vin (by omega) (by omega)) dL_law_1587 ?_
    refine lv_topi (fun y_11 ey_11 => ?_)
    have u_12 : y_11.toInt = (xs (i0 + 1).toNatClampNeg).toInt := by rw [ey_11, ey_10]
    have b_13 : 0 ≤ (G.1 66 78).toInt ∧ (G.1 66 78).toInt ≤ 40 := hB_G.i 66 78 rfl rfl
    have g_14 : (G_7.1 66 78).toInt = (G.1 66 78).toInt := by rw [show G_7.1 66 78 = (G.1 66 78) from (hq_8.i 66 78 (by decide) (by decide))]
    have b_15 : 0 ≤ (G.1 66 79).toInt ∧ (G.1 66 79).toInt ≤ 40 := hB_G.i 66 79 rfl rfl
    have g_16 : (G_7.1 66 79).toInt = (G.1 66 79).toInt := by rw [show G_7.1 66 79 = (G.1 66 79) from (hq_8.i 66 79 (by decide) (by decide))]
    refine S_calli (va_runV (As := [.int y_11]) (rest := []) ⟨hx, hb, hml, hown, hts⟩ (n_image l D k A a z G_7 y_11 (by omega)) (cwV 1 hts (gd_V hgd m2066 m2067 m2068 m131 m2069) rfl rfl rfl (by decide +kernel) ⟨Nat.le_of_ble_eq_true rfl, Nat.le_of_ble_eq_true rfl⟩) (pre_V hW hB_G_7 hK hZ hS kd_66 rfl) rfl rfl hl.1 rfl (lv_room (Nat.le_of_ble_eq_true rfl)) dL_law_1588 ⟨Nat.le_of_ble_eq_true rfl, Nat.le_of_ble_eq_true rfl⟩) hS (fun r_17 G_18 H locs hpo hW hS => ?_)
    obtain ⟨hB_G_18, hq_19, hp_20⟩ := hpo
    refine lv_pop hx hb dL_law_1591 rfl ?_
    refine lv_goto (tgt := 1641) hx hb dL_law_1592 (by decide) ?_
    have g_21 : gO G_18 = gO G := gO_fr (rs := [60, 117, 118]) (fs := [(30, 3)]) ((Fr.rf.call hq_8 (by decide) (by decide)).call hq_19 (by decide) (by decide)) (by decide) (by decide)
    have g_22 : gP G_18 = gP G := gP_fr (rs := [60, 117, 118]) (fs := [(30, 3)]) ((Fr.rf.call hq_8 (by decide) (by decide)).call hq_19 (by decide) (by decide)) (by decide) (by decide)
    have g_23 : gS G_18 = gS G := gS_fr (rs := [60, 117, 118]) (fs := [(30, 3)]) ((Fr.rf.call hq_8 (by decide) (by decide)).call hq_19 (by decide) (by decide)) (by decide) (by decide)
    have g_24 : gW G_18 = gW G := gW_fr (rs := [60, 117, 118]) (fs := [(30, 3)]) ((Fr.rf.call hq_8 (by decide) (by decide)).call hq_19 (by decide) (by decide)) (by decide) (by decide)
    have b_25 : 0 ≤ (G.1 0 11).toInt ∧ (G.1 0 11).toInt ≤ 1600 := hB_G.i 0 11 rfl rfl
    have g_26 : (G_18.1 0 11).toInt = (G.1 0 11).toInt := by rw [show G_18.1 0 11 = (G.1 0 11) from ((hq_19.i 0 11 (by decide) (by decide)).trans (hq_8.i 0 11 (by decide) (by decide)))]
    have g_27 : (G_18.1 30 4).toInt = (G.1 30 4).toInt := by rw [show G_18.1 30 4 = (G.1 30 4) from ((hq_19.i 30 4 (by decide) (by decide)).trans ((hq_8.i 30 4 (by decide) (by decide)).trans (rfl)))]
    have g_28 : (G_18.1 30 5).toInt = (G.1 30 5).toInt := by rw [show G_18.1 30 5 = (G.1 30 5) from ((hq_19.i 30 5 (by decide) (by decide)).trans ((hq_8.i 30 5 (by decide) (by decide)).trans (rfl)))]
    have b_29 : 0 ≤ (G.1 31 6).toInt ∧ (G.1 31 6).toInt ≤ 100000 := hB_G.i 31 6 rfl rfl
    have g_30 : (G_18.1 31 6).toInt = (G.1 31 6).toInt := by rw [show G_18.1 31 6 = (G.1 31 6) from ((hq_19.i 31 6 (by decide) (by decide)).trans (hq_8.i 31 6 (by decide) (by decide)))]
    have b_31 : 0 ≤ (G.1 66 1).toInt ∧ (G.1 66 1).toInt ≤ 1600 := hB_G.i 66 1 rfl rfl
    have g_32 : (G_18.1 66 1).toInt = (G.1 66 1).toInt := by rw [show G_18.1 66 1 = (G.1 66 1) from ((hq_19.i 66 1 (by decide) (by decide)).trans (hq_8.i 66 1 (by decide) (by decide)))]
    have g_33 : (G_18.1 66 78).toInt = (G.1 66 78).toInt := by rw [show G_18.1 66 78 = (G.1 66 78) from ((hq_19.i 66 78 (by decide) (by decide)).trans ((hq_8.i 66 78 (by decide) (by decide)).trans (rfl)))]
    have g_34 : (G_18.1 66 79).toInt = (G.1 66 79).toInt := by rw [show G_18.1 66 79 = (G.1 66 79) from ((hq_19.i 66 79 (by decide) (by decide)).trans ((hq_8.i 66 79 (by decide) (by decide)).trans (rfl)))]
    have b_35 : 0 ≤ (G.1 66 86).toInt ∧ (G.1 66 86).toInt ≤ 100000 := hB_G.i 66 86 rfl rfl
    have g_36 : (G_18.1 66 86).toInt = (G.1 66 86).toInt := by rw [show G_18.1 66 86 = (G.1 66 86) from ((hq_19.i 66 86 (by decide) (by decide)).trans (hq_8.i 66 86 (by decide) (by decide)))]
    have b_37 : 0 ≤ (G.1 96 0).toInt ∧ (G.1 96 0).toInt ≤ 9 := hB_G.i 96 0 rfl rfl
    have g_38 : (G_18.1 96 0).toInt = (G.1 96 0).toInt := by rw [show G_18.1 96 0 = (G.1 96 0) from ((hq_19.i 96 0 (by decide) (by decide)).trans (hq_8.i 96 0 (by decide) (by decide)))]
    have b_39 : 0 ≤ (G.1 96 1).toInt ∧ (G.1 96 1).toInt ≤ 9 := hB_G.i 96 1 rfl rfl
    have g_40 : (G_18.1 96 1).toInt = (G.1 96 1).toInt := by rw [show G_18.1 96 1 = (G.1 96 1) from ((hq_19.i 96 1 (by decide) (by decide)).trans (hq_8.i 96 1 (by decide) (by decide)))]
    have b_41 : 0 ≤ (G.1 96 2).toInt ∧ (G.1 96 2).toInt ≤ 9 := hB_G.i 96 2 rfl rfl
    have g_42 : (G_18.1 96 2).toInt = (G.1 96 2).toInt := by rw [show G_18.1 96 2 = (G.1 96 2) from ((hq_19.i 96 2 (by decide) (by decide)).trans (hq_8.i 96 2 (by decide) (by decide)))]
    exact K G_18 _ _ _ (Or.inl ⟨((((hq_19.r 0 0 (by decide) (by decide)).trans (hq_8.r 0 0 (by decide) (by decide)))).trans (hv_0_0)), ((((hq_19.r 0 1 (by decide) (by decide)).trans (hq_8.r 0 1 (by decide) (by decide)))).trans (hv_0_1)), ((((hq_19.r 6 4 (by decide) (by decide)).trans (hq_8.r 6 4 (by decide) (by decide)))).trans (hv_6_4)), by omega, by omega, by omega, by omega, by omega, by omega, by omega, by omega, by omega⟩) hB_G_18 hW hS (lv_sub hl [0, 1, 2, 3] rfl)
  · skip
    refine lv_aload_n hx hb dL_law_1572 rfl (lv_at hl 1 rfl) ?_
    refine lv_aload_n hx hb dL_law_1573 rfl (lv_at hl 0 rfl) ?_
    refine lv_iload_n hx hb dL_law_1574 rfl (lv_at hl 3 rfl) ?_
    refine lv_iconst (v := 1) hx hb dL_law_1575 (by decide) ?_
    refine lv_iadd hx hb dL_law_1576 ?_
    refine lv_topi (fun y_1 ey_1 => ?_)
    have ty_1 : y_1.toInt = i0.toInt + 1 := xI_add rfl rfl ey_1 (by omega) (by omega)
    refine va_sld hx hb hX hbl hbA hS (vin (by omega) (by omega)) dL_law_1577 ?_
    refine lv_topi (fun y_2 ey_2 => ?_)
    have u_3 : y_2.toInt = (xs (i0 + 1).toNatClampNeg).toInt := by rw [ey_2, ey_1]
    have b_4 : 0 ≤ (G.1 30 4).toInt ∧ (G.1 30 4).toInt ≤ 40 := hB_G.i 30 4 rfl rfl
    have b_5 : 0 ≤ (G.1 30 5).toInt ∧ (G.1 30 5).toInt ≤ 40 := hB_G.i 30 5 rfl rfl
    refine S_calli (va_runV (As := [.int y_2]) (rest := []) ⟨hx, hb, hml, hown, hts⟩ (k_Wimage l D k A a z G y_2 (by omega)) (cwV 1 hts (gd_V hgd m1287 m1288 m1289 m117 m1290) rfl rfl rfl (by decide +kernel) ⟨Nat.le_of_ble_eq_true rfl, Nat.le_of_ble_eq_true rfl⟩) (pre_V hW hB_G hK hZ hS kd_0 rfl) rfl rfl hl.1 rfl (lv_room (Nat.le_of_ble_eq_true rfl)) dL_law_1578 ⟨Nat.le_of_ble_eq_true rfl, Nat.le_of_ble_eq_true rfl⟩) hS (fun r_6 G_7 H locs hpo hW hS => ?_)
    obtain ⟨hB_G_7, hq_8, hp_9⟩ := hpo
    refine lv_pop hx hb dL_law_1581 rfl ?_
    refine lv_aload_n hx hb dL_law_1582 rfl (lv_at hl 2 rfl) ?_
    refine lv_aload_n hx hb dL_law_1583 rfl (lv_at hl 0 rfl) ?_
    refine lv_iload_n hx hb dL_law_1584 rfl (lv_at hl 3 rfl) ?_
    refine lv_iconst (v := 1) hx hb dL_law_1585 (by decide) ?_
    refine lv_iadd hx hb dL_law_1586 ?_
    refine lv_topi (fun y_10 ey_10 => ?_)
    have ty_10 : y_10.toInt = i0.toInt + 1 := xI_add rfl rfl ey_10 (by omega) (by omega)
    refine va_sld hx hb hX hbl hbA hS (vin (by omega) (by omega)) dL_law_1587 ?_
    refine lv_topi (fun y_11 ey_11 => ?_)
    have u_12 : y_11.toInt = (xs (i0 + 1).toNatClampNeg).toInt := by rw [ey_11, ey_10]
    have b_13 : 0 ≤ (G.1 66 78).toInt ∧ (G.1 66 78).toInt ≤ 40 := hB_G.i 66 78 rfl rfl
    have g_14 : (G_7.1 66 78).toInt = (G.1 66 78).toInt := by rw [show G_7.1 66 78 = (G.1 66 78) from (hq_8.i 66 78 (by decide) (by decide))]
    have b_15 : 0 ≤ (G.1 66 79).toInt ∧ (G.1 66 79).toInt ≤ 40 := hB_G.i 66 79 rfl rfl
    have g_16 : (G_7.1 66 79).toInt = (G.1 66 79).toInt := by rw [show G_7.1 66 79 = (G.1 66 79) from (hq_8.i 66 79 (by decide) (by decide))]
    refine S_calli (va_runV (As := [.int y_11]) (rest := []) ⟨hx, hb, hml, hown, hts⟩ (n_image l D k A a z G_7 y_11 (by omega)) (cwV 1 hts (gd_V hgd m2066 m2067 m2068 m131 m2069) rfl rfl rfl (by decide +kernel) ⟨Nat.le_of_ble_eq_true rfl, Nat.le_of_ble_eq_true rfl⟩) (pre_V hW hB_G_7 hK hZ hS kd_66 rfl) rfl rfl hl.1 rfl (lv_room (Nat.le_of_ble_eq_true rfl)) dL_law_1588 ⟨Nat.le_of_ble_eq_true rfl, Nat.le_of_ble_eq_true rfl⟩) hS (fun r_17 G_18 H locs hpo hW hS => ?_)
    obtain ⟨hB_G_18, hq_19, hp_20⟩ := hpo
    refine lv_pop hx hb dL_law_1591 rfl ?_
    refine lv_goto (tgt := 1641) hx hb dL_law_1592 (by decide) ?_
    have g_21 : gO G_18 = gO G := gO_fr (rs := [60, 117, 118]) (fs := [(30, 3)]) ((Fr.rf.call hq_8 (by decide) (by decide)).call hq_19 (by decide) (by decide)) (by decide) (by decide)
    have g_22 : gP G_18 = gP G := gP_fr (rs := [60, 117, 118]) (fs := [(30, 3)]) ((Fr.rf.call hq_8 (by decide) (by decide)).call hq_19 (by decide) (by decide)) (by decide) (by decide)
    have g_23 : gS G_18 = gS G := gS_fr (rs := [60, 117, 118]) (fs := [(30, 3)]) ((Fr.rf.call hq_8 (by decide) (by decide)).call hq_19 (by decide) (by decide)) (by decide) (by decide)
    have g_24 : gW G_18 = gW G := gW_fr (rs := [60, 117, 118]) (fs := [(30, 3)]) ((Fr.rf.call hq_8 (by decide) (by decide)).call hq_19 (by decide) (by decide)) (by decide) (by decide)
    have b_25 : 0 ≤ (G.1 0 11).toInt ∧ (G.1 0 11).toInt ≤ 1600 := hB_G.i 0 11 rfl rfl
    have g_26 : (G_18.1 0 11).toInt = (G.1 0 11).toInt := by rw [show G_18.1 0 11 = (G.1 0 11) from ((hq_19.i 0 11 (by decide) (by decide)).trans (hq_8.i 0 11 (by decide) (by decide)))]
    have g_27 : (G_18.1 30 4).toInt = (G.1 30 4).toInt := by rw [show G_18.1 30 4 = (G.1 30 4) from ((hq_19.i 30 4 (by decide) (by decide)).trans ((hq_8.i 30 4 (by decide) (by decide)).trans (rfl)))]
    have g_28 : (G_18.1 30 5).toInt = (G.1 30 5).toInt := by rw [show G_18.1 30 5 = (G.1 30 5) from ((hq_19.i 30 5 (by decide) (by decide)).trans ((hq_8.i 30 5 (by decide) (by decide)).trans (rfl)))]
    have b_29 : 0 ≤ (G.1 31 6).toInt ∧ (G.1 31 6).toInt ≤ 100000 := hB_G.i 31 6 rfl rfl
    have g_30 : (G_18.1 31 6).toInt = (G.1 31 6).toInt := by rw [show G_18.1 31 6 = (G.1 31 6) from ((hq_19.i 31 6 (by decide) (by decide)).trans (hq_8.i 31 6 (by decide) (by decide)))]
    have b_31 : 0 ≤ (G.1 66 1).toInt ∧ (G.1 66 1).toInt ≤ 1600 := hB_G.i 66 1 rfl rfl
    have g_32 : (G_18.1 66 1).toInt = (G.1 66 1).toInt := by rw [show G_18.1 66 1 = (G.1 66 1) from ((hq_19.i 66 1 (by decide) (by decide)).trans (hq_8.i 66 1 (by decide) (by decide)))]
    have g_33 : (G_18.1 66 78).toInt = (G.1 66 78).toInt := by rw [show G_18.1 66 78 = (G.1 66 78) from ((hq_19.i 66 78 (by decide) (by decide)).trans ((hq_8.i 66 78 (by decide) (by decide)).trans (rfl)))]
    have g_34 : (G_18.1 66 79).toInt = (G.1 66 79).toInt := by rw [show G_18.1 66 79 = (G.1 66 79) from ((hq_19.i 66 79 (by decide) (by decide)).trans ((hq_8.i 66 79 (by decide) (by decide)).trans (rfl)))]
    have b_35 : 0 ≤ (G.1 66 86).toInt ∧ (G.1 66 86).toInt ≤ 100000 := hB_G.i 66 86 rfl rfl
    have g_36 : (G_18.1 66 86).toInt = (G.1 66 86).toInt := by rw [show G_18.1 66 86 = (G.1 66 86) from ((hq_19.i 66 86 (by decide) (by decide)).trans (hq_8.i 66 86 (by decide) (by decide)))]
    have b_37 : 0 ≤ (G.1 96 0).toInt ∧ (G.1 96 0).toInt ≤ 9 := hB_G.i 96 0 rfl rfl
    have g_38 : (G_18.1 96 0).toInt = (G.1 96 0).toInt := by rw [show G_18.1 96 0 = (G.1 96 0) from ((hq_19.i 96 0 (by decide) (by decide)).trans (hq_8.i 96 0 (by decide) (by decide)))]
    have b_39 : 0 ≤ (G.1 96 1).toInt ∧ (G.1 96 1).toInt ≤ 9 := hB_G.i 96 1 rfl rfl
    have g_40 : (G_18.1 96 1).toInt = (G.1 96 1).toInt := by rw [show G_18.1 96 1 = (G.1 96 1) from ((hq_19.i 96 1 (by decide) (by decide)).trans (hq_8.i 96 1 (by decide) (by decide)))]
    have b_41 : 0 ≤ (G.1 96 2).toInt ∧ (G.1 96 2).toInt ≤ 9 := hB_G.i 96 2 rfl rfl
    have g_42 : (G_18.1 96 2).toInt = (G.1 96 2).toInt := by rw [show G_18.1 96 2 = (G.1 96 2) from ((hq_19.i 96 2 (by decide) (by decide)).trans (hq_8.i 96 2 (by decide) (by decide)))]
    exact K G_18 _ _ _ (Or.inr ⟨((((hq_19.r 0 0 (by decide) (by decide)).trans (hq_8.r 0 0 (by decide) (by decide)))).trans (hv_0_0)), ((((hq_19.r 0 1 (by decide) (by decide)).trans (hq_8.r 0 1 (by decide) (by decide)))).trans (hv_0_1)), ((((hq_19.r 6 4 (by decide) (by decide)).trans (hq_8.r 6 4 (by decide) (by decide)))).trans (hv_6_4)), by omega, by omega, by omega, by omega, by omega, by omega, by omega, by omega, by omega⟩) hB_G_18 hW hS (lv_sub hl [0, 1, 2, 3] rfl)

set_option maxHeartbeats 4000000 in
set_option maxRecDepth 100000 in
theorem law_37 {p : Program} {l : Launch} {e : Env} {s : State} {m : MethodId} {below : List Frame} {meth : Method} {c : Code} {D : va_G} {k : KT} {A : Nat → Prop} {a : Nat → Nat} {z : SK} {b L : Nat} {xs : Nat → Int32} (hL : L ≤ 3072) (C0 : lw_At p s m meth c b L xs) (hK : cK D k s) (hZ : Sx A z s) (hbA : ¬ A b) {G : GS} {i0 : Int32} (hi0 : 0 ≤ i0.toInt) (hi6 : i0.toInt + 6 ≤ L) (hI : LI G) (hB_G : Bd G) {H : Heap} {locs : List Loc} {ls : Array Slot} (hW : Wd D k A a G H) (hS : va_S A s.heap H locs) (hl : lv_has ls 4 [(0, .ref b), (1, .ref (a 0)), (2, .ref (a 66)), (3, .int i0)]) (K : ∀ (G1 : GS) (H1 : Heap) (locs1 : List Loc) (ls1 : Array Slot), LI G1 → Bd G1 → Wd D k A a G1 H1 → va_S A s.heap H1 locs1 → lv_has ls1 4 [(0, .ref b), (1, .ref (a 0)), (2, .ref (a 66)), (3, .int i0)] → W p l e room_1 s m #[Value.ref b] below meth c H1 locs1 119 46443 (lw_Z below #[Value.ref b] s) (F0 m 1641 ls1 [])) : W p l e room_1 s m #[Value.ref b] below meth c H locs 119 46443 (lw_Z below #[Value.ref b] s) (F0 m 1595 ls []) := by
  obtain ⟨hx, hb, hr, hml, hown, hts, hX, hbl, hlocks, hgv⟩ := id C0
  have hown : s.vm.findClass RL = some m.cls := hown
  have hgd : ∀ w ∈ gd, w ∈ lw_tbl := fun w h => (List.mem_filter.mp h).1
  have hg : ∀ w ∈ gd, w.before #[Value.ref b] s = true := fun w h => hts w (hgd w h)
  rcases hI with ⟨hv_0_0, hv_0_1, hv_6_4, hj0, hj1, hj2, hj3, hj4, hj5, hj6, hj7, hj8⟩ | ⟨hv_0_0, hv_0_1, hv_6_4, hj0, hj1, hj2, hj3, hj4, hj5, hj6, hj7, hj8⟩
  · skip
    refine lv_aload_n hx hb dL_law_1595 rfl (lv_at hl 1 rfl) ?_
    refine lv_aload_n hx hb dL_law_1596 rfl (lv_at hl 0 rfl) ?_
    refine lv_iload_n hx hb dL_law_1597 rfl (lv_at hl 3 rfl) ?_
    refine lv_iconst (v := 1) hx hb dL_law_1598 (by decide) ?_
    refine lv_iadd hx hb dL_law_1599 ?_
    refine lv_topi (fun y_1 ey_1 => ?_)
    have ty_1 : y_1.toInt = i0.toInt + 1 := xI_add rfl rfl ey_1 (by omega) (by omega)
    refine va_sld hx hb hX hbl hbA hS (vin (by omega) (by omega)) dL_law_1600 ?_
    refine lv_topi (fun y_2 ey_2 => ?_)
    have u_3 : y_2.toInt = (xs (i0 + 1).toNatClampNeg).toInt := by rw [ey_2, ey_1]
    have b_4 : 0 ≤ (G.1 30 4).toInt ∧ (G.1 30 4).toInt ≤ 40 := hB_G.i 30 4 rfl rfl
    have b_5 : 0 ≤ (G.1 30 5).toInt ∧ (G.1 30 5).toInt ≤ 40 := hB_G.i 30 5 rfl rfl
    refine S_calli (va_runV (As := [.int y_2]) (rest := []) ⟨hx, hb, hml, hown, hts⟩ (k_Wback l D k A a z G y_2 (by omega)) (cwV 1 hts (gd_V hgd m1295 m1296 m1297 m117 m1298) rfl rfl rfl (by decide +kernel) ⟨Nat.le_of_ble_eq_true rfl, Nat.le_of_ble_eq_true rfl⟩) (pre_V hW hB_G hK hZ hS kd_0 rfl) rfl rfl hl.1 rfl (lv_room (Nat.le_of_ble_eq_true rfl)) dL_law_1601 ⟨Nat.le_of_ble_eq_true rfl, Nat.le_of_ble_eq_true rfl⟩) hS (fun r_6 G_7 H locs hpo hW hS => ?_)
    obtain ⟨hB_G_7, hq_8, hp_9⟩ := hpo
    refine lv_pop hx hb dL_law_1604 rfl ?_
    refine lv_aload_n hx hb dL_law_1605 rfl (lv_at hl 2 rfl) ?_
    refine lv_aload_n hx hb dL_law_1606 rfl (lv_at hl 0 rfl) ?_
    refine lv_iload_n hx hb dL_law_1607 rfl (lv_at hl 3 rfl) ?_
    refine lv_iconst (v := 1) hx hb dL_law_1608 (by decide) ?_
    refine lv_iadd hx hb dL_law_1609 ?_
    refine lv_topi (fun y_10 ey_10 => ?_)
    have ty_10 : y_10.toInt = i0.toInt + 1 := xI_add rfl rfl ey_10 (by omega) (by omega)
    refine va_sld hx hb hX hbl hbA hS (vin (by omega) (by omega)) dL_law_1610 ?_
    refine lv_topi (fun y_11 ey_11 => ?_)
    have u_12 : y_11.toInt = (xs (i0 + 1).toNatClampNeg).toInt := by rw [ey_11, ey_10]
    have b_13 : 0 ≤ (G.1 66 78).toInt ∧ (G.1 66 78).toInt ≤ 40 := hB_G.i 66 78 rfl rfl
    have g_14 : (G_7.1 66 78).toInt = (G.1 66 78).toInt := by rw [show G_7.1 66 78 = (G.1 66 78) from (hq_8.i 66 78 (by decide) (by decide))]
    have b_15 : 0 ≤ (G.1 66 79).toInt ∧ (G.1 66 79).toInt ≤ 40 := hB_G.i 66 79 rfl rfl
    have g_16 : (G_7.1 66 79).toInt = (G.1 66 79).toInt := by rw [show G_7.1 66 79 = (G.1 66 79) from (hq_8.i 66 79 (by decide) (by decide))]
    refine S_calli (va_runV (As := [.int y_11]) (rest := []) ⟨hx, hb, hml, hown, hts⟩ (n_back l D k A a z G_7 y_11 (by omega)) (cwV 1 hts (gd_V hgd m2073 m2074 m2075 m131 m2076) rfl rfl rfl (by decide +kernel) ⟨Nat.le_of_ble_eq_true rfl, Nat.le_of_ble_eq_true rfl⟩) (pre_V hW hB_G_7 hK hZ hS kd_66 rfl) rfl rfl hl.1 rfl (lv_room (Nat.le_of_ble_eq_true rfl)) dL_law_1611 ⟨Nat.le_of_ble_eq_true rfl, Nat.le_of_ble_eq_true rfl⟩) hS (fun r_17 G_18 H locs hpo hW hS => ?_)
    obtain ⟨hB_G_18, hq_19, hp_20⟩ := hpo
    refine lv_pop hx hb dL_law_1614 rfl ?_
    refine lv_goto (tgt := 1641) hx hb dL_law_1615 (by decide) ?_
    have g_21 : gO G_18 = gO G := gO_fr (rs := [58, 59, 110]) (fs := [(30, 4), (30, 5), (66, 78), (66, 79)]) ((Fr.rf.call hq_8 (by decide) (by decide)).call hq_19 (by decide) (by decide)) (by decide) (by decide)
    have g_22 : gP G_18 = gP G := gP_fr (rs := [58, 59, 110]) (fs := [(30, 4), (30, 5), (66, 78), (66, 79)]) ((Fr.rf.call hq_8 (by decide) (by decide)).call hq_19 (by decide) (by decide)) (by decide) (by decide)
    have g_23 : gS G_18 = gS G := gS_fr (rs := [58, 59, 110]) (fs := [(30, 4), (30, 5), (66, 78), (66, 79)]) ((Fr.rf.call hq_8 (by decide) (by decide)).call hq_19 (by decide) (by decide)) (by decide) (by decide)
    have g_24 : gW G_18 = gW G := gW_fr (rs := [58, 59, 110]) (fs := [(30, 4), (30, 5), (66, 78), (66, 79)]) ((Fr.rf.call hq_8 (by decide) (by decide)).call hq_19 (by decide) (by decide)) (by decide) (by decide)
    have b_25 : 0 ≤ (G.1 0 11).toInt ∧ (G.1 0 11).toInt ≤ 1600 := hB_G.i 0 11 rfl rfl
    have g_26 : (G_18.1 0 11).toInt = (G.1 0 11).toInt := by rw [show G_18.1 0 11 = (G.1 0 11) from ((hq_19.i 0 11 (by decide) (by decide)).trans (hq_8.i 0 11 (by decide) (by decide)))]
    have b_27 : 0 ≤ (G_7.1 30 4).toInt ∧ (G_7.1 30 4).toInt ≤ 40 := hB_G_7.i 30 4 rfl rfl
    have g_28 : (G_18.1 30 4).toInt = (G_7.1 30 4).toInt := by rw [show G_18.1 30 4 = (G_7.1 30 4) from (hq_19.i 30 4 (by decide) (by decide))]
    have b_29 : 0 ≤ (G_7.1 30 5).toInt ∧ (G_7.1 30 5).toInt ≤ 40 := hB_G_7.i 30 5 rfl rfl
    have g_30 : (G_18.1 30 5).toInt = (G_7.1 30 5).toInt := by rw [show G_18.1 30 5 = (G_7.1 30 5) from (hq_19.i 30 5 (by decide) (by decide))]
    have b_31 : 0 ≤ (G.1 31 6).toInt ∧ (G.1 31 6).toInt ≤ 100000 := hB_G.i 31 6 rfl rfl
    have g_32 : (G_18.1 31 6).toInt = (G.1 31 6).toInt := by rw [show G_18.1 31 6 = (G.1 31 6) from ((hq_19.i 31 6 (by decide) (by decide)).trans (hq_8.i 31 6 (by decide) (by decide)))]
    have b_33 : 0 ≤ (G.1 66 1).toInt ∧ (G.1 66 1).toInt ≤ 1600 := hB_G.i 66 1 rfl rfl
    have g_34 : (G_18.1 66 1).toInt = (G.1 66 1).toInt := by rw [show G_18.1 66 1 = (G.1 66 1) from ((hq_19.i 66 1 (by decide) (by decide)).trans (hq_8.i 66 1 (by decide) (by decide)))]
    have b_35 : 0 ≤ (G_18.1 66 78).toInt ∧ (G_18.1 66 78).toInt ≤ 40 := hB_G_18.i 66 78 rfl rfl
    have b_36 : 0 ≤ (G_18.1 66 79).toInt ∧ (G_18.1 66 79).toInt ≤ 40 := hB_G_18.i 66 79 rfl rfl
    have b_37 : 0 ≤ (G.1 66 86).toInt ∧ (G.1 66 86).toInt ≤ 100000 := hB_G.i 66 86 rfl rfl
    have g_38 : (G_18.1 66 86).toInt = (G.1 66 86).toInt := by rw [show G_18.1 66 86 = (G.1 66 86) from ((hq_19.i 66 86 (by decide) (by decide)).trans (hq_8.i 66 86 (by decide) (by decide)))]
    have b_39 : 0 ≤ (G.1 96 0).toInt ∧ (G.1 96 0).toInt ≤ 9 := hB_G.i 96 0 rfl rfl
    have g_40 : (G_18.1 96 0).toInt = (G.1 96 0).toInt := by rw [show G_18.1 96 0 = (G.1 96 0) from ((hq_19.i 96 0 (by decide) (by decide)).trans (hq_8.i 96 0 (by decide) (by decide)))]
    have b_41 : 0 ≤ (G.1 96 1).toInt ∧ (G.1 96 1).toInt ≤ 9 := hB_G.i 96 1 rfl rfl
    have g_42 : (G_18.1 96 1).toInt = (G.1 96 1).toInt := by rw [show G_18.1 96 1 = (G.1 96 1) from ((hq_19.i 96 1 (by decide) (by decide)).trans (hq_8.i 96 1 (by decide) (by decide)))]
    have b_43 : 0 ≤ (G.1 96 2).toInt ∧ (G.1 96 2).toInt ≤ 9 := hB_G.i 96 2 rfl rfl
    have g_44 : (G_18.1 96 2).toInt = (G.1 96 2).toInt := by rw [show G_18.1 96 2 = (G.1 96 2) from ((hq_19.i 96 2 (by decide) (by decide)).trans (hq_8.i 96 2 (by decide) (by decide)))]
    exact K G_18 _ _ _ (Or.inl ⟨((((hq_19.r 0 0 (by decide) (by decide)).trans (hq_8.r 0 0 (by decide) (by decide)))).trans (hv_0_0)), ((((hq_19.r 0 1 (by decide) (by decide)).trans (hq_8.r 0 1 (by decide) (by decide)))).trans (hv_0_1)), ((((hq_19.r 6 4 (by decide) (by decide)).trans (hq_8.r 6 4 (by decide) (by decide)))).trans (hv_6_4)), by omega, by omega, by omega, by omega, by omega, by omega, by omega, by omega, by omega⟩) hB_G_18 hW hS (lv_sub hl [0, 1, 2, 3] rfl)
  · skip
    refine lv_aload_n hx hb dL_law_1595 rfl (lv_at hl 1 rfl) ?_
    refine lv_aload_n hx hb dL_law_1596 rfl (lv_at hl 0 rfl) ?_
    refine lv_iload_n hx hb dL_law_1597 rfl (lv_at hl 3 rfl) ?_
    refine lv_iconst (v := 1) hx hb dL_law_1598 (by decide) ?_
    refine lv_iadd hx hb dL_law_1599 ?_
    refine lv_topi (fun y_1 ey_1 => ?_)
    have ty_1 : y_1.toInt = i0.toInt + 1 := xI_add rfl rfl ey_1 (by omega) (by omega)
    refine va_sld hx hb hX hbl hbA hS (vin (by omega) (by omega)) dL_law_1600 ?_
    refine lv_topi (fun y_2 ey_2 => ?_)
    have u_3 : y_2.toInt = (xs (i0 + 1).toNatClampNeg).toInt := by rw [ey_2, ey_1]
    have b_4 : 0 ≤ (G.1 30 4).toInt ∧ (G.1 30 4).toInt ≤ 40 := hB_G.i 30 4 rfl rfl
    have b_5 : 0 ≤ (G.1 30 5).toInt ∧ (G.1 30 5).toInt ≤ 40 := hB_G.i 30 5 rfl rfl
    refine S_calli (va_runV (As := [.int y_2]) (rest := []) ⟨hx, hb, hml, hown, hts⟩ (k_Wback l D k A a z G y_2 (by omega)) (cwV 1 hts (gd_V hgd m1295 m1296 m1297 m117 m1298) rfl rfl rfl (by decide +kernel) ⟨Nat.le_of_ble_eq_true rfl, Nat.le_of_ble_eq_true rfl⟩) (pre_V hW hB_G hK hZ hS kd_0 rfl) rfl rfl hl.1 rfl (lv_room (Nat.le_of_ble_eq_true rfl)) dL_law_1601 ⟨Nat.le_of_ble_eq_true rfl, Nat.le_of_ble_eq_true rfl⟩) hS (fun r_6 G_7 H locs hpo hW hS => ?_)
    obtain ⟨hB_G_7, hq_8, hp_9⟩ := hpo
    refine lv_pop hx hb dL_law_1604 rfl ?_
    refine lv_aload_n hx hb dL_law_1605 rfl (lv_at hl 2 rfl) ?_
    refine lv_aload_n hx hb dL_law_1606 rfl (lv_at hl 0 rfl) ?_
    refine lv_iload_n hx hb dL_law_1607 rfl (lv_at hl 3 rfl) ?_
    refine lv_iconst (v := 1) hx hb dL_law_1608 (by decide) ?_
    refine lv_iadd hx hb dL_law_1609 ?_
    refine lv_topi (fun y_10 ey_10 => ?_)
    have ty_10 : y_10.toInt = i0.toInt + 1 := xI_add rfl rfl ey_10 (by omega) (by omega)
    refine va_sld hx hb hX hbl hbA hS (vin (by omega) (by omega)) dL_law_1610 ?_
    refine lv_topi (fun y_11 ey_11 => ?_)
    have u_12 : y_11.toInt = (xs (i0 + 1).toNatClampNeg).toInt := by rw [ey_11, ey_10]
    have b_13 : 0 ≤ (G.1 66 78).toInt ∧ (G.1 66 78).toInt ≤ 40 := hB_G.i 66 78 rfl rfl
    have g_14 : (G_7.1 66 78).toInt = (G.1 66 78).toInt := by rw [show G_7.1 66 78 = (G.1 66 78) from (hq_8.i 66 78 (by decide) (by decide))]
    have b_15 : 0 ≤ (G.1 66 79).toInt ∧ (G.1 66 79).toInt ≤ 40 := hB_G.i 66 79 rfl rfl
    have g_16 : (G_7.1 66 79).toInt = (G.1 66 79).toInt := by rw [show G_7.1 66 79 = (G.1 66 79) from (hq_8.i 66 79 (by decide) (by decide))]
    refine S_calli (va_runV (As := [.int y_11]) (rest := []) ⟨hx, hb, hml, hown, hts⟩ (n_back l D k A a z G_7 y_11 (by omega)) (cwV 1 hts (gd_V hgd m2073 m2074 m2075 m131 m2076) rfl rfl rfl (by decide +kernel) ⟨Nat.le_of_ble_eq_true rfl, Nat.le_of_ble_eq_true rfl⟩) (pre_V hW hB_G_7 hK hZ hS kd_66 rfl) rfl rfl hl.1 rfl (lv_room (Nat.le_of_ble_eq_true rfl)) dL_law_1611 ⟨Nat.le_of_ble_eq_true rfl, Nat.le_of_ble_eq_true rfl⟩) hS (fun r_17 G_18 H locs hpo hW hS => ?_)
    obtain ⟨hB_G_18, hq_19, hp_20⟩ := hpo
    refine lv_pop hx hb dL_law_1614 rfl ?_
    refine lv_goto (tgt := 1641) hx hb dL_law_1615 (by decide) ?_
    have g_21 : gO G_18 = gO G := gO_fr (rs := [58, 59, 110]) (fs := [(30, 4), (30, 5), (66, 78), (66, 79)]) ((Fr.rf.call hq_8 (by decide) (by decide)).call hq_19 (by decide) (by decide)) (by decide) (by decide)
    have g_22 : gP G_18 = gP G := gP_fr (rs := [58, 59, 110]) (fs := [(30, 4), (30, 5), (66, 78), (66, 79)]) ((Fr.rf.call hq_8 (by decide) (by decide)).call hq_19 (by decide) (by decide)) (by decide) (by decide)
    have g_23 : gS G_18 = gS G := gS_fr (rs := [58, 59, 110]) (fs := [(30, 4), (30, 5), (66, 78), (66, 79)]) ((Fr.rf.call hq_8 (by decide) (by decide)).call hq_19 (by decide) (by decide)) (by decide) (by decide)
    have g_24 : gW G_18 = gW G := gW_fr (rs := [58, 59, 110]) (fs := [(30, 4), (30, 5), (66, 78), (66, 79)]) ((Fr.rf.call hq_8 (by decide) (by decide)).call hq_19 (by decide) (by decide)) (by decide) (by decide)
    have b_25 : 0 ≤ (G.1 0 11).toInt ∧ (G.1 0 11).toInt ≤ 1600 := hB_G.i 0 11 rfl rfl
    have g_26 : (G_18.1 0 11).toInt = (G.1 0 11).toInt := by rw [show G_18.1 0 11 = (G.1 0 11) from ((hq_19.i 0 11 (by decide) (by decide)).trans (hq_8.i 0 11 (by decide) (by decide)))]
    have b_27 : 0 ≤ (G_7.1 30 4).toInt ∧ (G_7.1 30 4).toInt ≤ 40 := hB_G_7.i 30 4 rfl rfl
    have g_28 : (G_18.1 30 4).toInt = (G_7.1 30 4).toInt := by rw [show G_18.1 30 4 = (G_7.1 30 4) from (hq_19.i 30 4 (by decide) (by decide))]
    have b_29 : 0 ≤ (G_7.1 30 5).toInt ∧ (G_7.1 30 5).toInt ≤ 40 := hB_G_7.i 30 5 rfl rfl
    have g_30 : (G_18.1 30 5).toInt = (G_7.1 30 5).toInt := by rw [show G_18.1 30 5 = (G_7.1 30 5) from (hq_19.i 30 5 (by decide) (by decide))]
    have b_31 : 0 ≤ (G.1 31 6).toInt ∧ (G.1 31 6).toInt ≤ 100000 := hB_G.i 31 6 rfl rfl
    have g_32 : (G_18.1 31 6).toInt = (G.1 31 6).toInt := by rw [show G_18.1 31 6 = (G.1 31 6) from ((hq_19.i 31 6 (by decide) (by decide)).trans (hq_8.i 31 6 (by decide) (by decide)))]
    have b_33 : 0 ≤ (G.1 66 1).toInt ∧ (G.1 66 1).toInt ≤ 1600 := hB_G.i 66 1 rfl rfl
    have g_34 : (G_18.1 66 1).toInt = (G.1 66 1).toInt := by rw [show G_18.1 66 1 = (G.1 66 1) from ((hq_19.i 66 1 (by decide) (by decide)).trans (hq_8.i 66 1 (by decide) (by decide)))]
    have b_35 : 0 ≤ (G_18.1 66 78).toInt ∧ (G_18.1 66 78).toInt ≤ 40 := hB_G_18.i 66 78 rfl rfl
    have b_36 : 0 ≤ (G_18.1 66 79).toInt ∧ (G_18.1 66 79).toInt ≤ 40 := hB_G_18.i 66 79 rfl rfl
    have b_37 : 0 ≤ (G.1 66 86).toInt ∧ (G.1 66 86).toInt ≤ 100000 := hB_G.i 66 86 rfl rfl
    have g_38 : (G_18.1 66 86).toInt = (G.1 66 86).toInt := by rw [show G_18.1 66 86 = (G.1 66 86) from ((hq_19.i 66 86 (by decide) (by decide)).trans (hq_8.i 66 86 (by decide) (by decide)))]
    have b_39 : 0 ≤ (G.1 96 0).toInt ∧ (G.1 96 0).toInt ≤ 9 := hB_G.i 96 0 rfl rfl
    have g_40 : (G_18.1 96 0).toInt = (G.1 96 0).toInt := by rw [show G_18.1 96 0 = (G.1 96 0) from ((hq_19.i 96 0 (by decide) (by decide)).trans (hq_8.i 96 0 (by decide) (by decide)))]
    have b_41 : 0 ≤ (G.1 96 1).toInt ∧ (G.1 96 1).toInt ≤ 9 := hB_G.i 96 1 rfl rfl
    have g_42 : (G_18.1 96 1).toInt = (G.1 96 1).toInt := by rw [show G_18.1 96 1 = (G.1 96 1) from ((hq_19.i 96 1 (by decide) (by decide)).trans (hq_8.i 96 1 (by decide) (by decide)))]
    have b_43 : 0 ≤ (G.1 96 2).toInt ∧ (G.1 96 2).toInt ≤ 9 := hB_G.i 96 2 rfl rfl
    have g_44 : (G_18.1 96 2).toInt = (G.1 96 2).toInt := by rw [show G_18.1 96 2 = (G.1 96 2) from ((hq_19.i 96 2 (by decide) (by decide)).trans (hq_8.i 96 2 (by decide) (by decide)))]
    exact K G_18 _ _ _ (Or.inr ⟨((((hq_19.r 0 0 (by decide) (by decide)).trans (hq_8.r 0 0 (by decide) (by decide)))).trans (hv_0_0)), ((((hq_19.r 0 1 (by decide) (by decide)).trans (hq_8.r 0 1 (by decide) (by decide)))).trans (hv_0_1)), ((((hq_19.r 6 4 (by decide) (by decide)).trans (hq_8.r 6 4 (by decide) (by decide)))).trans (hv_6_4)), by omega, by omega, by omega, by omega, by omega, by omega, by omega, by omega, by omega⟩) hB_G_18 hW hS (lv_sub hl [0, 1, 2, 3] rfl)
