theorem m117 : Cond.initialized RX11 ∈ gd := gd_mem 117 (by decide +kernel) (by decide +kernel)
theorem m131 : Cond.initialized RX12 ∈ gd := gd_mem 131 (by decide +kernel) (by decide +kernel)
theorem m622 : Cond.methodLink RL 23 yX11_pavement ∈ gd := gd_mem 622 (by decide +kernel) (by decide +kernel)
theorem m623 : Cond.instanceMethod yX11_pavement ∈ gd := gd_mem 623 (by decide +kernel) (by decide +kernel)
theorem m624 : Cond.selects RX11 yX11_pavement yX11_pavement ∈ gd := gd_mem 624 (by decide +kernel) (by decide +kernel)
theorem m625 : Cond.code yX11_pavement cX11_pavement 3 (some .int) ∈ gd := gd_mem 625 (by decide +kernel) (by decide +kernel)
theorem m903 : Cond.methodLink RL 41 yX11_line ∈ gd := gd_mem 903 (by decide +kernel) (by decide +kernel)
theorem m904 : Cond.instanceMethod yX11_line ∈ gd := gd_mem 904 (by decide +kernel) (by decide +kernel)
theorem m905 : Cond.selects RX11 yX11_line yX11_line ∈ gd := gd_mem 905 (by decide +kernel) (by decide +kernel)
theorem m906 : Cond.code yX11_line cX11_line 4 (some .int) ∈ gd := gd_mem 906 (by decide +kernel) (by decide +kernel)
theorem m1182 : Cond.methodLink RL 113 yX11_go ∈ gd := gd_mem 1182 (by decide +kernel) (by decide +kernel)
theorem m1183 : Cond.instanceMethod yX11_go ∈ gd := gd_mem 1183 (by decide +kernel) (by decide +kernel)
theorem m1184 : Cond.selects RX11 yX11_go yX11_go ∈ gd := gd_mem 1184 (by decide +kernel) (by decide +kernel)
theorem m1185 : Cond.code yX11_go cX11_go 5 (some .int) ∈ gd := gd_mem 1185 (by decide +kernel) (by decide +kernel)
theorem m1242 : Cond.methodLink RL 146 yX11_sight ∈ gd := gd_mem 1242 (by decide +kernel) (by decide +kernel)
theorem m1243 : Cond.instanceMethod yX11_sight ∈ gd := gd_mem 1243 (by decide +kernel) (by decide +kernel)
theorem m1244 : Cond.selects RX11 yX11_sight yX11_sight ∈ gd := gd_mem 1244 (by decide +kernel) (by decide +kernel)
theorem m1245 : Cond.code yX11_sight cX11_sight 4 (some .int) ∈ gd := gd_mem 1245 (by decide +kernel) (by decide +kernel)
theorem m1279 : Cond.methodLink RL 163 yX11_chance ∈ gd := gd_mem 1279 (by decide +kernel) (by decide +kernel)
theorem m1280 : Cond.instanceMethod yX11_chance ∈ gd := gd_mem 1280 (by decide +kernel) (by decide +kernel)
theorem m1281 : Cond.selects RX11 yX11_chance yX11_chance ∈ gd := gd_mem 1281 (by decide +kernel) (by decide +kernel)
theorem m1282 : Cond.code yX11_chance cX11_chance 10 (some .long) ∈ gd := gd_mem 1282 (by decide +kernel) (by decide +kernel)
theorem m1594 : Cond.methodLink RL 27 yX12_pavement ∈ gd := gd_mem 1594 (by decide +kernel) (by decide +kernel)
theorem m1595 : Cond.instanceMethod yX12_pavement ∈ gd := gd_mem 1595 (by decide +kernel) (by decide +kernel)
theorem m1596 : Cond.selects RX12 yX12_pavement yX12_pavement ∈ gd := gd_mem 1596 (by decide +kernel) (by decide +kernel)
theorem m1597 : Cond.code yX12_pavement cX12_pavement 3 (some .int) ∈ gd := gd_mem 1597 (by decide +kernel) (by decide +kernel)
theorem m1795 : Cond.methodLink RL 44 yX12_line ∈ gd := gd_mem 1795 (by decide +kernel) (by decide +kernel)
theorem m1796 : Cond.instanceMethod yX12_line ∈ gd := gd_mem 1796 (by decide +kernel) (by decide +kernel)
theorem m1797 : Cond.selects RX12 yX12_line yX12_line ∈ gd := gd_mem 1797 (by decide +kernel) (by decide +kernel)
theorem m1798 : Cond.code yX12_line cX12_line 4 (some .int) ∈ gd := gd_mem 1798 (by decide +kernel) (by decide +kernel)
theorem m1999 : Cond.methodLink RL 116 yX12_go ∈ gd := gd_mem 1999 (by decide +kernel) (by decide +kernel)
theorem m2000 : Cond.instanceMethod yX12_go ∈ gd := gd_mem 2000 (by decide +kernel) (by decide +kernel)
theorem m2001 : Cond.selects RX12 yX12_go yX12_go ∈ gd := gd_mem 2001 (by decide +kernel) (by decide +kernel)
theorem m2002 : Cond.code yX12_go cX12_go 5 (some .int) ∈ gd := gd_mem 2002 (by decide +kernel) (by decide +kernel)
theorem m2039 : Cond.methodLink RL 149 yX12_sight ∈ gd := gd_mem 2039 (by decide +kernel) (by decide +kernel)
theorem m2040 : Cond.instanceMethod yX12_sight ∈ gd := gd_mem 2040 (by decide +kernel) (by decide +kernel)
theorem m2041 : Cond.selects RX12 yX12_sight yX12_sight ∈ gd := gd_mem 2041 (by decide +kernel) (by decide +kernel)
theorem m2042 : Cond.code yX12_sight cX12_sight 4 (some .int) ∈ gd := gd_mem 2042 (by decide +kernel) (by decide +kernel)
theorem m2059 : Cond.methodLink RL 167 yX12_chance ∈ gd := gd_mem 2059 (by decide +kernel) (by decide +kernel)
theorem m2060 : Cond.instanceMethod yX12_chance ∈ gd := gd_mem 2060 (by decide +kernel) (by decide +kernel)
theorem m2061 : Cond.selects RX12 yX12_chance yX12_chance ∈ gd := gd_mem 2061 (by decide +kernel) (by decide +kernel)
theorem m2062 : Cond.code yX12_chance cX12_chance 12 (some .long) ∈ gd := gd_mem 2062 (by decide +kernel) (by decide +kernel)
theorem dL_law_290 : decode cL_law 290 = .ok (.aload_n 1, 1) := by decide +kernel
theorem dL_law_291 : decode cL_law 291 = .ok (.invokevirtual 23, 3) := by decide +kernel
theorem dL_law_294 : decode cL_law 294 = .ok (.pop, 1) := by decide +kernel
theorem dL_law_295 : decode cL_law 295 = .ok (.aload_n 2, 1) := by decide +kernel
theorem dL_law_296 : decode cL_law 296 = .ok (.invokevirtual 27, 3) := by decide +kernel
theorem dL_law_299 : decode cL_law 299 = .ok (.pop, 1) := by decide +kernel
theorem dL_law_300 : decode cL_law 300 = .ok (.goto 1341, 3) := by decide +kernel
theorem dL_law_392 : decode cL_law 392 = .ok (.aload_n 1, 1) := by decide +kernel
theorem dL_law_393 : decode cL_law 393 = .ok (.aload_n 0, 1) := by decide +kernel
theorem dL_law_394 : decode cL_law 394 = .ok (.iload_n 3, 1) := by decide +kernel
theorem dL_law_395 : decode cL_law 395 = .ok (.iconst 1, 1) := by decide +kernel
theorem dL_law_396 : decode cL_law 396 = .ok (.iadd, 1) := by decide +kernel
theorem dL_law_397 : decode cL_law 397 = .ok (.iaload, 1) := by decide +kernel
theorem dL_law_398 : decode cL_law 398 = .ok (.aload_n 0, 1) := by decide +kernel
theorem dL_law_399 : decode cL_law 399 = .ok (.iload_n 3, 1) := by decide +kernel
theorem dL_law_400 : decode cL_law 400 = .ok (.iconst 2, 1) := by decide +kernel
theorem dL_law_401 : decode cL_law 401 = .ok (.iadd, 1) := by decide +kernel
theorem dL_law_402 : decode cL_law 402 = .ok (.iaload, 1) := by decide +kernel
theorem dL_law_403 : decode cL_law 403 = .ok (.aload_n 0, 1) := by decide +kernel
theorem dL_law_404 : decode cL_law 404 = .ok (.iload_n 3, 1) := by decide +kernel
theorem dL_law_405 : decode cL_law 405 = .ok (.iconst 3, 1) := by decide +kernel
theorem dL_law_406 : decode cL_law 406 = .ok (.iadd, 1) := by decide +kernel
theorem dL_law_407 : decode cL_law 407 = .ok (.iaload, 1) := by decide +kernel
theorem dL_law_408 : decode cL_law 408 = .ok (.invokevirtual 41, 3) := by decide +kernel
theorem dL_law_411 : decode cL_law 411 = .ok (.pop, 1) := by decide +kernel
theorem dL_law_412 : decode cL_law 412 = .ok (.aload_n 2, 1) := by decide +kernel
theorem dL_law_413 : decode cL_law 413 = .ok (.aload_n 0, 1) := by decide +kernel
theorem dL_law_414 : decode cL_law 414 = .ok (.iload_n 3, 1) := by decide +kernel
theorem dL_law_415 : decode cL_law 415 = .ok (.iconst 1, 1) := by decide +kernel
theorem dL_law_416 : decode cL_law 416 = .ok (.iadd, 1) := by decide +kernel
theorem dL_law_417 : decode cL_law 417 = .ok (.iaload, 1) := by decide +kernel
theorem dL_law_418 : decode cL_law 418 = .ok (.aload_n 0, 1) := by decide +kernel
theorem dL_law_419 : decode cL_law 419 = .ok (.iload_n 3, 1) := by decide +kernel
theorem dL_law_420 : decode cL_law 420 = .ok (.iconst 2, 1) := by decide +kernel
theorem dL_law_421 : decode cL_law 421 = .ok (.iadd, 1) := by decide +kernel
theorem dL_law_422 : decode cL_law 422 = .ok (.iaload, 1) := by decide +kernel
theorem dL_law_423 : decode cL_law 423 = .ok (.aload_n 0, 1) := by decide +kernel
theorem dL_law_424 : decode cL_law 424 = .ok (.iload_n 3, 1) := by decide +kernel
theorem dL_law_425 : decode cL_law 425 = .ok (.iconst 3, 1) := by decide +kernel
theorem dL_law_426 : decode cL_law 426 = .ok (.iadd, 1) := by decide +kernel
theorem dL_law_427 : decode cL_law 427 = .ok (.iaload, 1) := by decide +kernel
theorem dL_law_428 : decode cL_law 428 = .ok (.invokevirtual 44, 3) := by decide +kernel
theorem dL_law_431 : decode cL_law 431 = .ok (.pop, 1) := by decide +kernel
theorem dL_law_432 : decode cL_law 432 = .ok (.goto 1209, 3) := by decide +kernel
theorem dL_law_1273 : decode cL_law 1273 = .ok (.aload_n 1, 1) := by decide +kernel
theorem dL_law_1274 : decode cL_law 1274 = .ok (.aload_n 0, 1) := by decide +kernel
theorem dL_law_1275 : decode cL_law 1275 = .ok (.iload_n 3, 1) := by decide +kernel
theorem dL_law_1276 : decode cL_law 1276 = .ok (.iconst 1, 1) := by decide +kernel
theorem dL_law_1277 : decode cL_law 1277 = .ok (.iadd, 1) := by decide +kernel
theorem dL_law_1278 : decode cL_law 1278 = .ok (.iaload, 1) := by decide +kernel
theorem dL_law_1279 : decode cL_law 1279 = .ok (.invokevirtual 113, 3) := by decide +kernel
theorem dL_law_1282 : decode cL_law 1282 = .ok (.pop, 1) := by decide +kernel
theorem dL_law_1283 : decode cL_law 1283 = .ok (.aload_n 2, 1) := by decide +kernel
theorem dL_law_1284 : decode cL_law 1284 = .ok (.aload_n 0, 1) := by decide +kernel
theorem dL_law_1285 : decode cL_law 1285 = .ok (.iload_n 3, 1) := by decide +kernel
theorem dL_law_1286 : decode cL_law 1286 = .ok (.iconst 1, 1) := by decide +kernel
theorem dL_law_1287 : decode cL_law 1287 = .ok (.iadd, 1) := by decide +kernel
theorem dL_law_1288 : decode cL_law 1288 = .ok (.iaload, 1) := by decide +kernel
theorem dL_law_1289 : decode cL_law 1289 = .ok (.invokevirtual 116, 3) := by decide +kernel
theorem dL_law_1292 : decode cL_law 1292 = .ok (.pop, 1) := by decide +kernel
theorem dL_law_1293 : decode cL_law 1293 = .ok (.goto 348, 3) := by decide +kernel
theorem dL_law_1417 : decode cL_law 1417 = .ok (.aload_n 1, 1) := by decide +kernel
theorem dL_law_1418 : decode cL_law 1418 = .ok (.aload_n 0, 1) := by decide +kernel
theorem dL_law_1419 : decode cL_law 1419 = .ok (.iload_n 3, 1) := by decide +kernel
theorem dL_law_1420 : decode cL_law 1420 = .ok (.iconst 1, 1) := by decide +kernel
theorem dL_law_1421 : decode cL_law 1421 = .ok (.iadd, 1) := by decide +kernel
theorem dL_law_1422 : decode cL_law 1422 = .ok (.iaload, 1) := by decide +kernel
theorem dL_law_1423 : decode cL_law 1423 = .ok (.aload_n 0, 1) := by decide +kernel
theorem dL_law_1424 : decode cL_law 1424 = .ok (.iload_n 3, 1) := by decide +kernel
theorem dL_law_1425 : decode cL_law 1425 = .ok (.iconst 2, 1) := by decide +kernel
theorem dL_law_1426 : decode cL_law 1426 = .ok (.iadd, 1) := by decide +kernel
theorem dL_law_1427 : decode cL_law 1427 = .ok (.iaload, 1) := by decide +kernel
theorem dL_law_1428 : decode cL_law 1428 = .ok (.aload_n 0, 1) := by decide +kernel
theorem dL_law_1429 : decode cL_law 1429 = .ok (.iload_n 3, 1) := by decide +kernel
theorem dL_law_1430 : decode cL_law 1430 = .ok (.iconst 3, 1) := by decide +kernel
theorem dL_law_1431 : decode cL_law 1431 = .ok (.iadd, 1) := by decide +kernel
theorem dL_law_1432 : decode cL_law 1432 = .ok (.iaload, 1) := by decide +kernel
theorem dL_law_1433 : decode cL_law 1433 = .ok (.invokevirtual 146, 3) := by decide +kernel
theorem dL_law_1436 : decode cL_law 1436 = .ok (.pop, 1) := by decide +kernel
theorem dL_law_1437 : decode cL_law 1437 = .ok (.aload_n 2, 1) := by decide +kernel
theorem dL_law_1438 : decode cL_law 1438 = .ok (.aload_n 0, 1) := by decide +kernel
theorem dL_law_1439 : decode cL_law 1439 = .ok (.iload_n 3, 1) := by decide +kernel
theorem dL_law_1440 : decode cL_law 1440 = .ok (.iconst 1, 1) := by decide +kernel
theorem dL_law_1441 : decode cL_law 1441 = .ok (.iadd, 1) := by decide +kernel
theorem dL_law_1442 : decode cL_law 1442 = .ok (.iaload, 1) := by decide +kernel
theorem dL_law_1443 : decode cL_law 1443 = .ok (.aload_n 0, 1) := by decide +kernel
theorem dL_law_1444 : decode cL_law 1444 = .ok (.iload_n 3, 1) := by decide +kernel
theorem dL_law_1445 : decode cL_law 1445 = .ok (.iconst 2, 1) := by decide +kernel
theorem dL_law_1446 : decode cL_law 1446 = .ok (.iadd, 1) := by decide +kernel
theorem dL_law_1447 : decode cL_law 1447 = .ok (.iaload, 1) := by decide +kernel
theorem dL_law_1448 : decode cL_law 1448 = .ok (.aload_n 0, 1) := by decide +kernel
theorem dL_law_1449 : decode cL_law 1449 = .ok (.iload_n 3, 1) := by decide +kernel
theorem dL_law_1450 : decode cL_law 1450 = .ok (.iconst 3, 1) := by decide +kernel
theorem dL_law_1451 : decode cL_law 1451 = .ok (.iadd, 1) := by decide +kernel
theorem dL_law_1452 : decode cL_law 1452 = .ok (.iaload, 1) := by decide +kernel
theorem dL_law_1453 : decode cL_law 1453 = .ok (.invokevirtual 149, 3) := by decide +kernel
theorem dL_law_1456 : decode cL_law 1456 = .ok (.pop, 1) := by decide +kernel
theorem dL_law_1457 : decode cL_law 1457 = .ok (.goto 184, 3) := by decide +kernel
theorem dL_law_1529 : decode cL_law 1529 = .ok (.aload_n 1, 1) := by decide +kernel
theorem dL_law_1530 : decode cL_law 1530 = .ok (.aload_n 0, 1) := by decide +kernel
theorem dL_law_1531 : decode cL_law 1531 = .ok (.iload_n 3, 1) := by decide +kernel
theorem dL_law_1532 : decode cL_law 1532 = .ok (.iconst 1, 1) := by decide +kernel
theorem dL_law_1533 : decode cL_law 1533 = .ok (.iadd, 1) := by decide +kernel
theorem dL_law_1534 : decode cL_law 1534 = .ok (.iaload, 1) := by decide +kernel
theorem dL_law_1535 : decode cL_law 1535 = .ok (.aload_n 0, 1) := by decide +kernel
theorem dL_law_1536 : decode cL_law 1536 = .ok (.iload_n 3, 1) := by decide +kernel
theorem dL_law_1537 : decode cL_law 1537 = .ok (.iconst 2, 1) := by decide +kernel
theorem dL_law_1538 : decode cL_law 1538 = .ok (.iadd, 1) := by decide +kernel
theorem dL_law_1539 : decode cL_law 1539 = .ok (.iaload, 1) := by decide +kernel
theorem dL_law_1540 : decode cL_law 1540 = .ok (.aload_n 0, 1) := by decide +kernel
theorem dL_law_1541 : decode cL_law 1541 = .ok (.iload_n 3, 1) := by decide +kernel
theorem dL_law_1542 : decode cL_law 1542 = .ok (.iconst 3, 1) := by decide +kernel
theorem dL_law_1543 : decode cL_law 1543 = .ok (.iadd, 1) := by decide +kernel
theorem dL_law_1544 : decode cL_law 1544 = .ok (.iaload, 1) := by decide +kernel
theorem dL_law_1545 : decode cL_law 1545 = .ok (.invokevirtual 163, 3) := by decide +kernel
theorem dL_law_1548 : decode cL_law 1548 = .ok (.pop2, 1) := by decide +kernel
theorem dL_law_1549 : decode cL_law 1549 = .ok (.aload_n 2, 1) := by decide +kernel
theorem dL_law_1550 : decode cL_law 1550 = .ok (.aload_n 0, 1) := by decide +kernel
theorem dL_law_1551 : decode cL_law 1551 = .ok (.iload_n 3, 1) := by decide +kernel
theorem dL_law_1552 : decode cL_law 1552 = .ok (.iconst 1, 1) := by decide +kernel
theorem dL_law_1553 : decode cL_law 1553 = .ok (.iadd, 1) := by decide +kernel
theorem dL_law_1554 : decode cL_law 1554 = .ok (.iaload, 1) := by decide +kernel
theorem dL_law_1555 : decode cL_law 1555 = .ok (.aload_n 0, 1) := by decide +kernel
theorem dL_law_1556 : decode cL_law 1556 = .ok (.iload_n 3, 1) := by decide +kernel
theorem dL_law_1557 : decode cL_law 1557 = .ok (.iconst 2, 1) := by decide +kernel
theorem dL_law_1558 : decode cL_law 1558 = .ok (.iadd, 1) := by decide +kernel
theorem dL_law_1559 : decode cL_law 1559 = .ok (.iaload, 1) := by decide +kernel
theorem dL_law_1560 : decode cL_law 1560 = .ok (.aload_n 0, 1) := by decide +kernel
theorem dL_law_1561 : decode cL_law 1561 = .ok (.iload_n 3, 1) := by decide +kernel
theorem dL_law_1562 : decode cL_law 1562 = .ok (.iconst 3, 1) := by decide +kernel
theorem dL_law_1563 : decode cL_law 1563 = .ok (.iadd, 1) := by decide +kernel
theorem dL_law_1564 : decode cL_law 1564 = .ok (.iaload, 1) := by decide +kernel
theorem dL_law_1565 : decode cL_law 1565 = .ok (.invokevirtual 167, 3) := by decide +kernel
theorem dL_law_1568 : decode cL_law 1568 = .ok (.pop2, 1) := by decide +kernel
theorem dL_law_1569 : decode cL_law 1569 = .ok (.goto 72, 3) := by decide +kernel
theorem k_Wline_1 (l : Launch) (D : va_G) (k : KT) (A : Nat → Prop) (a : Nat → Nat) (z : SK) (G : GS) (p0 : Int32) (p1 : Int32) (p2 : Int32) (hv_0_0 : G.2.2 0 0 = 1) (hv_0_1 : G.2.2 0 1 = 2) (hv_6_4 : G.2.2 6 4 = 1) : Met l yX11_line (WS yX11_line cX11_line 4 (some .int)) ({ frames := 4, cells := 0, slots := 0, locals := 96 }) (va_Pc [.ref (a 0), .int p0, .int p1, .int p2] (cW D k A a z G)) (va_Qi (fun (r : Int32) (G1 : GS) => P_Wline_1 p0 p1 p2 G r G1) (fun (G1 : GS) t => Wd D k A a G1 t.heap) A) 0 0 A := by sorry

theorem k_Wsight_1 (l : Launch) (D : va_G) (k : KT) (A : Nat → Prop) (a : Nat → Nat) (z : SK) (G : GS) (p0 : Int32) (p1 : Int32) (p2 : Int32) (hv_0_0 : G.2.2 0 0 = 1) (hv_0_1 : G.2.2 0 1 = 2) (hv_6_4 : G.2.2 6 4 = 1) : Met l yX11_sight (WS yX11_sight cX11_sight 4 (some .int)) ({ frames := 2, cells := 0, slots := 0, locals := 44 }) (va_Pc [.ref (a 0), .int p0, .int p1, .int p2] (cW D k A a z G)) (va_Qi (fun (r : Int32) (G1 : GS) => P_Wsight_1 p0 p1 p2 G r G1) (fun (G1 : GS) t => Wd D k A a G1 t.heap) A) 0 0 A := by sorry

theorem k_Wgo_1 (l : Launch) (D : va_G) (k : KT) (A : Nat → Prop) (a : Nat → Nat) (z : SK) (G : GS) (p0 : Int32) (hv_0_0 : G.2.2 0 0 = 1) (hv_0_1 : G.2.2 0 1 = 2) (hv_6_4 : G.2.2 6 4 = 1) (he : (G.1 30 4).toInt + (G.1 30 5).toInt ≤ 40) : Met l yX11_go (WS yX11_go cX11_go 5 (some .int)) ({ frames := 5, cells := 0, slots := 0, locals := 118 }) (va_Pc [.ref (a 0), .int p0] (cW D k A a z G)) (va_Qi (fun (r : Int32) (G1 : GS) => P_Wgo_1 p0 G r G1) (fun (G1 : GS) t => Wd D k A a G1 t.heap) A) 0 0 A := by sorry

theorem k_Wchance_1 (l : Launch) (D : va_G) (k : KT) (A : Nat → Prop) (a : Nat → Nat) (z : SK) (G : GS) (p0 : Int32) (p1 : Int32) (p2 : Int32) (hv_0_0 : G.2.2 0 0 = 1) (hv_0_1 : G.2.2 0 1 = 2) (hv_6_4 : G.2.2 6 4 = 1) : Met l yX11_chance (WS yX11_chance cX11_chance 10 (some .long)) ({ frames := 6, cells := 0, slots := 0, locals := 145 }) (va_Pc [.ref (a 0), .int p0, .int p1, .int p2] (cW D k A a z G)) (va_Ql (fun (r : Int64) (G1 : GS) => P_Wchance_1 p0 p1 p2 G r G1) (fun (G1 : GS) t => Wd D k A a G1 t.heap) A) 0 0 A := by sorry

theorem k_Wpavement_1 (l : Launch) (D : va_G) (k : KT) (A : Nat → Prop) (a : Nat → Nat) (z : SK) (G : GS)  (hv_0_0 : G.2.2 0 0 = 1) (hv_0_1 : G.2.2 0 1 = 2) (hv_6_4 : G.2.2 6 4 = 1) (he : (G.1 30 4).toInt + (G.1 30 5).toInt ≤ 40) : Met l yX11_pavement (WS yX11_pavement cX11_pavement 3 (some .int)) ({ frames := 102, cells := 0, slots := 0, locals := 2194 }) (va_Pc [.ref (a 0)] (cW D k A a z G)) (va_Qi (fun (r : Int32) (G1 : GS) => P_Wpavement_1 G r G1) (fun (G1 : GS) t => Wd D k A a G1 t.heap) A) 0 0 A := by sorry

theorem k_Wline_2 (l : Launch) (D : va_G) (k : KT) (A : Nat → Prop) (a : Nat → Nat) (z : SK) (G : GS) (p0 : Int32) (p1 : Int32) (p2 : Int32) (hv_0_0 : G.2.2 0 0 = 2) (hv_0_1 : G.2.2 0 1 = 1) (hv_6_4 : G.2.2 6 4 = 2) : Met l yX11_line (WS yX11_line cX11_line 4 (some .int)) ({ frames := 4, cells := 0, slots := 0, locals := 96 }) (va_Pc [.ref (a 0), .int p0, .int p1, .int p2] (cW D k A a z G)) (va_Qi (fun (r : Int32) (G1 : GS) => P_Wline_2 p0 p1 p2 G r G1) (fun (G1 : GS) t => Wd D k A a G1 t.heap) A) 0 0 A := by sorry

theorem k_Wsight_2 (l : Launch) (D : va_G) (k : KT) (A : Nat → Prop) (a : Nat → Nat) (z : SK) (G : GS) (p0 : Int32) (p1 : Int32) (p2 : Int32) (hv_0_0 : G.2.2 0 0 = 2) (hv_0_1 : G.2.2 0 1 = 1) (hv_6_4 : G.2.2 6 4 = 2) : Met l yX11_sight (WS yX11_sight cX11_sight 4 (some .int)) ({ frames := 2, cells := 0, slots := 0, locals := 44 }) (va_Pc [.ref (a 0), .int p0, .int p1, .int p2] (cW D k A a z G)) (va_Qi (fun (r : Int32) (G1 : GS) => P_Wsight_2 p0 p1 p2 G r G1) (fun (G1 : GS) t => Wd D k A a G1 t.heap) A) 0 0 A := by sorry

theorem k_Wgo_2 (l : Launch) (D : va_G) (k : KT) (A : Nat → Prop) (a : Nat → Nat) (z : SK) (G : GS) (p0 : Int32) (hv_0_0 : G.2.2 0 0 = 2) (hv_0_1 : G.2.2 0 1 = 1) (hv_6_4 : G.2.2 6 4 = 2) (he : (G.1 30 4).toInt + (G.1 30 5).toInt ≤ 40) : Met l yX11_go (WS yX11_go cX11_go 5 (some .int)) ({ frames := 5, cells := 0, slots := 0, locals := 118 }) (va_Pc [.ref (a 0), .int p0] (cW D k A a z G)) (va_Qi (fun (r : Int32) (G1 : GS) => P_Wgo_2 p0 G r G1) (fun (G1 : GS) t => Wd D k A a G1 t.heap) A) 0 0 A := by sorry

theorem k_Wchance_2 (l : Launch) (D : va_G) (k : KT) (A : Nat → Prop) (a : Nat → Nat) (z : SK) (G : GS) (p0 : Int32) (p1 : Int32) (p2 : Int32) (hv_0_0 : G.2.2 0 0 = 2) (hv_0_1 : G.2.2 0 1 = 1) (hv_6_4 : G.2.2 6 4 = 2) : Met l yX11_chance (WS yX11_chance cX11_chance 10 (some .long)) ({ frames := 6, cells := 0, slots := 0, locals := 145 }) (va_Pc [.ref (a 0), .int p0, .int p1, .int p2] (cW D k A a z G)) (va_Ql (fun (r : Int64) (G1 : GS) => P_Wchance_2 p0 p1 p2 G r G1) (fun (G1 : GS) t => Wd D k A a G1 t.heap) A) 0 0 A := by sorry

theorem k_Wpavement_2 (l : Launch) (D : va_G) (k : KT) (A : Nat → Prop) (a : Nat → Nat) (z : SK) (G : GS)  (hv_0_0 : G.2.2 0 0 = 2) (hv_0_1 : G.2.2 0 1 = 1) (hv_6_4 : G.2.2 6 4 = 2) (he : (G.1 30 4).toInt + (G.1 30 5).toInt ≤ 40) : Met l yX11_pavement (WS yX11_pavement cX11_pavement 3 (some .int)) ({ frames := 102, cells := 0, slots := 0, locals := 2194 }) (va_Pc [.ref (a 0)] (cW D k A a z G)) (va_Qi (fun (r : Int32) (G1 : GS) => P_Wpavement_2 G r G1) (fun (G1 : GS) t => Wd D k A a G1 t.heap) A) 0 0 A := by sorry

theorem n_line (l : Launch) (D : va_G) (k : KT) (A : Nat → Prop) (a : Nat → Nat) (z : SK) (G : GS) (p0 : Int32) (p1 : Int32) (p2 : Int32) (hP9 : gP G = 1) : Met l yX12_line (WS yX12_line cX12_line 4 (some .int)) ({ frames := 4, cells := 0, slots := 0, locals := 92 }) (va_Pc [.ref (a 66), .int p0, .int p1, .int p2] (cW D k A a z G)) (va_Qi (fun (r : Int32) (G1 : GS) => Q_line p0 p1 p2 G r G1) (fun (G1 : GS) t => Wd D k A a G1 t.heap) A) 0 0 A := by sorry

theorem n_go (l : Launch) (D : va_G) (k : KT) (A : Nat → Prop) (a : Nat → Nat) (z : SK) (G : GS) (p0 : Int32) (hP9 : gP G = 1) (hac : (G.1 66 78).toInt + (G.1 66 79).toInt ≤ 40) (hsl : 1 ≤ (G.1 96 0).toInt + (G.1 96 1).toInt + (G.1 96 2).toInt) : Met l yX12_go (WS yX12_go cX12_go 5 (some .int)) ({ frames := 5, cells := 0, slots := 0, locals := 117 }) (va_Pc [.ref (a 66), .int p0] (cW D k A a z G)) (va_Qi (fun (r : Int32) (G1 : GS) => Q_go p0 G r G1) (fun (G1 : GS) t => Wd D k A a G1 t.heap) A) 0 0 A := by sorry

theorem n_sight (l : Launch) (D : va_G) (k : KT) (A : Nat → Prop) (a : Nat → Nat) (z : SK) (G : GS) (p0 : Int32) (p1 : Int32) (p2 : Int32) (hW9 : gW G = 1) (hS9 : gS G = 1) : Met l yX12_sight (WS yX12_sight cX12_sight 4 (some .int)) ({ frames := 2, cells := 0, slots := 0, locals := 43 }) (va_Pc [.ref (a 66), .int p0, .int p1, .int p2] (cW D k A a z G)) (va_Qi (fun (r : Int32) (G1 : GS) => Q_sight p0 p1 p2 G r G1) (fun (G1 : GS) t => Wd D k A a G1 t.heap) A) 0 0 A := by sorry

theorem n_chance (l : Launch) (D : va_G) (k : KT) (A : Nat → Prop) (a : Nat → Nat) (z : SK) (G : GS) (p0 : Int32) (p1 : Int32) (p2 : Int32) (hP9 : gP G = 1) (hS9 : gS G = 1) : Met l yX12_chance (WS yX12_chance cX12_chance 12 (some .long)) ({ frames := 5, cells := 0, slots := 0, locals := 117 }) (va_Pc [.ref (a 66), .int p0, .int p1, .int p2] (cW D k A a z G)) (va_Ql (fun (r : Int64) (G1 : GS) => Q_chance p0 p1 p2 G r G1) (fun (G1 : GS) t => Wd D k A a G1 t.heap) A) 0 0 A := by sorry

theorem n_pavement (l : Launch) (D : va_G) (k : KT) (A : Nat → Prop) (a : Nat → Nat) (z : SK) (G : GS)  (hP9 : gP G = 1) (hW9 : gW G = 1) (hS9 : gS G = 1) (hac : (G.1 66 78).toInt + (G.1 66 79).toInt ≤ 40) (hsl : 1 ≤ (G.1 96 0).toInt + (G.1 96 1).toInt + (G.1 96 2).toInt) : Met l yX12_pavement (WS yX12_pavement cX12_pavement 3 (some .int)) ({ frames := 8, cells := 0, slots := 0, locals := 169 }) (va_Pc [.ref (a 66)] (cW D k A a z G)) (va_Qi (fun (r : Int32) (G1 : GS) => Q_pavement G r G1) (fun (G1 : GS) t => Wd D k A a G1 t.heap) A) 0 0 A := by sorry
