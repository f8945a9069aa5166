theorem m1250 : Cond.methodLink RL 150 yX11_untell ∈ gd := gdc_5_10 14 rfl gw_methodLink
theorem m1251 : Cond.instanceMethod yX11_untell ∈ gd := gdc_5_10 15 rfl gw_instanceMethod
theorem m1252 : Cond.selects RX11 yX11_untell yX11_untell ∈ gd := gdc_5_11 0 rfl gw_selects
theorem m1253 : Cond.code yX11_untell cX11_untell 2 (some .boolean) ∈ gd := gdc_5_11 1 rfl gw_code
theorem m1258 : Cond.methodLink RL 155 yX11_later ∈ gd := gdc_5_11 6 rfl gw_methodLink
theorem m1259 : Cond.instanceMethod yX11_later ∈ gd := gdc_5_11 7 rfl gw_instanceMethod
theorem m1260 : Cond.selects RX11 yX11_later yX11_later ∈ gd := gdc_5_11 8 rfl gw_selects
theorem m1261 : Cond.code yX11_later cX11_later 2 (some .int) ∈ gd := gdc_5_11 9 rfl gw_code
theorem m1263 : Cond.methodLink RL 159 yX11_fits ∈ gd := gdc_5_11 11 rfl gw_methodLink
theorem m1264 : Cond.instanceMethod yX11_fits ∈ gd := gdc_5_11 12 rfl gw_instanceMethod
theorem m1265 : Cond.selects RX11 yX11_fits yX11_fits ∈ gd := gdc_5_11 13 rfl gw_selects
theorem m1266 : Cond.code yX11_fits cX11_fits 4 (some .int) ∈ gd := gdc_5_11 14 rfl gw_code
theorem m1279 : Cond.methodLink RL 163 yX11_chance ∈ gd := gdc_5_12 11 rfl gw_methodLink
theorem m1280 : Cond.instanceMethod yX11_chance ∈ gd := gdc_5_12 12 rfl gw_instanceMethod
theorem m1281 : Cond.selects RX11 yX11_chance yX11_chance ∈ gd := gdc_5_12 13 rfl gw_selects
theorem m1282 : Cond.code yX11_chance cX11_chance 10 (some .long) ∈ gd := gdc_5_12 14 rfl gw_code
theorem m1287 : Cond.methodLink RL 168 yX11_image ∈ gd := gdc_5_13 3 rfl gw_methodLink
theorem m1288 : Cond.instanceMethod yX11_image ∈ gd := gdc_5_13 4 rfl gw_instanceMethod
theorem m1289 : Cond.selects RX11 yX11_image yX11_image ∈ gd := gdc_5_13 5 rfl gw_selects
theorem m1290 : Cond.code yX11_image cX11_image 2 (some .int) ∈ gd := gdc_5_13 6 rfl gw_code
theorem m1295 : Cond.methodLink RL 172 yX11_back ∈ gd := gdc_5_13 11 rfl gw_methodLink
theorem m1296 : Cond.instanceMethod yX11_back ∈ gd := gdc_5_13 12 rfl gw_instanceMethod
theorem m1297 : Cond.selects RX11 yX11_back yX11_back ∈ gd := gdc_5_13 13 rfl gw_selects
theorem m1298 : Cond.code yX11_back cX11_back 2 (some .int) ∈ gd := gdc_5_13 14 rfl gw_code
theorem m1303 : Cond.methodLink RL 176 yX11_about ∈ gd := gdc_5_14 3 rfl gw_methodLink
theorem m1304 : Cond.instanceMethod yX11_about ∈ gd := gdc_5_14 4 rfl gw_instanceMethod
theorem m1305 : Cond.selects RX11 yX11_about yX11_about ∈ gd := gdc_5_14 5 rfl gw_selects
theorem m1306 : Cond.code yX11_about cX11_about 2 (some .int) ∈ gd := gdc_5_14 6 rfl gw_code
theorem m2043 : Cond.methodLink RL 154 yX12_untell ∈ gd := gdc_9_0 7 rfl gw_methodLink
theorem m2044 : Cond.instanceMethod yX12_untell ∈ gd := gdc_9_0 8 rfl gw_instanceMethod
theorem m2045 : Cond.selects RX12 yX12_untell yX12_untell ∈ gd := gdc_9_0 9 rfl gw_selects
theorem m2046 : Cond.code yX12_untell cX12_untell 2 (some .boolean) ∈ gd := gdc_9_0 10 rfl gw_code
theorem m2047 : Cond.methodLink RL 158 yX12_later ∈ gd := gdc_9_0 11 rfl gw_methodLink
theorem m2048 : Cond.instanceMethod yX12_later ∈ gd := gdc_9_0 12 rfl gw_instanceMethod
theorem m2049 : Cond.selects RX12 yX12_later yX12_later ∈ gd := gdc_9_0 13 rfl gw_selects
theorem m2050 : Cond.code yX12_later cX12_later 2 (some .int) ∈ gd := gdc_9_0 14 rfl gw_code
theorem m2051 : Cond.methodLink RL 162 yX12_fits ∈ gd := gdc_9_0 15 rfl gw_methodLink
theorem m2052 : Cond.instanceMethod yX12_fits ∈ gd := gdc_9_1 0 rfl gw_instanceMethod
theorem m2053 : Cond.selects RX12 yX12_fits yX12_fits ∈ gd := gdc_9_1 1 rfl gw_selects
theorem m2054 : Cond.code yX12_fits cX12_fits 6 (some .int) ∈ gd := gdc_9_1 2 rfl gw_code
theorem m2059 : Cond.methodLink RL 167 yX12_chance ∈ gd := gdc_9_1 7 rfl gw_methodLink
theorem m2060 : Cond.instanceMethod yX12_chance ∈ gd := gdc_9_1 8 rfl gw_instanceMethod
theorem m2061 : Cond.selects RX12 yX12_chance yX12_chance ∈ gd := gdc_9_1 9 rfl gw_selects
theorem m2062 : Cond.code yX12_chance cX12_chance 12 (some .long) ∈ gd := gdc_9_1 10 rfl gw_code
theorem m2066 : Cond.methodLink RL 171 yX12_image ∈ gd := gdc_9_1 14 rfl gw_methodLink
theorem m2067 : Cond.instanceMethod yX12_image ∈ gd := gdc_9_1 15 rfl gw_instanceMethod
theorem m2068 : Cond.selects RX12 yX12_image yX12_image ∈ gd := gdc_9_2 0 rfl gw_selects
theorem m2069 : Cond.code yX12_image cX12_image 3 (some .int) ∈ gd := gdc_9_2 1 rfl gw_code
theorem m2073 : Cond.methodLink RL 175 yX12_back ∈ gd := gdc_9_2 5 rfl gw_methodLink
theorem m2074 : Cond.instanceMethod yX12_back ∈ gd := gdc_9_2 6 rfl gw_instanceMethod
theorem m2075 : Cond.selects RX12 yX12_back yX12_back ∈ gd := gdc_9_2 7 rfl gw_selects
theorem m2076 : Cond.code yX12_back cX12_back 3 (some .int) ∈ gd := gdc_9_2 8 rfl gw_code
theorem m2077 : Cond.methodLink RL 179 yX12_about ∈ gd := gdc_9_2 9 rfl gw_methodLink
theorem m2078 : Cond.instanceMethod yX12_about ∈ gd := gdc_9_2 10 rfl gw_instanceMethod
theorem m2079 : Cond.selects RX12 yX12_about yX12_about ∈ gd := gdc_9_2 11 rfl gw_selects
theorem m2080 : Cond.code yX12_about cX12_about 2 (some .int) ∈ gd := gdc_9_2 12 rfl gw_code
def rbL_law_1460 : List (Nat × List Nat) := [(1460, [43]), (1461, [42]), (1462, [29]), (1463, [4]), (1464, [96]), (1465, [46]), (1466, [182, 0, 150]), (1469, [87]), (1470, [44]), (1471, [42]), (1472, [29]), (1473, [4]), (1474, [96]), (1475, [46]), (1476, [182, 0, 154]), (1479, [87]), (1480, [167, 0, 161]), (1483, [43]), (1484, [42]), (1485, [29]), (1486, [4]), (1487, [96]), (1488, [46]), (1489, [182, 0, 155])]
theorem rcL_law_1460 : dgo (lb cL_law) 0 rbL_law_1460 = true := by decide +kernel
theorem dL_law_1460 : decode cL_law 1460 = .ok (.aload_n 1, 1) := dk_43 (dw rcL_law_1460 0 rfl)
theorem dL_law_1461 : decode cL_law 1461 = .ok (.aload_n 0, 1) := dk_42 (dw rcL_law_1460 1 rfl)
theorem dL_law_1462 : decode cL_law 1462 = .ok (.iload_n 3, 1) := dk_29 (dw rcL_law_1460 2 rfl)
theorem dL_law_1463 : decode cL_law 1463 = .ok (.iconst 1, 1) := dk_4 (dw rcL_law_1460 3 rfl)
theorem dL_law_1464 : decode cL_law 1464 = .ok (.iadd, 1) := dk_96 (dw rcL_law_1460 4 rfl)
theorem dL_law_1465 : decode cL_law 1465 = .ok (.iaload, 1) := dk_46 (dw rcL_law_1460 5 rfl)
theorem dL_law_1466 : decode cL_law 1466 = .ok (.invokevirtual 150, 3) := dk_182 (dw rcL_law_1460 6 rfl) rfl
theorem dL_law_1469 : decode cL_law 1469 = .ok (.pop, 1) := dk_87 (dw rcL_law_1460 7 rfl)
theorem dL_law_1470 : decode cL_law 1470 = .ok (.aload_n 2, 1) := dk_44 (dw rcL_law_1460 8 rfl)
theorem dL_law_1471 : decode cL_law 1471 = .ok (.aload_n 0, 1) := dk_42 (dw rcL_law_1460 9 rfl)
theorem dL_law_1472 : decode cL_law 1472 = .ok (.iload_n 3, 1) := dk_29 (dw rcL_law_1460 10 rfl)
theorem dL_law_1473 : decode cL_law 1473 = .ok (.iconst 1, 1) := dk_4 (dw rcL_law_1460 11 rfl)
theorem dL_law_1474 : decode cL_law 1474 = .ok (.iadd, 1) := dk_96 (dw rcL_law_1460 12 rfl)
theorem dL_law_1475 : decode cL_law 1475 = .ok (.iaload, 1) := dk_46 (dw rcL_law_1460 13 rfl)
theorem dL_law_1476 : decode cL_law 1476 = .ok (.invokevirtual 154, 3) := dk_182 (dw rcL_law_1460 14 rfl) rfl
theorem dL_law_1479 : decode cL_law 1479 = .ok (.pop, 1) := dk_87 (dw rcL_law_1460 15 rfl)
theorem dL_law_1480 : decode cL_law 1480 = .ok (.goto 161, 3) := dk_167 (dw rcL_law_1460 16 rfl) rfl
theorem dL_law_1483 : decode cL_law 1483 = .ok (.aload_n 1, 1) := dk_43 (dw rcL_law_1460 17 rfl)
theorem dL_law_1484 : decode cL_law 1484 = .ok (.aload_n 0, 1) := dk_42 (dw rcL_law_1460 18 rfl)
theorem dL_law_1485 : decode cL_law 1485 = .ok (.iload_n 3, 1) := dk_29 (dw rcL_law_1460 19 rfl)
theorem dL_law_1486 : decode cL_law 1486 = .ok (.iconst 1, 1) := dk_4 (dw rcL_law_1460 20 rfl)
theorem dL_law_1487 : decode cL_law 1487 = .ok (.iadd, 1) := dk_96 (dw rcL_law_1460 21 rfl)
theorem dL_law_1488 : decode cL_law 1488 = .ok (.iaload, 1) := dk_46 (dw rcL_law_1460 22 rfl)
theorem dL_law_1489 : decode cL_law 1489 = .ok (.invokevirtual 155, 3) := dk_182 (dw rcL_law_1460 23 rfl) rfl
def rbL_law_1492 : List (Nat × List Nat) := [(1492, [87]), (1493, [44]), (1494, [42]), (1495, [29]), (1496, [4]), (1497, [96]), (1498, [46]), (1499, [182, 0, 158]), (1502, [87]), (1503, [167, 0, 138]), (1506, [43]), (1507, [42]), (1508, [29]), (1509, [4]), (1510, [96]), (1511, [46]), (1512, [182, 0, 159]), (1515, [87]), (1516, [44]), (1517, [42]), (1518, [29]), (1519, [4]), (1520, [96]), (1521, [46])]
theorem rcL_law_1492 : dgo (lb cL_law) 0 rbL_law_1492 = true := by decide +kernel
theorem dL_law_1492 : decode cL_law 1492 = .ok (.pop, 1) := dk_87 (dw rcL_law_1492 0 rfl)
theorem dL_law_1493 : decode cL_law 1493 = .ok (.aload_n 2, 1) := dk_44 (dw rcL_law_1492 1 rfl)
theorem dL_law_1494 : decode cL_law 1494 = .ok (.aload_n 0, 1) := dk_42 (dw rcL_law_1492 2 rfl)
theorem dL_law_1495 : decode cL_law 1495 = .ok (.iload_n 3, 1) := dk_29 (dw rcL_law_1492 3 rfl)
theorem dL_law_1496 : decode cL_law 1496 = .ok (.iconst 1, 1) := dk_4 (dw rcL_law_1492 4 rfl)
theorem dL_law_1497 : decode cL_law 1497 = .ok (.iadd, 1) := dk_96 (dw rcL_law_1492 5 rfl)
theorem dL_law_1498 : decode cL_law 1498 = .ok (.iaload, 1) := dk_46 (dw rcL_law_1492 6 rfl)
theorem dL_law_1499 : decode cL_law 1499 = .ok (.invokevirtual 158, 3) := dk_182 (dw rcL_law_1492 7 rfl) rfl
theorem dL_law_1502 : decode cL_law 1502 = .ok (.pop, 1) := dk_87 (dw rcL_law_1492 8 rfl)
theorem dL_law_1503 : decode cL_law 1503 = .ok (.goto 138, 3) := dk_167 (dw rcL_law_1492 9 rfl) rfl
theorem dL_law_1506 : decode cL_law 1506 = .ok (.aload_n 1, 1) := dk_43 (dw rcL_law_1492 10 rfl)
theorem dL_law_1507 : decode cL_law 1507 = .ok (.aload_n 0, 1) := dk_42 (dw rcL_law_1492 11 rfl)
theorem dL_law_1508 : decode cL_law 1508 = .ok (.iload_n 3, 1) := dk_29 (dw rcL_law_1492 12 rfl)
theorem dL_law_1509 : decode cL_law 1509 = .ok (.iconst 1, 1) := dk_4 (dw rcL_law_1492 13 rfl)
theorem dL_law_1510 : decode cL_law 1510 = .ok (.iadd, 1) := dk_96 (dw rcL_law_1492 14 rfl)
theorem dL_law_1511 : decode cL_law 1511 = .ok (.iaload, 1) := dk_46 (dw rcL_law_1492 15 rfl)
theorem dL_law_1512 : decode cL_law 1512 = .ok (.invokevirtual 159, 3) := dk_182 (dw rcL_law_1492 16 rfl) rfl
theorem dL_law_1515 : decode cL_law 1515 = .ok (.pop, 1) := dk_87 (dw rcL_law_1492 17 rfl)
theorem dL_law_1516 : decode cL_law 1516 = .ok (.aload_n 2, 1) := dk_44 (dw rcL_law_1492 18 rfl)
theorem dL_law_1517 : decode cL_law 1517 = .ok (.aload_n 0, 1) := dk_42 (dw rcL_law_1492 19 rfl)
theorem dL_law_1518 : decode cL_law 1518 = .ok (.iload_n 3, 1) := dk_29 (dw rcL_law_1492 20 rfl)
theorem dL_law_1519 : decode cL_law 1519 = .ok (.iconst 1, 1) := dk_4 (dw rcL_law_1492 21 rfl)
theorem dL_law_1520 : decode cL_law 1520 = .ok (.iadd, 1) := dk_96 (dw rcL_law_1492 22 rfl)
theorem dL_law_1521 : decode cL_law 1521 = .ok (.iaload, 1) := dk_46 (dw rcL_law_1492 23 rfl)
def rbL_law_1522 : List (Nat × List Nat) := [(1522, [182, 0, 162]), (1525, [87]), (1526, [167, 0, 115]), (1529, [43]), (1530, [42]), (1531, [29]), (1532, [4]), (1533, [96]), (1534, [46]), (1535, [42]), (1536, [29]), (1537, [5]), (1538, [96]), (1539, [46]), (1540, [42]), (1541, [29]), (1542, [6]), (1543, [96]), (1544, [46]), (1545, [182, 0, 163]), (1548, [88]), (1549, [44]), (1550, [42]), (1551, [29])]
theorem rcL_law_1522 : dgo (lb cL_law) 0 rbL_law_1522 = true := by decide +kernel
theorem dL_law_1522 : decode cL_law 1522 = .ok (.invokevirtual 162, 3) := dk_182 (dw rcL_law_1522 0 rfl) rfl
theorem dL_law_1525 : decode cL_law 1525 = .ok (.pop, 1) := dk_87 (dw rcL_law_1522 1 rfl)
theorem dL_law_1526 : decode cL_law 1526 = .ok (.goto 115, 3) := dk_167 (dw rcL_law_1522 2 rfl) rfl
theorem dL_law_1529 : decode cL_law 1529 = .ok (.aload_n 1, 1) := dk_43 (dw rcL_law_1522 3 rfl)
theorem dL_law_1530 : decode cL_law 1530 = .ok (.aload_n 0, 1) := dk_42 (dw rcL_law_1522 4 rfl)
theorem dL_law_1531 : decode cL_law 1531 = .ok (.iload_n 3, 1) := dk_29 (dw rcL_law_1522 5 rfl)
theorem dL_law_1532 : decode cL_law 1532 = .ok (.iconst 1, 1) := dk_4 (dw rcL_law_1522 6 rfl)
theorem dL_law_1533 : decode cL_law 1533 = .ok (.iadd, 1) := dk_96 (dw rcL_law_1522 7 rfl)
theorem dL_law_1534 : decode cL_law 1534 = .ok (.iaload, 1) := dk_46 (dw rcL_law_1522 8 rfl)
theorem dL_law_1535 : decode cL_law 1535 = .ok (.aload_n 0, 1) := dk_42 (dw rcL_law_1522 9 rfl)
theorem dL_law_1536 : decode cL_law 1536 = .ok (.iload_n 3, 1) := dk_29 (dw rcL_law_1522 10 rfl)
theorem dL_law_1537 : decode cL_law 1537 = .ok (.iconst 2, 1) := dk_5 (dw rcL_law_1522 11 rfl)
theorem dL_law_1538 : decode cL_law 1538 = .ok (.iadd, 1) := dk_96 (dw rcL_law_1522 12 rfl)
theorem dL_law_1539 : decode cL_law 1539 = .ok (.iaload, 1) := dk_46 (dw rcL_law_1522 13 rfl)
theorem dL_law_1540 : decode cL_law 1540 = .ok (.aload_n 0, 1) := dk_42 (dw rcL_law_1522 14 rfl)
theorem dL_law_1541 : decode cL_law 1541 = .ok (.iload_n 3, 1) := dk_29 (dw rcL_law_1522 15 rfl)
theorem dL_law_1542 : decode cL_law 1542 = .ok (.iconst 3, 1) := dk_6 (dw rcL_law_1522 16 rfl)
theorem dL_law_1543 : decode cL_law 1543 = .ok (.iadd, 1) := dk_96 (dw rcL_law_1522 17 rfl)
theorem dL_law_1544 : decode cL_law 1544 = .ok (.iaload, 1) := dk_46 (dw rcL_law_1522 18 rfl)
theorem dL_law_1545 : decode cL_law 1545 = .ok (.invokevirtual 163, 3) := dk_182 (dw rcL_law_1522 19 rfl) rfl
theorem dL_law_1548 : decode cL_law 1548 = .ok (.pop2, 1) := dk_88 (dw rcL_law_1522 20 rfl)
theorem dL_law_1549 : decode cL_law 1549 = .ok (.aload_n 2, 1) := dk_44 (dw rcL_law_1522 21 rfl)
theorem dL_law_1550 : decode cL_law 1550 = .ok (.aload_n 0, 1) := dk_42 (dw rcL_law_1522 22 rfl)
theorem dL_law_1551 : decode cL_law 1551 = .ok (.iload_n 3, 1) := dk_29 (dw rcL_law_1522 23 rfl)
def rbL_law_1552 : List (Nat × List Nat) := [(1552, [4]), (1553, [96]), (1554, [46]), (1555, [42]), (1556, [29]), (1557, [5]), (1558, [96]), (1559, [46]), (1560, [42]), (1561, [29]), (1562, [6]), (1563, [96]), (1564, [46]), (1565, [182, 0, 167]), (1568, [88]), (1569, [167, 0, 72]), (1572, [43]), (1573, [42]), (1574, [29]), (1575, [4]), (1576, [96]), (1577, [46]), (1578, [182, 0, 168]), (1581, [87])]
theorem rcL_law_1552 : dgo (lb cL_law) 0 rbL_law_1552 = true := by decide +kernel
theorem dL_law_1552 : decode cL_law 1552 = .ok (.iconst 1, 1) := dk_4 (dw rcL_law_1552 0 rfl)
theorem dL_law_1553 : decode cL_law 1553 = .ok (.iadd, 1) := dk_96 (dw rcL_law_1552 1 rfl)
theorem dL_law_1554 : decode cL_law 1554 = .ok (.iaload, 1) := dk_46 (dw rcL_law_1552 2 rfl)
theorem dL_law_1555 : decode cL_law 1555 = .ok (.aload_n 0, 1) := dk_42 (dw rcL_law_1552 3 rfl)
theorem dL_law_1556 : decode cL_law 1556 = .ok (.iload_n 3, 1) := dk_29 (dw rcL_law_1552 4 rfl)
theorem dL_law_1557 : decode cL_law 1557 = .ok (.iconst 2, 1) := dk_5 (dw rcL_law_1552 5 rfl)
theorem dL_law_1558 : decode cL_law 1558 = .ok (.iadd, 1) := dk_96 (dw rcL_law_1552 6 rfl)
theorem dL_law_1559 : decode cL_law 1559 = .ok (.iaload, 1) := dk_46 (dw rcL_law_1552 7 rfl)
theorem dL_law_1560 : decode cL_law 1560 = .ok (.aload_n 0, 1) := dk_42 (dw rcL_law_1552 8 rfl)
theorem dL_law_1561 : decode cL_law 1561 = .ok (.iload_n 3, 1) := dk_29 (dw rcL_law_1552 9 rfl)
theorem dL_law_1562 : decode cL_law 1562 = .ok (.iconst 3, 1) := dk_6 (dw rcL_law_1552 10 rfl)
theorem dL_law_1563 : decode cL_law 1563 = .ok (.iadd, 1) := dk_96 (dw rcL_law_1552 11 rfl)
theorem dL_law_1564 : decode cL_law 1564 = .ok (.iaload, 1) := dk_46 (dw rcL_law_1552 12 rfl)
theorem dL_law_1565 : decode cL_law 1565 = .ok (.invokevirtual 167, 3) := dk_182 (dw rcL_law_1552 13 rfl) rfl
theorem dL_law_1568 : decode cL_law 1568 = .ok (.pop2, 1) := dk_88 (dw rcL_law_1552 14 rfl)
theorem dL_law_1569 : decode cL_law 1569 = .ok (.goto 72, 3) := dk_167 (dw rcL_law_1552 15 rfl) rfl
theorem dL_law_1572 : decode cL_law 1572 = .ok (.aload_n 1, 1) := dk_43 (dw rcL_law_1552 16 rfl)
theorem dL_law_1573 : decode cL_law 1573 = .ok (.aload_n 0, 1) := dk_42 (dw rcL_law_1552 17 rfl)
theorem dL_law_1574 : decode cL_law 1574 = .ok (.iload_n 3, 1) := dk_29 (dw rcL_law_1552 18 rfl)
theorem dL_law_1575 : decode cL_law 1575 = .ok (.iconst 1, 1) := dk_4 (dw rcL_law_1552 19 rfl)
theorem dL_law_1576 : decode cL_law 1576 = .ok (.iadd, 1) := dk_96 (dw rcL_law_1552 20 rfl)
theorem dL_law_1577 : decode cL_law 1577 = .ok (.iaload, 1) := dk_46 (dw rcL_law_1552 21 rfl)
theorem dL_law_1578 : decode cL_law 1578 = .ok (.invokevirtual 168, 3) := dk_182 (dw rcL_law_1552 22 rfl) rfl
theorem dL_law_1581 : decode cL_law 1581 = .ok (.pop, 1) := dk_87 (dw rcL_law_1552 23 rfl)
def rbL_law_1582 : List (Nat × List Nat) := [(1582, [44]), (1583, [42]), (1584, [29]), (1585, [4]), (1586, [96]), (1587, [46]), (1588, [182, 0, 171]), (1591, [87]), (1592, [167, 0, 49]), (1595, [43]), (1596, [42]), (1597, [29]), (1598, [4]), (1599, [96]), (1600, [46]), (1601, [182, 0, 172]), (1604, [87]), (1605, [44]), (1606, [42]), (1607, [29]), (1608, [4]), (1609, [96]), (1610, [46]), (1611, [182, 0, 175])]
theorem rcL_law_1582 : dgo (lb cL_law) 0 rbL_law_1582 = true := by decide +kernel
theorem dL_law_1582 : decode cL_law 1582 = .ok (.aload_n 2, 1) := dk_44 (dw rcL_law_1582 0 rfl)
theorem dL_law_1583 : decode cL_law 1583 = .ok (.aload_n 0, 1) := dk_42 (dw rcL_law_1582 1 rfl)
theorem dL_law_1584 : decode cL_law 1584 = .ok (.iload_n 3, 1) := dk_29 (dw rcL_law_1582 2 rfl)
theorem dL_law_1585 : decode cL_law 1585 = .ok (.iconst 1, 1) := dk_4 (dw rcL_law_1582 3 rfl)
theorem dL_law_1586 : decode cL_law 1586 = .ok (.iadd, 1) := dk_96 (dw rcL_law_1582 4 rfl)
theorem dL_law_1587 : decode cL_law 1587 = .ok (.iaload, 1) := dk_46 (dw rcL_law_1582 5 rfl)
theorem dL_law_1588 : decode cL_law 1588 = .ok (.invokevirtual 171, 3) := dk_182 (dw rcL_law_1582 6 rfl) rfl
theorem dL_law_1591 : decode cL_law 1591 = .ok (.pop, 1) := dk_87 (dw rcL_law_1582 7 rfl)
theorem dL_law_1592 : decode cL_law 1592 = .ok (.goto 49, 3) := dk_167 (dw rcL_law_1582 8 rfl) rfl
theorem dL_law_1595 : decode cL_law 1595 = .ok (.aload_n 1, 1) := dk_43 (dw rcL_law_1582 9 rfl)
theorem dL_law_1596 : decode cL_law 1596 = .ok (.aload_n 0, 1) := dk_42 (dw rcL_law_1582 10 rfl)
theorem dL_law_1597 : decode cL_law 1597 = .ok (.iload_n 3, 1) := dk_29 (dw rcL_law_1582 11 rfl)
theorem dL_law_1598 : decode cL_law 1598 = .ok (.iconst 1, 1) := dk_4 (dw rcL_law_1582 12 rfl)
theorem dL_law_1599 : decode cL_law 1599 = .ok (.iadd, 1) := dk_96 (dw rcL_law_1582 13 rfl)
theorem dL_law_1600 : decode cL_law 1600 = .ok (.iaload, 1) := dk_46 (dw rcL_law_1582 14 rfl)
theorem dL_law_1601 : decode cL_law 1601 = .ok (.invokevirtual 172, 3) := dk_182 (dw rcL_law_1582 15 rfl) rfl
theorem dL_law_1604 : decode cL_law 1604 = .ok (.pop, 1) := dk_87 (dw rcL_law_1582 16 rfl)
theorem dL_law_1605 : decode cL_law 1605 = .ok (.aload_n 2, 1) := dk_44 (dw rcL_law_1582 17 rfl)
theorem dL_law_1606 : decode cL_law 1606 = .ok (.aload_n 0, 1) := dk_42 (dw rcL_law_1582 18 rfl)
theorem dL_law_1607 : decode cL_law 1607 = .ok (.iload_n 3, 1) := dk_29 (dw rcL_law_1582 19 rfl)
theorem dL_law_1608 : decode cL_law 1608 = .ok (.iconst 1, 1) := dk_4 (dw rcL_law_1582 20 rfl)
theorem dL_law_1609 : decode cL_law 1609 = .ok (.iadd, 1) := dk_96 (dw rcL_law_1582 21 rfl)
theorem dL_law_1610 : decode cL_law 1610 = .ok (.iaload, 1) := dk_46 (dw rcL_law_1582 22 rfl)
theorem dL_law_1611 : decode cL_law 1611 = .ok (.invokevirtual 175, 3) := dk_182 (dw rcL_law_1582 23 rfl) rfl
def rbL_law_1614 : List (Nat × List Nat) := [(1614, [87]), (1615, [167, 0, 26]), (1618, [43]), (1619, [42]), (1620, [29]), (1621, [4]), (1622, [96]), (1623, [46]), (1624, [182, 0, 176]), (1627, [87]), (1628, [44]), (1629, [42]), (1630, [29]), (1631, [4]), (1632, [96]), (1633, [46]), (1634, [182, 0, 179]), (1637, [87]), (1638, [167, 0, 3])]
theorem rcL_law_1614 : dgo (lb cL_law) 0 rbL_law_1614 = true := by decide +kernel
theorem dL_law_1614 : decode cL_law 1614 = .ok (.pop, 1) := dk_87 (dw rcL_law_1614 0 rfl)
theorem dL_law_1615 : decode cL_law 1615 = .ok (.goto 26, 3) := dk_167 (dw rcL_law_1614 1 rfl) rfl
theorem dL_law_1618 : decode cL_law 1618 = .ok (.aload_n 1, 1) := dk_43 (dw rcL_law_1614 2 rfl)
theorem dL_law_1619 : decode cL_law 1619 = .ok (.aload_n 0, 1) := dk_42 (dw rcL_law_1614 3 rfl)
theorem dL_law_1620 : decode cL_law 1620 = .ok (.iload_n 3, 1) := dk_29 (dw rcL_law_1614 4 rfl)
theorem dL_law_1621 : decode cL_law 1621 = .ok (.iconst 1, 1) := dk_4 (dw rcL_law_1614 5 rfl)
theorem dL_law_1622 : decode cL_law 1622 = .ok (.iadd, 1) := dk_96 (dw rcL_law_1614 6 rfl)
theorem dL_law_1623 : decode cL_law 1623 = .ok (.iaload, 1) := dk_46 (dw rcL_law_1614 7 rfl)
theorem dL_law_1624 : decode cL_law 1624 = .ok (.invokevirtual 176, 3) := dk_182 (dw rcL_law_1614 8 rfl) rfl
theorem dL_law_1627 : decode cL_law 1627 = .ok (.pop, 1) := dk_87 (dw rcL_law_1614 9 rfl)
theorem dL_law_1628 : decode cL_law 1628 = .ok (.aload_n 2, 1) := dk_44 (dw rcL_law_1614 10 rfl)
theorem dL_law_1629 : decode cL_law 1629 = .ok (.aload_n 0, 1) := dk_42 (dw rcL_law_1614 11 rfl)
theorem dL_law_1630 : decode cL_law 1630 = .ok (.iload_n 3, 1) := dk_29 (dw rcL_law_1614 12 rfl)
theorem dL_law_1631 : decode cL_law 1631 = .ok (.iconst 1, 1) := dk_4 (dw rcL_law_1614 13 rfl)
theorem dL_law_1632 : decode cL_law 1632 = .ok (.iadd, 1) := dk_96 (dw rcL_law_1614 14 rfl)
theorem dL_law_1633 : decode cL_law 1633 = .ok (.iaload, 1) := dk_46 (dw rcL_law_1614 15 rfl)
theorem dL_law_1634 : decode cL_law 1634 = .ok (.invokevirtual 179, 3) := dk_182 (dw rcL_law_1614 16 rfl) rfl
theorem dL_law_1637 : decode cL_law 1637 = .ok (.pop, 1) := dk_87 (dw rcL_law_1614 17 rfl)
theorem dL_law_1638 : decode cL_law 1638 = .ok (.goto 3, 3) := dk_167 (dw rcL_law_1614 18 rfl) rfl
set_option maxHeartbeats 4000000 in
set_option maxRecDepth 100000 in
theorem law_32 {p : Program} {l : Launch} {e : Env} {s : State} {m : MethodId} {below : List Frame} {meth : Method} {c : Code} {D : va_G} {k : KT} {A : Nat → Prop} {a : Nat → Nat} {z : SK} {b L : Nat} {xs : Nat → Int32} (hL : L ≤ 3072) (C0 : lw_At p s m meth c b L xs) (hK : cK D k s) (hZ : Sx A z s) (hbA : ¬ A b) {G : GS} {i0 : Int32} (hi0 : 0 ≤ i0.toInt) (hi6 : i0.toInt + 6 ≤ L) (hI : LI G) (hB_G : Bd G) {H : Heap} {locs : List Loc} {ls : Array Slot} (hW : Wd D k A a G H) (hS : va_S A s.heap H locs) (hl : lv_has ls 4 [(0, .ref b), (1, .ref (a 0)), (2, .ref (a 66)), (3, .int i0)]) (K : ∀ (G1 : GS) (H1 : Heap) (locs1 : List Loc) (ls1 : Array Slot), LI G1 → Bd G1 → Wd D k A a G1 H1 → va_S A s.heap H1 locs1 → lv_has ls1 4 [(0, .ref b), (1, .ref (a 0)), (2, .ref (a 66)), (3, .int i0)] → W p l e room_1 s m #[Value.ref b] below meth c H1 locs1 119 46443 (lw_Z below #[Value.ref b] s) (F0 m 1641 ls1 [])) : W p l e room_1 s m #[Value.ref b] below meth c H locs 119 46443 (lw_Z below #[Value.ref b] s) (F0 m 1460 ls []) := by
  obtain ⟨hx, hb, hr, hml, hown, hts, hX, hbl, hlocks, hgv⟩ := id C0
  have hown : s.vm.findClass RL = some m.cls := hown
  have hgd : ∀ w ∈ gd, w ∈ lw_tbl := fun w h => (List.mem_filter.mp h).1
  have hg : ∀ w ∈ gd, w.before #[Value.ref b] s = true := fun w h => hts w (hgd w h)
  rcases hI with ⟨hv_0_0, hv_0_1, hv_6_4, hj0, hj1, hj2, hj3, hj4, hj5, hj6, hj7, hj8, hj9, hj10, hj11, hj12⟩ | ⟨hv_0_0, hv_0_1, hv_6_4, hj0, hj1, hj2, hj3, hj4, hj5, hj6, hj7, hj8, hj9, hj10, hj11, hj12⟩
  · skip
    obtain ⟨p0, hp0⟩ : ∃ y, y = xs (i0 + 1).toNatClampNeg := ⟨_, rfl⟩
    obtain ⟨p1, hp1⟩ : ∃ y, y = xs (i0 + 2).toNatClampNeg := ⟨_, rfl⟩
    obtain ⟨p2, hp2⟩ : ∃ y, y = xs (i0 + 3).toNatClampNeg := ⟨_, rfl⟩
    obtain ⟨p3, hp3⟩ : ∃ y, y = xs (i0 + 4).toNatClampNeg := ⟨_, rfl⟩
    obtain ⟨p4, hp4⟩ : ∃ y, y = xs (i0 + 5).toNatClampNeg := ⟨_, rfl⟩
    refine lv_aload_n hx hb dL_law_1460 rfl (lv_at hl 1 rfl) ?_
    refine ld_1 hL hi0 hi6 hx hb hX hbl hbA hS hl dL_law_1461 dL_law_1462 dL_law_1463 dL_law_1464 dL_law_1465 hp0 ?_
    refine S_calli (va_runV (As := [.int p0]) (rest := []) ⟨hx, hb, hml, hown, hts⟩ (k_Wuntell l D k A a z G p0 ) (cwV 1 hts (gd_V hgd m1250 m1251 m1252 m117 m1253) rfl rfl rfl hd_X11_untell ⟨Nat.le_of_ble_eq_true rfl, Nat.le_of_ble_eq_true rfl⟩) (pre_W hW hB_G hK hZ hS kd_0 rfl) rfl rfl hl.1 rfl (lv_room (Nat.le_of_ble_eq_true rfl)) dL_law_1466 ⟨Nat.le_of_ble_eq_true rfl, Nat.le_of_ble_eq_true rfl⟩) hS (fun r_1 G_2 H locs hpo hW hS => ?_)
    have hX_5 : P_Wuntell p0 G r_1 G_2 := hpo
    obtain ⟨hB_G_2, hq_3, f_6, -⟩ := hpo
    refine lv_pop hx hb dL_law_1469 rfl ?_
    refine lv_aload_n hx hb dL_law_1470 rfl (lv_at hl 2 rfl) ?_
    refine ld_1 hL hi0 hi6 hx hb hX hbl hbA hS hl dL_law_1471 dL_law_1472 dL_law_1473 dL_law_1474 dL_law_1475 hp0 ?_
    refine S_calli (va_runV (As := [.int p0]) (rest := []) ⟨hx, hb, hml, hown, hts⟩ (n_untell l D k A a z G_2 p0 ) (cwV 1 hts (gd_V hgd m2043 m2044 m2045 m131 m2046) rfl rfl rfl hd_X12_untell ⟨Nat.le_of_ble_eq_true rfl, Nat.le_of_ble_eq_true rfl⟩) (pre_W hW hB_G_2 hK hZ hS kd_66 rfl) rfl rfl hl.1 rfl (lv_room (Nat.le_of_ble_eq_true rfl)) dL_law_1476 ⟨Nat.le_of_ble_eq_true rfl, Nat.le_of_ble_eq_true rfl⟩) hS (fun r_7 G_8 H locs hpo hW hS => ?_)
    have hX_11 : Q_untell p0 G_2 r_7 G_8 := hpo
    obtain ⟨hB_G_8, hq_9, f_12, -⟩ := hpo
    obtain ⟨u_13, u_14⟩ := L_untell_1 hX_5 hX_11 rfl (by omega) hB_G (by omega)
    refine lv_pop hx hb dL_law_1479 rfl ?_
    refine lv_goto (tgt := 1641) hx hb dL_law_1480 rfl ?_
    exact K G_8 _ _ _ (Or.inl (LI_of_1 (LIn_fr_1 (LIn_fr_1 (show LIn_1 G from ⟨hv_0_0, hv_0_1, hv_6_4, hj0, hj1, hj2, hj3, hj4, hj5, hj6, hj7, hj8, hj9, hj10, hj11⟩) hq_3 (by decide +kernel)) hq_9 (by decide +kernel)) (by omega))) hB_G_8 hW hS (lv_sub hl [0, 1, 2, 3] rfl)
  · skip
    obtain ⟨p0, hp0⟩ : ∃ y, y = xs (i0 + 1).toNatClampNeg := ⟨_, rfl⟩
    obtain ⟨p1, hp1⟩ : ∃ y, y = xs (i0 + 2).toNatClampNeg := ⟨_, rfl⟩
    obtain ⟨p2, hp2⟩ : ∃ y, y = xs (i0 + 3).toNatClampNeg := ⟨_, rfl⟩
    obtain ⟨p3, hp3⟩ : ∃ y, y = xs (i0 + 4).toNatClampNeg := ⟨_, rfl⟩
    obtain ⟨p4, hp4⟩ : ∃ y, y = xs (i0 + 5).toNatClampNeg := ⟨_, rfl⟩
    refine lv_aload_n hx hb dL_law_1460 rfl (lv_at hl 1 rfl) ?_
    refine ld_1 hL hi0 hi6 hx hb hX hbl hbA hS hl dL_law_1461 dL_law_1462 dL_law_1463 dL_law_1464 dL_law_1465 hp0 ?_
    refine S_calli (va_runV (As := [.int p0]) (rest := []) ⟨hx, hb, hml, hown, hts⟩ (k_Wuntell l D k A a z G p0 ) (cwV 1 hts (gd_V hgd m1250 m1251 m1252 m117 m1253) rfl rfl rfl hd_X11_untell ⟨Nat.le_of_ble_eq_true rfl, Nat.le_of_ble_eq_true rfl⟩) (pre_W hW hB_G hK hZ hS kd_0 rfl) rfl rfl hl.1 rfl (lv_room (Nat.le_of_ble_eq_true rfl)) dL_law_1466 ⟨Nat.le_of_ble_eq_true rfl, Nat.le_of_ble_eq_true rfl⟩) hS (fun r_1 G_2 H locs hpo hW hS => ?_)
    have hX_5 : P_Wuntell p0 G r_1 G_2 := hpo
    obtain ⟨hB_G_2, hq_3, f_6, -⟩ := hpo
    refine lv_pop hx hb dL_law_1469 rfl ?_
    refine lv_aload_n hx hb dL_law_1470 rfl (lv_at hl 2 rfl) ?_
    refine ld_1 hL hi0 hi6 hx hb hX hbl hbA hS hl dL_law_1471 dL_law_1472 dL_law_1473 dL_law_1474 dL_law_1475 hp0 ?_
    refine S_calli (va_runV (As := [.int p0]) (rest := []) ⟨hx, hb, hml, hown, hts⟩ (n_untell l D k A a z G_2 p0 ) (cwV 1 hts (gd_V hgd m2043 m2044 m2045 m131 m2046) rfl rfl rfl hd_X12_untell ⟨Nat.le_of_ble_eq_true rfl, Nat.le_of_ble_eq_true rfl⟩) (pre_W hW hB_G_2 hK hZ hS kd_66 rfl) rfl rfl hl.1 rfl (lv_room (Nat.le_of_ble_eq_true rfl)) dL_law_1476 ⟨Nat.le_of_ble_eq_true rfl, Nat.le_of_ble_eq_true rfl⟩) hS (fun r_7 G_8 H locs hpo hW hS => ?_)
    have hX_11 : Q_untell p0 G_2 r_7 G_8 := hpo
    obtain ⟨hB_G_8, hq_9, f_12, -⟩ := hpo
    obtain ⟨u_13, u_14⟩ := L_untell_2 hX_5 hX_11 rfl (by omega) hB_G (by omega)
    refine lv_pop hx hb dL_law_1479 rfl ?_
    refine lv_goto (tgt := 1641) hx hb dL_law_1480 rfl ?_
    exact K G_8 _ _ _ (Or.inr (LI_of_2 (LIn_fr_2 (LIn_fr_2 (show LIn_2 G from ⟨hv_0_0, hv_0_1, hv_6_4, hj0, hj1, hj2, hj3, hj4, hj5, hj6, hj7, hj8, hj9, hj10, hj11⟩) hq_3 (by decide +kernel)) hq_9 (by decide +kernel)) (by omega))) hB_G_8 hW hS (lv_sub hl [0, 1, 2, 3] rfl)

set_option maxHeartbeats 4000000 in
set_option maxRecDepth 100000 in
theorem law_33 {p : Program} {l : Launch} {e : Env} {s : State} {m : MethodId} {below : List Frame} {meth : Method} {c : Code} {D : va_G} {k : KT} {A : Nat → Prop} {a : Nat → Nat} {z : SK} {b L : Nat} {xs : Nat → Int32} (hL : L ≤ 3072) (C0 : lw_At p s m meth c b L xs) (hK : cK D k s) (hZ : Sx A z s) (hbA : ¬ A b) {G : GS} {i0 : Int32} (hi0 : 0 ≤ i0.toInt) (hi6 : i0.toInt + 6 ≤ L) (hI : LI G) (hB_G : Bd G) {H : Heap} {locs : List Loc} {ls : Array Slot} (hW : Wd D k A a G H) (hS : va_S A s.heap H locs) (hl : lv_has ls 4 [(0, .ref b), (1, .ref (a 0)), (2, .ref (a 66)), (3, .int i0)]) (K : ∀ (G1 : GS) (H1 : Heap) (locs1 : List Loc) (ls1 : Array Slot), LI G1 → Bd G1 → Wd D k A a G1 H1 → va_S A s.heap H1 locs1 → lv_has ls1 4 [(0, .ref b), (1, .ref (a 0)), (2, .ref (a 66)), (3, .int i0)] → W p l e room_1 s m #[Value.ref b] below meth c H1 locs1 119 46443 (lw_Z below #[Value.ref b] s) (F0 m 1641 ls1 [])) : W p l e room_1 s m #[Value.ref b] below meth c H locs 119 46443 (lw_Z below #[Value.ref b] s) (F0 m 1483 ls []) := by
  obtain ⟨hx, hb, hr, hml, hown, hts, hX, hbl, hlocks, hgv⟩ := id C0
  have hown : s.vm.findClass RL = some m.cls := hown
  have hgd : ∀ w ∈ gd, w ∈ lw_tbl := fun w h => (List.mem_filter.mp h).1
  have hg : ∀ w ∈ gd, w.before #[Value.ref b] s = true := fun w h => hts w (hgd w h)
  rcases hI with ⟨hv_0_0, hv_0_1, hv_6_4, hj0, hj1, hj2, hj3, hj4, hj5, hj6, hj7, hj8, hj9, hj10, hj11, hj12⟩ | ⟨hv_0_0, hv_0_1, hv_6_4, hj0, hj1, hj2, hj3, hj4, hj5, hj6, hj7, hj8, hj9, hj10, hj11, hj12⟩
  · skip
    obtain ⟨p0, hp0⟩ : ∃ y, y = xs (i0 + 1).toNatClampNeg := ⟨_, rfl⟩
    obtain ⟨p1, hp1⟩ : ∃ y, y = xs (i0 + 2).toNatClampNeg := ⟨_, rfl⟩
    obtain ⟨p2, hp2⟩ : ∃ y, y = xs (i0 + 3).toNatClampNeg := ⟨_, rfl⟩
    obtain ⟨p3, hp3⟩ : ∃ y, y = xs (i0 + 4).toNatClampNeg := ⟨_, rfl⟩
    obtain ⟨p4, hp4⟩ : ∃ y, y = xs (i0 + 5).toNatClampNeg := ⟨_, rfl⟩
    refine lv_aload_n hx hb dL_law_1483 rfl (lv_at hl 1 rfl) ?_
    refine ld_1 hL hi0 hi6 hx hb hX hbl hbA hS hl dL_law_1484 dL_law_1485 dL_law_1486 dL_law_1487 dL_law_1488 hp0 ?_
    refine S_calli (va_runV (As := [.int p0]) (rest := []) ⟨hx, hb, hml, hown, hts⟩ (k_Wlater l D k A a z G p0 ) (cwV 1 hts (gd_V hgd m1258 m1259 m1260 m117 m1261) rfl rfl rfl hd_X11_later ⟨Nat.le_of_ble_eq_true rfl, Nat.le_of_ble_eq_true rfl⟩) (pre_W hW hB_G hK hZ hS kd_0 rfl) rfl rfl hl.1 rfl (lv_room (Nat.le_of_ble_eq_true rfl)) dL_law_1489 ⟨Nat.le_of_ble_eq_true rfl, Nat.le_of_ble_eq_true rfl⟩) hS (fun r_1 G_2 H locs hpo hW hS => ?_)
    have hX_5 : P_Wlater p0 G r_1 G_2 := hpo
    obtain ⟨hB_G_2, hq_3, hp_4, -⟩ := hpo
    refine lv_pop hx hb dL_law_1492 rfl ?_
    refine lv_aload_n hx hb dL_law_1493 rfl (lv_at hl 2 rfl) ?_
    refine ld_1 hL hi0 hi6 hx hb hX hbl hbA hS hl dL_law_1494 dL_law_1495 dL_law_1496 dL_law_1497 dL_law_1498 hp0 ?_
    have b_6 : 0 ≤ (G.1 66 86).toInt ∧ (G.1 66 86).toInt ≤ 100000 := bd_66_86 hB_G
    have g_7 : (G_2.1 66 86).toInt = (G.1 66 86).toInt := (congrArg Int32.toInt (show G_2.1 66 86 = (G.1 66 86) from (hq_3.i9 66 86 rfl rfl)))
    refine S_calli (va_runV (As := [.int p0]) (rest := []) ⟨hx, hb, hml, hown, hts⟩ (n_later l D k A a z G_2 p0 ) (cwV 1 hts (gd_V hgd m2047 m2048 m2049 m131 m2050) rfl rfl rfl hd_X12_later ⟨Nat.le_of_ble_eq_true rfl, Nat.le_of_ble_eq_true rfl⟩) (pre_W hW hB_G_2 hK hZ hS kd_66 rfl) rfl rfl hl.1 rfl (lv_room (Nat.le_of_ble_eq_true rfl)) dL_law_1499 ⟨Nat.le_of_ble_eq_true rfl, Nat.le_of_ble_eq_true rfl⟩) hS (fun r_8 G_9 H locs hpo hW hS => ?_)
    have hX_12 : Q_later p0 G_2 r_8 G_9 := hpo
    obtain ⟨hB_G_9, hq_10, hp_11, -⟩ := hpo
    refine lv_pop hx hb dL_law_1502 rfl ?_
    refine lv_goto (tgt := 1641) hx hb dL_law_1503 rfl ?_
    have fr_13 : Fr [] [(31, 6), (66, 86)] G G_9 := (Fr.call9 (rs := []) (fs := [(31, 6), (66, 86)]) (Fr.call9 (rs := []) (fs := [(31, 6), (66, 86)]) Fr.rf hq_3 rfl rfl) hq_10 rfl rfl)
    have g_14 : gIA G_9 = gIA G := gIA_fr fr_13 (gr_q rfl) (gf_q rfl)
    have g_15 : gO G_9 = gO G := gO_fr fr_13 (gr_q rfl) (gf_q rfl)
    have g_16 : gP G_9 = gP G := gP_fr fr_13 (gr_q rfl) (gf_q rfl)
    have g_17 : gS G_9 = gS G := gS_fr fr_13 (gr_q rfl) (gf_q rfl)
    have g_18 : gTE G_9 = gTE G := gTE_fr fr_13 (gr_q rfl) (gf_q rfl)
    have g_19 : gW G_9 = gW G := gW_fr fr_13 (gr_q rfl) (gf_q rfl)
    have b_20 : 0 ≤ (G.1 0 11).toInt ∧ (G.1 0 11).toInt ≤ 1600 := bd_0_11 hB_G
    have g_21 : (G_9.1 0 11).toInt = (G.1 0 11).toInt := (congrArg Int32.toInt (show G_9.1 0 11 = (G.1 0 11) from ((hq_10.i9 0 11 rfl rfl).trans (hq_3.i9 0 11 rfl rfl))))
    have b_22 : 0 ≤ (G.1 3 7).toInt ∧ (G.1 3 7).toInt ≤ 4 := bd_3_7 hB_G
    have g_23 : (G_9.1 3 7).toInt = (G.1 3 7).toInt := (congrArg Int32.toInt (show G_9.1 3 7 = (G.1 3 7) from ((hq_10.i9 3 7 rfl rfl).trans (hq_3.i9 3 7 rfl rfl))))
    have b_24 : (-1) ≤ (G.1 3 8).toInt ∧ (G.1 3 8).toInt ≤ 1600 := bd_3_8 hB_G
    have g_25 : (G_9.1 3 8).toInt = (G.1 3 8).toInt := (congrArg Int32.toInt (show G_9.1 3 8 = (G.1 3 8) from ((hq_10.i9 3 8 rfl rfl).trans (hq_3.i9 3 8 rfl rfl))))
    have b_26 : 0 ≤ (G.1 30 4).toInt ∧ (G.1 30 4).toInt ≤ 40 := bd_30_4 hB_G
    have g_27 : (G_9.1 30 4).toInt = (G.1 30 4).toInt := (congrArg Int32.toInt (show G_9.1 30 4 = (G.1 30 4) from ((hq_10.i9 30 4 rfl rfl).trans (hq_3.i9 30 4 rfl rfl))))
    have b_28 : 0 ≤ (G.1 30 5).toInt ∧ (G.1 30 5).toInt ≤ 40 := bd_30_5 hB_G
    have g_29 : (G_9.1 30 5).toInt = (G.1 30 5).toInt := (congrArg Int32.toInt (show G_9.1 30 5 = (G.1 30 5) from ((hq_10.i9 30 5 rfl rfl).trans (hq_3.i9 30 5 rfl rfl))))
    have b_30 : 0 ≤ (G_2.1 31 6).toInt ∧ (G_2.1 31 6).toInt ≤ 100000 := bd_31_6 hB_G_2
    have g_31 : (G_9.1 31 6).toInt = (G_2.1 31 6).toInt := (congrArg Int32.toInt (show G_9.1 31 6 = (G_2.1 31 6) from (hq_10.i9 31 6 rfl rfl)))
    have b_32 : 0 ≤ (G.1 66 1).toInt ∧ (G.1 66 1).toInt ≤ 1600 := bd_66_1 hB_G
    have g_33 : (G_9.1 66 1).toInt = (G.1 66 1).toInt := (congrArg Int32.toInt (show G_9.1 66 1 = (G.1 66 1) from ((hq_10.i9 66 1 rfl rfl).trans (hq_3.i9 66 1 rfl rfl))))
    have b_34 : 0 ≤ (G.1 66 2).toInt ∧ (G.1 66 2).toInt ≤ 4 := bd_66_2 hB_G
    have g_35 : (G_9.1 66 2).toInt = (G.1 66 2).toInt := (congrArg Int32.toInt (show G_9.1 66 2 = (G.1 66 2) from ((hq_10.i9 66 2 rfl rfl).trans (hq_3.i9 66 2 rfl rfl))))
    have b_36 : (-1) ≤ (G.1 66 3).toInt ∧ (G.1 66 3).toInt ≤ 1600 := bd_66_3 hB_G
    have g_37 : (G_9.1 66 3).toInt = (G.1 66 3).toInt := (congrArg Int32.toInt (show G_9.1 66 3 = (G.1 66 3) from ((hq_10.i9 66 3 rfl rfl).trans (hq_3.i9 66 3 rfl rfl))))
    have b_38 : 0 ≤ (G.1 66 78).toInt ∧ (G.1 66 78).toInt ≤ 40 := bd_66_78 hB_G
    have g_39 : (G_9.1 66 78).toInt = (G.1 66 78).toInt := (congrArg Int32.toInt (show G_9.1 66 78 = (G.1 66 78) from ((hq_10.i9 66 78 rfl rfl).trans (hq_3.i9 66 78 rfl rfl))))
    have b_40 : 0 ≤ (G.1 66 79).toInt ∧ (G.1 66 79).toInt ≤ 40 := bd_66_79 hB_G
    have g_41 : (G_9.1 66 79).toInt = (G.1 66 79).toInt := (congrArg Int32.toInt (show G_9.1 66 79 = (G.1 66 79) from ((hq_10.i9 66 79 rfl rfl).trans (hq_3.i9 66 79 rfl rfl))))
    have b_42 : 0 ≤ (G_9.1 66 86).toInt ∧ (G_9.1 66 86).toInt ≤ 100000 := bd_66_86 hB_G_9
    have b_43 : 0 ≤ (G.1 96 0).toInt ∧ (G.1 96 0).toInt ≤ 9 := bd_96_0 hB_G
    have g_44 : (G_9.1 96 0).toInt = (G.1 96 0).toInt := (congrArg Int32.toInt (show G_9.1 96 0 = (G.1 96 0) from ((hq_10.i9 96 0 rfl rfl).trans (hq_3.i9 96 0 rfl rfl))))
    have b_45 : 0 ≤ (G.1 96 1).toInt ∧ (G.1 96 1).toInt ≤ 9 := bd_96_1 hB_G
    have g_46 : (G_9.1 96 1).toInt = (G.1 96 1).toInt := (congrArg Int32.toInt (show G_9.1 96 1 = (G.1 96 1) from ((hq_10.i9 96 1 rfl rfl).trans (hq_3.i9 96 1 rfl rfl))))
    have b_47 : 0 ≤ (G.1 96 2).toInt ∧ (G.1 96 2).toInt ≤ 9 := bd_96_2 hB_G
    have g_48 : (G_9.1 96 2).toInt = (G.1 96 2).toInt := (congrArg Int32.toInt (show G_9.1 96 2 = (G.1 96 2) from ((hq_10.i9 96 2 rfl rfl).trans (hq_3.i9 96 2 rfl rfl))))
    exact K G_9 _ _ _ (Or.inl ⟨((((hq_10.r9 0 0 rfl rfl).trans (hq_3.r9 0 0 rfl rfl))).trans (hv_0_0)), ((((hq_10.r9 0 1 rfl rfl).trans (hq_3.r9 0 1 rfl rfl))).trans (hv_0_1)), ((((hq_10.r9 6 4 rfl rfl).trans (hq_3.r9 6 4 rfl rfl))).trans (hv_6_4)), by omega, by omega, by omega, by omega, by omega, by omega, by omega, by omega, by omega, by omega, by omega, by omega, by omega⟩) hB_G_9 hW hS (lv_sub hl [0, 1, 2, 3] rfl)
  · skip
    obtain ⟨p0, hp0⟩ : ∃ y, y = xs (i0 + 1).toNatClampNeg := ⟨_, rfl⟩
    obtain ⟨p1, hp1⟩ : ∃ y, y = xs (i0 + 2).toNatClampNeg := ⟨_, rfl⟩
    obtain ⟨p2, hp2⟩ : ∃ y, y = xs (i0 + 3).toNatClampNeg := ⟨_, rfl⟩
    obtain ⟨p3, hp3⟩ : ∃ y, y = xs (i0 + 4).toNatClampNeg := ⟨_, rfl⟩
    obtain ⟨p4, hp4⟩ : ∃ y, y = xs (i0 + 5).toNatClampNeg := ⟨_, rfl⟩
    refine lv_aload_n hx hb dL_law_1483 rfl (lv_at hl 1 rfl) ?_
    refine ld_1 hL hi0 hi6 hx hb hX hbl hbA hS hl dL_law_1484 dL_law_1485 dL_law_1486 dL_law_1487 dL_law_1488 hp0 ?_
    refine S_calli (va_runV (As := [.int p0]) (rest := []) ⟨hx, hb, hml, hown, hts⟩ (k_Wlater l D k A a z G p0 ) (cwV 1 hts (gd_V hgd m1258 m1259 m1260 m117 m1261) rfl rfl rfl hd_X11_later ⟨Nat.le_of_ble_eq_true rfl, Nat.le_of_ble_eq_true rfl⟩) (pre_W hW hB_G hK hZ hS kd_0 rfl) rfl rfl hl.1 rfl (lv_room (Nat.le_of_ble_eq_true rfl)) dL_law_1489 ⟨Nat.le_of_ble_eq_true rfl, Nat.le_of_ble_eq_true rfl⟩) hS (fun r_1 G_2 H locs hpo hW hS => ?_)
    have hX_5 : P_Wlater p0 G r_1 G_2 := hpo
    obtain ⟨hB_G_2, hq_3, hp_4, -⟩ := hpo
    refine lv_pop hx hb dL_law_1492 rfl ?_
    refine lv_aload_n hx hb dL_law_1493 rfl (lv_at hl 2 rfl) ?_
    refine ld_1 hL hi0 hi6 hx hb hX hbl hbA hS hl dL_law_1494 dL_law_1495 dL_law_1496 dL_law_1497 dL_law_1498 hp0 ?_
    have b_6 : 0 ≤ (G.1 66 86).toInt ∧ (G.1 66 86).toInt ≤ 100000 := bd_66_86 hB_G
    have g_7 : (G_2.1 66 86).toInt = (G.1 66 86).toInt := (congrArg Int32.toInt (show G_2.1 66 86 = (G.1 66 86) from (hq_3.i9 66 86 rfl rfl)))
    refine S_calli (va_runV (As := [.int p0]) (rest := []) ⟨hx, hb, hml, hown, hts⟩ (n_later l D k A a z G_2 p0 ) (cwV 1 hts (gd_V hgd m2047 m2048 m2049 m131 m2050) rfl rfl rfl hd_X12_later ⟨Nat.le_of_ble_eq_true rfl, Nat.le_of_ble_eq_true rfl⟩) (pre_W hW hB_G_2 hK hZ hS kd_66 rfl) rfl rfl hl.1 rfl (lv_room (Nat.le_of_ble_eq_true rfl)) dL_law_1499 ⟨Nat.le_of_ble_eq_true rfl, Nat.le_of_ble_eq_true rfl⟩) hS (fun r_8 G_9 H locs hpo hW hS => ?_)
    have hX_12 : Q_later p0 G_2 r_8 G_9 := hpo
    obtain ⟨hB_G_9, hq_10, hp_11, -⟩ := hpo
    refine lv_pop hx hb dL_law_1502 rfl ?_
    refine lv_goto (tgt := 1641) hx hb dL_law_1503 rfl ?_
    have fr_13 : Fr [] [(31, 6), (66, 86)] G G_9 := (Fr.call9 (rs := []) (fs := [(31, 6), (66, 86)]) (Fr.call9 (rs := []) (fs := [(31, 6), (66, 86)]) Fr.rf hq_3 rfl rfl) hq_10 rfl rfl)
    have g_14 : gIB G_9 = gIB G := gIB_fr fr_13 (gr_q rfl) (gf_q rfl)
    have g_15 : gO G_9 = gO G := gO_fr fr_13 (gr_q rfl) (gf_q rfl)
    have g_16 : gP G_9 = gP G := gP_fr fr_13 (gr_q rfl) (gf_q rfl)
    have g_17 : gS G_9 = gS G := gS_fr fr_13 (gr_q rfl) (gf_q rfl)
    have g_18 : gTE G_9 = gTE G := gTE_fr fr_13 (gr_q rfl) (gf_q rfl)
    have g_19 : gW G_9 = gW G := gW_fr fr_13 (gr_q rfl) (gf_q rfl)
    have b_20 : 0 ≤ (G.1 0 11).toInt ∧ (G.1 0 11).toInt ≤ 1600 := bd_0_11 hB_G
    have g_21 : (G_9.1 0 11).toInt = (G.1 0 11).toInt := (congrArg Int32.toInt (show G_9.1 0 11 = (G.1 0 11) from ((hq_10.i9 0 11 rfl rfl).trans (hq_3.i9 0 11 rfl rfl))))
    have b_22 : 0 ≤ (G.1 3 7).toInt ∧ (G.1 3 7).toInt ≤ 4 := bd_3_7 hB_G
    have g_23 : (G_9.1 3 7).toInt = (G.1 3 7).toInt := (congrArg Int32.toInt (show G_9.1 3 7 = (G.1 3 7) from ((hq_10.i9 3 7 rfl rfl).trans (hq_3.i9 3 7 rfl rfl))))
    have b_24 : (-1) ≤ (G.1 3 8).toInt ∧ (G.1 3 8).toInt ≤ 1600 := bd_3_8 hB_G
    have g_25 : (G_9.1 3 8).toInt = (G.1 3 8).toInt := (congrArg Int32.toInt (show G_9.1 3 8 = (G.1 3 8) from ((hq_10.i9 3 8 rfl rfl).trans (hq_3.i9 3 8 rfl rfl))))
    have b_26 : 0 ≤ (G.1 30 4).toInt ∧ (G.1 30 4).toInt ≤ 40 := bd_30_4 hB_G
    have g_27 : (G_9.1 30 4).toInt = (G.1 30 4).toInt := (congrArg Int32.toInt (show G_9.1 30 4 = (G.1 30 4) from ((hq_10.i9 30 4 rfl rfl).trans (hq_3.i9 30 4 rfl rfl))))
    have b_28 : 0 ≤ (G.1 30 5).toInt ∧ (G.1 30 5).toInt ≤ 40 := bd_30_5 hB_G
    have g_29 : (G_9.1 30 5).toInt = (G.1 30 5).toInt := (congrArg Int32.toInt (show G_9.1 30 5 = (G.1 30 5) from ((hq_10.i9 30 5 rfl rfl).trans (hq_3.i9 30 5 rfl rfl))))
    have b_30 : 0 ≤ (G_2.1 31 6).toInt ∧ (G_2.1 31 6).toInt ≤ 100000 := bd_31_6 hB_G_2
    have g_31 : (G_9.1 31 6).toInt = (G_2.1 31 6).toInt := (congrArg Int32.toInt (show G_9.1 31 6 = (G_2.1 31 6) from (hq_10.i9 31 6 rfl rfl)))
    have b_32 : 0 ≤ (G.1 66 1).toInt ∧ (G.1 66 1).toInt ≤ 1600 := bd_66_1 hB_G
    have g_33 : (G_9.1 66 1).toInt = (G.1 66 1).toInt := (congrArg Int32.toInt (show G_9.1 66 1 = (G.1 66 1) from ((hq_10.i9 66 1 rfl rfl).trans (hq_3.i9 66 1 rfl rfl))))
    have b_34 : 0 ≤ (G.1 66 2).toInt ∧ (G.1 66 2).toInt ≤ 4 := bd_66_2 hB_G
    have g_35 : (G_9.1 66 2).toInt = (G.1 66 2).toInt := (congrArg Int32.toInt (show G_9.1 66 2 = (G.1 66 2) from ((hq_10.i9 66 2 rfl rfl).trans (hq_3.i9 66 2 rfl rfl))))
    have b_36 : (-1) ≤ (G.1 66 3).toInt ∧ (G.1 66 3).toInt ≤ 1600 := bd_66_3 hB_G
    have g_37 : (G_9.1 66 3).toInt = (G.1 66 3).toInt := (congrArg Int32.toInt (show G_9.1 66 3 = (G.1 66 3) from ((hq_10.i9 66 3 rfl rfl).trans (hq_3.i9 66 3 rfl rfl))))
    have b_38 : 0 ≤ (G.1 66 78).toInt ∧ (G.1 66 78).toInt ≤ 40 := bd_66_78 hB_G
    have g_39 : (G_9.1 66 78).toInt = (G.1 66 78).toInt := (congrArg Int32.toInt (show G_9.1 66 78 = (G.1 66 78) from ((hq_10.i9 66 78 rfl rfl).trans (hq_3.i9 66 78 rfl rfl))))
    have b_40 : 0 ≤ (G.1 66 79).toInt ∧ (G.1 66 79).toInt ≤ 40 := bd_66_79 hB_G
    have g_41 : (G_9.1 66 79).toInt = (G.1 66 79).toInt := (congrArg Int32.toInt (show G_9.1 66 79 = (G.1 66 79) from ((hq_10.i9 66 79 rfl rfl).trans (hq_3.i9 66 79 rfl rfl))))
    have b_42 : 0 ≤ (G_9.1 66 86).toInt ∧ (G_9.1 66 86).toInt ≤ 100000 := bd_66_86 hB_G_9
    have b_43 : 0 ≤ (G.1 96 0).toInt ∧ (G.1 96 0).toInt ≤ 9 := bd_96_0 hB_G
    have g_44 : (G_9.1 96 0).toInt = (G.1 96 0).toInt := (congrArg Int32.toInt (show G_9.1 96 0 = (G.1 96 0) from ((hq_10.i9 96 0 rfl rfl).trans (hq_3.i9 96 0 rfl rfl))))
    have b_45 : 0 ≤ (G.1 96 1).toInt ∧ (G.1 96 1).toInt ≤ 9 := bd_96_1 hB_G
    have g_46 : (G_9.1 96 1).toInt = (G.1 96 1).toInt := (congrArg Int32.toInt (show G_9.1 96 1 = (G.1 96 1) from ((hq_10.i9 96 1 rfl rfl).trans (hq_3.i9 96 1 rfl rfl))))
    have b_47 : 0 ≤ (G.1 96 2).toInt ∧ (G.1 96 2).toInt ≤ 9 := bd_96_2 hB_G
    have g_48 : (G_9.1 96 2).toInt = (G.1 96 2).toInt := (congrArg Int32.toInt (show G_9.1 96 2 = (G.1 96 2) from ((hq_10.i9 96 2 rfl rfl).trans (hq_3.i9 96 2 rfl rfl))))
    exact K G_9 _ _ _ (Or.inr ⟨((((hq_10.r9 0 0 rfl rfl).trans (hq_3.r9 0 0 rfl rfl))).trans (hv_0_0)), ((((hq_10.r9 0 1 rfl rfl).trans (hq_3.r9 0 1 rfl rfl))).trans (hv_0_1)), ((((hq_10.r9 6 4 rfl rfl).trans (hq_3.r9 6 4 rfl rfl))).trans (hv_6_4)), by omega, by omega, by omega, by omega, by omega, by omega, by omega, by omega, by omega, by omega, by omega, by omega, by omega⟩) hB_G_9 hW hS (lv_sub hl [0, 1, 2, 3] rfl)

set_option maxHeartbeats 4000000 in
set_option maxRecDepth 100000 in
theorem law_34 {p : Program} {l : Launch} {e : Env} {s : State} {m : MethodId} {below : List Frame} {meth : Method} {c : Code} {D : va_G} {k : KT} {A : Nat → Prop} {a : Nat → Nat} {z : SK} {b L : Nat} {xs : Nat → Int32} (hL : L ≤ 3072) (C0 : lw_At p s m meth c b L xs) (hK : cK D k s) (hZ : Sx A z s) (hbA : ¬ A b) {G : GS} {i0 : Int32} (hi0 : 0 ≤ i0.toInt) (hi6 : i0.toInt + 6 ≤ L) (hI : LI G) (hB_G : Bd G) {H : Heap} {locs : List Loc} {ls : Array Slot} (hW : Wd D k A a G H) (hS : va_S A s.heap H locs) (hl : lv_has ls 4 [(0, .ref b), (1, .ref (a 0)), (2, .ref (a 66)), (3, .int i0)]) (K : ∀ (G1 : GS) (H1 : Heap) (locs1 : List Loc) (ls1 : Array Slot), LI G1 → Bd G1 → Wd D k A a G1 H1 → va_S A s.heap H1 locs1 → lv_has ls1 4 [(0, .ref b), (1, .ref (a 0)), (2, .ref (a 66)), (3, .int i0)] → W p l e room_1 s m #[Value.ref b] below meth c H1 locs1 119 46443 (lw_Z below #[Value.ref b] s) (F0 m 1641 ls1 [])) : W p l e room_1 s m #[Value.ref b] below meth c H locs 119 46443 (lw_Z below #[Value.ref b] s) (F0 m 1506 ls []) := by
  obtain ⟨hx, hb, hr, hml, hown, hts, hX, hbl, hlocks, hgv⟩ := id C0
  have hown : s.vm.findClass RL = some m.cls := hown
  have hgd : ∀ w ∈ gd, w ∈ lw_tbl := fun w h => (List.mem_filter.mp h).1
  have hg : ∀ w ∈ gd, w.before #[Value.ref b] s = true := fun w h => hts w (hgd w h)
  rcases hI with ⟨hv_0_0, hv_0_1, hv_6_4, hj0, hj1, hj2, hj3, hj4, hj5, hj6, hj7, hj8, hj9, hj10, hj11, hj12⟩ | ⟨hv_0_0, hv_0_1, hv_6_4, hj0, hj1, hj2, hj3, hj4, hj5, hj6, hj7, hj8, hj9, hj10, hj11, hj12⟩
  · skip
    obtain ⟨p0, hp0⟩ : ∃ y, y = xs (i0 + 1).toNatClampNeg := ⟨_, rfl⟩
    obtain ⟨p1, hp1⟩ : ∃ y, y = xs (i0 + 2).toNatClampNeg := ⟨_, rfl⟩
    obtain ⟨p2, hp2⟩ : ∃ y, y = xs (i0 + 3).toNatClampNeg := ⟨_, rfl⟩
    obtain ⟨p3, hp3⟩ : ∃ y, y = xs (i0 + 4).toNatClampNeg := ⟨_, rfl⟩
    obtain ⟨p4, hp4⟩ : ∃ y, y = xs (i0 + 5).toNatClampNeg := ⟨_, rfl⟩
    refine lv_aload_n hx hb dL_law_1506 rfl (lv_at hl 1 rfl) ?_
    refine ld_1 hL hi0 hi6 hx hb hX hbl hbA hS hl dL_law_1507 dL_law_1508 dL_law_1509 dL_law_1510 dL_law_1511 hp0 ?_
    refine S_calli (va_runV (As := [.int p0]) (rest := []) ⟨hx, hb, hml, hown, hts⟩ (k_Wfits_1 l D k A a z G p0 hv_0_0 hv_0_1 hv_6_4) (cwV 1 hts (gd_V hgd m1263 m1264 m1265 m117 m1266) rfl rfl rfl hd_X11_fits ⟨Nat.le_of_ble_eq_true rfl, Nat.le_of_ble_eq_true rfl⟩) (pre_W hW hB_G hK hZ hS kd_0 rfl) rfl rfl hl.1 rfl (lv_room (Nat.le_of_ble_eq_true rfl)) dL_law_1512 ⟨Nat.le_of_ble_eq_true rfl, Nat.le_of_ble_eq_true rfl⟩) hS (fun r_1 G_2 H locs hpo hW hS => ?_)
    have hX_5 : P_Wfits_1 p0 G r_1 G_2 := hpo
    obtain ⟨hB_G_2, hq_3, -⟩ := hpo
    refine lv_pop hx hb dL_law_1515 rfl ?_
    refine lv_aload_n hx hb dL_law_1516 rfl (lv_at hl 2 rfl) ?_
    refine ld_1 hL hi0 hi6 hx hb hX hbl hbA hS hl dL_law_1517 dL_law_1518 dL_law_1519 dL_law_1520 dL_law_1521 hp0 ?_
    have fr_6 : Fr [37, 38, 39] [(6, 3)] G G_2 := (Fr.call9 (rs := [37, 38, 39]) (fs := [(6, 3)]) Fr.rf hq_3 rfl rfl)
    have g_7 : gP G_2 = gP G := gP_fr fr_6 (gr_q rfl) (gf_q rfl)
    refine S_calli (va_runV (As := [.int p0]) (rest := []) ⟨hx, hb, hml, hown, hts⟩ (n_fits l D k A a z G_2 p0 (by omega)) (cwV 1 hts (gd_V hgd m2051 m2052 m2053 m131 m2054) rfl rfl rfl hd_X12_fits ⟨Nat.le_of_ble_eq_true rfl, Nat.le_of_ble_eq_true rfl⟩) (pre_W hW hB_G_2 hK hZ hS kd_66 rfl) rfl rfl hl.1 rfl (lv_room (Nat.le_of_ble_eq_true rfl)) dL_law_1522 ⟨Nat.le_of_ble_eq_true rfl, Nat.le_of_ble_eq_true rfl⟩) hS (fun r_8 G_9 H locs hpo hW hS => ?_)
    have hX_12 : Q_fits p0 G_2 r_8 G_9 := hpo
    obtain ⟨hB_G_9, hq_10, -⟩ := hpo
    have u_13 := L_fits_1 hX_5 hX_12 rfl (by omega)
    refine lv_pop hx hb dL_law_1525 rfl ?_
    refine lv_goto (tgt := 1641) hx hb dL_law_1526 rfl ?_
    exact K G_9 _ _ _ (Or.inl (LI_of_1 (LIn_fr_1 (LIn_fr_1 (show LIn_1 G from ⟨hv_0_0, hv_0_1, hv_6_4, hj0, hj1, hj2, hj3, hj4, hj5, hj6, hj7, hj8, hj9, hj10, hj11⟩) hq_3 (by decide +kernel)) hq_10 (by decide +kernel)) (by omega))) hB_G_9 hW hS (lv_sub hl [0, 1, 2, 3] rfl)
  · skip
    obtain ⟨p0, hp0⟩ : ∃ y, y = xs (i0 + 1).toNatClampNeg := ⟨_, rfl⟩
    obtain ⟨p1, hp1⟩ : ∃ y, y = xs (i0 + 2).toNatClampNeg := ⟨_, rfl⟩
    obtain ⟨p2, hp2⟩ : ∃ y, y = xs (i0 + 3).toNatClampNeg := ⟨_, rfl⟩
    obtain ⟨p3, hp3⟩ : ∃ y, y = xs (i0 + 4).toNatClampNeg := ⟨_, rfl⟩
    obtain ⟨p4, hp4⟩ : ∃ y, y = xs (i0 + 5).toNatClampNeg := ⟨_, rfl⟩
    refine lv_aload_n hx hb dL_law_1506 rfl (lv_at hl 1 rfl) ?_
    refine ld_1 hL hi0 hi6 hx hb hX hbl hbA hS hl dL_law_1507 dL_law_1508 dL_law_1509 dL_law_1510 dL_law_1511 hp0 ?_
    refine S_calli (va_runV (As := [.int p0]) (rest := []) ⟨hx, hb, hml, hown, hts⟩ (k_Wfits_2 l D k A a z G p0 hv_0_0 hv_0_1 hv_6_4) (cwV 1 hts (gd_V hgd m1263 m1264 m1265 m117 m1266) rfl rfl rfl hd_X11_fits ⟨Nat.le_of_ble_eq_true rfl, Nat.le_of_ble_eq_true rfl⟩) (pre_W hW hB_G hK hZ hS kd_0 rfl) rfl rfl hl.1 rfl (lv_room (Nat.le_of_ble_eq_true rfl)) dL_law_1512 ⟨Nat.le_of_ble_eq_true rfl, Nat.le_of_ble_eq_true rfl⟩) hS (fun r_1 G_2 H locs hpo hW hS => ?_)
    have hX_5 : P_Wfits_2 p0 G r_1 G_2 := hpo
    obtain ⟨hB_G_2, hq_3, -⟩ := hpo
    refine lv_pop hx hb dL_law_1515 rfl ?_
    refine lv_aload_n hx hb dL_law_1516 rfl (lv_at hl 2 rfl) ?_
    refine ld_1 hL hi0 hi6 hx hb hX hbl hbA hS hl dL_law_1517 dL_law_1518 dL_law_1519 dL_law_1520 dL_law_1521 hp0 ?_
    have fr_6 : Fr [37, 38, 39] [(6, 3)] G G_2 := (Fr.call9 (rs := [37, 38, 39]) (fs := [(6, 3)]) Fr.rf hq_3 rfl rfl)
    have g_7 : gP G_2 = gP G := gP_fr fr_6 (gr_q rfl) (gf_q rfl)
    refine S_calli (va_runV (As := [.int p0]) (rest := []) ⟨hx, hb, hml, hown, hts⟩ (n_fits l D k A a z G_2 p0 (by omega)) (cwV 1 hts (gd_V hgd m2051 m2052 m2053 m131 m2054) rfl rfl rfl hd_X12_fits ⟨Nat.le_of_ble_eq_true rfl, Nat.le_of_ble_eq_true rfl⟩) (pre_W hW hB_G_2 hK hZ hS kd_66 rfl) rfl rfl hl.1 rfl (lv_room (Nat.le_of_ble_eq_true rfl)) dL_law_1522 ⟨Nat.le_of_ble_eq_true rfl, Nat.le_of_ble_eq_true rfl⟩) hS (fun r_8 G_9 H locs hpo hW hS => ?_)
    have hX_12 : Q_fits p0 G_2 r_8 G_9 := hpo
    obtain ⟨hB_G_9, hq_10, -⟩ := hpo
    have u_13 := L_fits_2 hX_5 hX_12 rfl (by omega)
    refine lv_pop hx hb dL_law_1525 rfl ?_
    refine lv_goto (tgt := 1641) hx hb dL_law_1526 rfl ?_
    exact K G_9 _ _ _ (Or.inr (LI_of_2 (LIn_fr_2 (LIn_fr_2 (show LIn_2 G from ⟨hv_0_0, hv_0_1, hv_6_4, hj0, hj1, hj2, hj3, hj4, hj5, hj6, hj7, hj8, hj9, hj10, hj11⟩) hq_3 (by decide +kernel)) hq_10 (by decide +kernel)) (by omega))) hB_G_9 hW hS (lv_sub hl [0, 1, 2, 3] rfl)

set_option maxHeartbeats 4000000 in
set_option maxRecDepth 100000 in
theorem law_35 {p : Program} {l : Launch} {e : Env} {s : State} {m : MethodId} {below : List Frame} {meth : Method} {c : Code} {D : va_G} {k : KT} {A : Nat → Prop} {a : Nat → Nat} {z : SK} {b L : Nat} {xs : Nat → Int32} (hL : L ≤ 3072) (C0 : lw_At p s m meth c b L xs) (hK : cK D k s) (hZ : Sx A z s) (hbA : ¬ A b) {G : GS} {i0 : Int32} (hi0 : 0 ≤ i0.toInt) (hi6 : i0.toInt + 6 ≤ L) (hI : LI G) (hB_G : Bd G) {H : Heap} {locs : List Loc} {ls : Array Slot} (hW : Wd D k A a G H) (hS : va_S A s.heap H locs) (hl : lv_has ls 4 [(0, .ref b), (1, .ref (a 0)), (2, .ref (a 66)), (3, .int i0)]) (K : ∀ (G1 : GS) (H1 : Heap) (locs1 : List Loc) (ls1 : Array Slot), LI G1 → Bd G1 → Wd D k A a G1 H1 → va_S A s.heap H1 locs1 → lv_has ls1 4 [(0, .ref b), (1, .ref (a 0)), (2, .ref (a 66)), (3, .int i0)] → W p l e room_1 s m #[Value.ref b] below meth c H1 locs1 119 46443 (lw_Z below #[Value.ref b] s) (F0 m 1641 ls1 [])) : W p l e room_1 s m #[Value.ref b] below meth c H locs 119 46443 (lw_Z below #[Value.ref b] s) (F0 m 1529 ls []) := by
  obtain ⟨hx, hb, hr, hml, hown, hts, hX, hbl, hlocks, hgv⟩ := id C0
  have hown : s.vm.findClass RL = some m.cls := hown
  have hgd : ∀ w ∈ gd, w ∈ lw_tbl := fun w h => (List.mem_filter.mp h).1
  have hg : ∀ w ∈ gd, w.before #[Value.ref b] s = true := fun w h => hts w (hgd w h)
  rcases hI with ⟨hv_0_0, hv_0_1, hv_6_4, hj0, hj1, hj2, hj3, hj4, hj5, hj6, hj7, hj8, hj9, hj10, hj11, hj12⟩ | ⟨hv_0_0, hv_0_1, hv_6_4, hj0, hj1, hj2, hj3, hj4, hj5, hj6, hj7, hj8, hj9, hj10, hj11, hj12⟩
  · skip
    obtain ⟨p0, hp0⟩ : ∃ y, y = xs (i0 + 1).toNatClampNeg := ⟨_, rfl⟩
    obtain ⟨p1, hp1⟩ : ∃ y, y = xs (i0 + 2).toNatClampNeg := ⟨_, rfl⟩
    obtain ⟨p2, hp2⟩ : ∃ y, y = xs (i0 + 3).toNatClampNeg := ⟨_, rfl⟩
    obtain ⟨p3, hp3⟩ : ∃ y, y = xs (i0 + 4).toNatClampNeg := ⟨_, rfl⟩
    obtain ⟨p4, hp4⟩ : ∃ y, y = xs (i0 + 5).toNatClampNeg := ⟨_, rfl⟩
    refine lv_aload_n hx hb dL_law_1529 rfl (lv_at hl 1 rfl) ?_
    refine ld_1 hL hi0 hi6 hx hb hX hbl hbA hS hl dL_law_1530 dL_law_1531 dL_law_1532 dL_law_1533 dL_law_1534 hp0 ?_
    refine ld_2 hL hi0 hi6 hx hb hX hbl hbA hS hl dL_law_1535 dL_law_1536 dL_law_1537 dL_law_1538 dL_law_1539 hp1 ?_
    refine ld_3 hL hi0 hi6 hx hb hX hbl hbA hS hl dL_law_1540 dL_law_1541 dL_law_1542 dL_law_1543 dL_law_1544 hp2 ?_
    refine S_calll (va_runV (As := [.int p0, .int p1, .int p2]) (rest := []) ⟨hx, hb, hml, hown, hts⟩ (k_Wchance_1 l D k A a z G p0 p1 p2 hv_0_0 hv_0_1 hv_6_4) (cwV 3 hts (gd_V hgd m1279 m1280 m1281 m117 m1282) rfl rfl rfl hd_X11_chance ⟨Nat.le_of_ble_eq_true rfl, Nat.le_of_ble_eq_true rfl⟩) (pre_W hW hB_G hK hZ hS kd_0 rfl) rfl rfl hl.1 rfl (lv_room (Nat.le_of_ble_eq_true rfl)) dL_law_1545 ⟨Nat.le_of_ble_eq_true rfl, Nat.le_of_ble_eq_true rfl⟩) hS (fun r_1 G_2 H locs hpo hW hS => ?_)
    have hX_5 : P_Wchance_1 p0 p1 p2 G r_1 G_2 := hpo
    obtain ⟨hB_G_2, hq_3, -⟩ := hpo
    refine lv_pop2_2 hx hb dL_law_1548 rfl ?_
    refine lv_aload_n hx hb dL_law_1549 rfl (lv_at hl 2 rfl) ?_
    refine ld_1 hL hi0 hi6 hx hb hX hbl hbA hS hl dL_law_1550 dL_law_1551 dL_law_1552 dL_law_1553 dL_law_1554 hp0 ?_
    refine ld_2 hL hi0 hi6 hx hb hX hbl hbA hS hl dL_law_1555 dL_law_1556 dL_law_1557 dL_law_1558 dL_law_1559 hp1 ?_
    refine ld_3 hL hi0 hi6 hx hb hX hbl hbA hS hl dL_law_1560 dL_law_1561 dL_law_1562 dL_law_1563 dL_law_1564 hp2 ?_
    have fr_6 : Fr [37, 38, 39] [(6, 3)] G G_2 := (Fr.call9 (rs := [37, 38, 39]) (fs := [(6, 3)]) Fr.rf hq_3 rfl rfl)
    have g_7 : gP G_2 = gP G := gP_fr fr_6 (gr_q rfl) (gf_q rfl)
    have g_8 : gS G_2 = gS G := gS_fr fr_6 (gr_q rfl) (gf_q rfl)
    refine S_calll (va_runV (As := [.int p0, .int p1, .int p2]) (rest := []) ⟨hx, hb, hml, hown, hts⟩ (n_chance l D k A a z G_2 p0 p1 p2 (by omega) (by omega)) (cwV 3 hts (gd_V hgd m2059 m2060 m2061 m131 m2062) rfl rfl rfl hd_X12_chance ⟨Nat.le_of_ble_eq_true rfl, Nat.le_of_ble_eq_true rfl⟩) (pre_W hW hB_G_2 hK hZ hS kd_66 rfl) rfl rfl hl.1 rfl (lv_room (Nat.le_of_ble_eq_true rfl)) dL_law_1565 ⟨Nat.le_of_ble_eq_true rfl, Nat.le_of_ble_eq_true rfl⟩) hS (fun r_9 G_10 H locs hpo hW hS => ?_)
    have hX_13 : Q_chance p0 p1 p2 G_2 r_9 G_10 := hpo
    obtain ⟨hB_G_10, hq_11, -⟩ := hpo
    have u_14 := L_chance_1 hX_5 hX_13 rfl rfl rfl (by omega)
    refine lv_pop2_2 hx hb dL_law_1568 rfl ?_
    refine lv_goto (tgt := 1641) hx hb dL_law_1569 rfl ?_
    exact K G_10 _ _ _ (Or.inl (LI_of_1 (LIn_fr_1 (LIn_fr_1 (show LIn_1 G from ⟨hv_0_0, hv_0_1, hv_6_4, hj0, hj1, hj2, hj3, hj4, hj5, hj6, hj7, hj8, hj9, hj10, hj11⟩) hq_3 (by decide +kernel)) hq_11 (by decide +kernel)) (by omega))) hB_G_10 hW hS (lv_sub hl [0, 1, 2, 3] rfl)
  · skip
    obtain ⟨p0, hp0⟩ : ∃ y, y = xs (i0 + 1).toNatClampNeg := ⟨_, rfl⟩
    obtain ⟨p1, hp1⟩ : ∃ y, y = xs (i0 + 2).toNatClampNeg := ⟨_, rfl⟩
    obtain ⟨p2, hp2⟩ : ∃ y, y = xs (i0 + 3).toNatClampNeg := ⟨_, rfl⟩
    obtain ⟨p3, hp3⟩ : ∃ y, y = xs (i0 + 4).toNatClampNeg := ⟨_, rfl⟩
    obtain ⟨p4, hp4⟩ : ∃ y, y = xs (i0 + 5).toNatClampNeg := ⟨_, rfl⟩
    refine lv_aload_n hx hb dL_law_1529 rfl (lv_at hl 1 rfl) ?_
    refine ld_1 hL hi0 hi6 hx hb hX hbl hbA hS hl dL_law_1530 dL_law_1531 dL_law_1532 dL_law_1533 dL_law_1534 hp0 ?_
    refine ld_2 hL hi0 hi6 hx hb hX hbl hbA hS hl dL_law_1535 dL_law_1536 dL_law_1537 dL_law_1538 dL_law_1539 hp1 ?_
    refine ld_3 hL hi0 hi6 hx hb hX hbl hbA hS hl dL_law_1540 dL_law_1541 dL_law_1542 dL_law_1543 dL_law_1544 hp2 ?_
    refine S_calll (va_runV (As := [.int p0, .int p1, .int p2]) (rest := []) ⟨hx, hb, hml, hown, hts⟩ (k_Wchance_2 l D k A a z G p0 p1 p2 hv_0_0 hv_0_1 hv_6_4) (cwV 3 hts (gd_V hgd m1279 m1280 m1281 m117 m1282) rfl rfl rfl hd_X11_chance ⟨Nat.le_of_ble_eq_true rfl, Nat.le_of_ble_eq_true rfl⟩) (pre_W hW hB_G hK hZ hS kd_0 rfl) rfl rfl hl.1 rfl (lv_room (Nat.le_of_ble_eq_true rfl)) dL_law_1545 ⟨Nat.le_of_ble_eq_true rfl, Nat.le_of_ble_eq_true rfl⟩) hS (fun r_1 G_2 H locs hpo hW hS => ?_)
    have hX_5 : P_Wchance_2 p0 p1 p2 G r_1 G_2 := hpo
    obtain ⟨hB_G_2, hq_3, -⟩ := hpo
    refine lv_pop2_2 hx hb dL_law_1548 rfl ?_
    refine lv_aload_n hx hb dL_law_1549 rfl (lv_at hl 2 rfl) ?_
    refine ld_1 hL hi0 hi6 hx hb hX hbl hbA hS hl dL_law_1550 dL_law_1551 dL_law_1552 dL_law_1553 dL_law_1554 hp0 ?_
    refine ld_2 hL hi0 hi6 hx hb hX hbl hbA hS hl dL_law_1555 dL_law_1556 dL_law_1557 dL_law_1558 dL_law_1559 hp1 ?_
    refine ld_3 hL hi0 hi6 hx hb hX hbl hbA hS hl dL_law_1560 dL_law_1561 dL_law_1562 dL_law_1563 dL_law_1564 hp2 ?_
    have fr_6 : Fr [37, 38, 39] [(6, 3)] G G_2 := (Fr.call9 (rs := [37, 38, 39]) (fs := [(6, 3)]) Fr.rf hq_3 rfl rfl)
    have g_7 : gP G_2 = gP G := gP_fr fr_6 (gr_q rfl) (gf_q rfl)
    have g_8 : gS G_2 = gS G := gS_fr fr_6 (gr_q rfl) (gf_q rfl)
    refine S_calll (va_runV (As := [.int p0, .int p1, .int p2]) (rest := []) ⟨hx, hb, hml, hown, hts⟩ (n_chance l D k A a z G_2 p0 p1 p2 (by omega) (by omega)) (cwV 3 hts (gd_V hgd m2059 m2060 m2061 m131 m2062) rfl rfl rfl hd_X12_chance ⟨Nat.le_of_ble_eq_true rfl, Nat.le_of_ble_eq_true rfl⟩) (pre_W hW hB_G_2 hK hZ hS kd_66 rfl) rfl rfl hl.1 rfl (lv_room (Nat.le_of_ble_eq_true rfl)) dL_law_1565 ⟨Nat.le_of_ble_eq_true rfl, Nat.le_of_ble_eq_true rfl⟩) hS (fun r_9 G_10 H locs hpo hW hS => ?_)
    have hX_13 : Q_chance p0 p1 p2 G_2 r_9 G_10 := hpo
    obtain ⟨hB_G_10, hq_11, -⟩ := hpo
    have u_14 := L_chance_2 hX_5 hX_13 rfl rfl rfl (by omega)
    refine lv_pop2_2 hx hb dL_law_1568 rfl ?_
    refine lv_goto (tgt := 1641) hx hb dL_law_1569 rfl ?_
    exact K G_10 _ _ _ (Or.inr (LI_of_2 (LIn_fr_2 (LIn_fr_2 (show LIn_2 G from ⟨hv_0_0, hv_0_1, hv_6_4, hj0, hj1, hj2, hj3, hj4, hj5, hj6, hj7, hj8, hj9, hj10, hj11⟩) hq_3 (by decide +kernel)) hq_11 (by decide +kernel)) (by omega))) hB_G_10 hW hS (lv_sub hl [0, 1, 2, 3] rfl)

set_option maxHeartbeats 4000000 in
set_option maxRecDepth 100000 in
theorem law_36 {p : Program} {l : Launch} {e : Env} {s : State} {m : MethodId} {below : List Frame} {meth : Method} {c : Code} {D : va_G} {k : KT} {A : Nat → Prop} {a : Nat → Nat} {z : SK} {b L : Nat} {xs : Nat → Int32} (hL : L ≤ 3072) (C0 : lw_At p s m meth c b L xs) (hK : cK D k s) (hZ : Sx A z s) (hbA : ¬ A b) {G : GS} {i0 : Int32} (hi0 : 0 ≤ i0.toInt) (hi6 : i0.toInt + 6 ≤ L) (hI : LI G) (hB_G : Bd G) {H : Heap} {locs : List Loc} {ls : Array Slot} (hW : Wd D k A a G H) (hS : va_S A s.heap H locs) (hl : lv_has ls 4 [(0, .ref b), (1, .ref (a 0)), (2, .ref (a 66)), (3, .int i0)]) (K : ∀ (G1 : GS) (H1 : Heap) (locs1 : List Loc) (ls1 : Array Slot), LI G1 → Bd G1 → Wd D k A a G1 H1 → va_S A s.heap H1 locs1 → lv_has ls1 4 [(0, .ref b), (1, .ref (a 0)), (2, .ref (a 66)), (3, .int i0)] → W p l e room_1 s m #[Value.ref b] below meth c H1 locs1 119 46443 (lw_Z below #[Value.ref b] s) (F0 m 1641 ls1 [])) : W p l e room_1 s m #[Value.ref b] below meth c H locs 119 46443 (lw_Z below #[Value.ref b] s) (F0 m 1572 ls []) := by
  obtain ⟨hx, hb, hr, hml, hown, hts, hX, hbl, hlocks, hgv⟩ := id C0
  have hown : s.vm.findClass RL = some m.cls := hown
  have hgd : ∀ w ∈ gd, w ∈ lw_tbl := fun w h => (List.mem_filter.mp h).1
  have hg : ∀ w ∈ gd, w.before #[Value.ref b] s = true := fun w h => hts w (hgd w h)
  rcases hI with ⟨hv_0_0, hv_0_1, hv_6_4, hj0, hj1, hj2, hj3, hj4, hj5, hj6, hj7, hj8, hj9, hj10, hj11, hj12⟩ | ⟨hv_0_0, hv_0_1, hv_6_4, hj0, hj1, hj2, hj3, hj4, hj5, hj6, hj7, hj8, hj9, hj10, hj11, hj12⟩
  · skip
    obtain ⟨p0, hp0⟩ : ∃ y, y = xs (i0 + 1).toNatClampNeg := ⟨_, rfl⟩
    obtain ⟨p1, hp1⟩ : ∃ y, y = xs (i0 + 2).toNatClampNeg := ⟨_, rfl⟩
    obtain ⟨p2, hp2⟩ : ∃ y, y = xs (i0 + 3).toNatClampNeg := ⟨_, rfl⟩
    obtain ⟨p3, hp3⟩ : ∃ y, y = xs (i0 + 4).toNatClampNeg := ⟨_, rfl⟩
    obtain ⟨p4, hp4⟩ : ∃ y, y = xs (i0 + 5).toNatClampNeg := ⟨_, rfl⟩
    refine lv_aload_n hx hb dL_law_1572 rfl (lv_at hl 1 rfl) ?_
    refine ld_1 hL hi0 hi6 hx hb hX hbl hbA hS hl dL_law_1573 dL_law_1574 dL_law_1575 dL_law_1576 dL_law_1577 hp0 ?_
    have b_1 : 0 ≤ (G.1 30 4).toInt ∧ (G.1 30 4).toInt ≤ 40 := bd_30_4 hB_G
    have b_2 : 0 ≤ (G.1 30 5).toInt ∧ (G.1 30 5).toInt ≤ 40 := bd_30_5 hB_G
    refine S_calli (va_runV (As := [.int p0]) (rest := []) ⟨hx, hb, hml, hown, hts⟩ (k_Wimage l D k A a z G p0 (by omega)) (cwV 1 hts (gd_V hgd m1287 m1288 m1289 m117 m1290) rfl rfl rfl hd_X11_image ⟨Nat.le_of_ble_eq_true rfl, Nat.le_of_ble_eq_true rfl⟩) (pre_W hW hB_G hK hZ hS kd_0 rfl) rfl rfl hl.1 rfl (lv_room (Nat.le_of_ble_eq_true rfl)) dL_law_1578 ⟨Nat.le_of_ble_eq_true rfl, Nat.le_of_ble_eq_true rfl⟩) hS (fun r_3 G_4 H locs hpo hW hS => ?_)
    have hX_7 : P_Wimage p0 G r_3 G_4 := hpo
    obtain ⟨hB_G_4, hq_5, hp_6, -⟩ := hpo
    refine lv_pop hx hb dL_law_1581 rfl ?_
    refine lv_aload_n hx hb dL_law_1582 rfl (lv_at hl 2 rfl) ?_
    refine ld_1 hL hi0 hi6 hx hb hX hbl hbA hS hl dL_law_1583 dL_law_1584 dL_law_1585 dL_law_1586 dL_law_1587 hp0 ?_
    have b_8 : 0 ≤ (G.1 66 78).toInt ∧ (G.1 66 78).toInt ≤ 40 := bd_66_78 hB_G
    have g_9 : (G_4.1 66 78).toInt = (G.1 66 78).toInt := (congrArg Int32.toInt (show G_4.1 66 78 = (G.1 66 78) from (hq_5.i9 66 78 rfl rfl)))
    have b_10 : 0 ≤ (G.1 66 79).toInt ∧ (G.1 66 79).toInt ≤ 40 := bd_66_79 hB_G
    have g_11 : (G_4.1 66 79).toInt = (G.1 66 79).toInt := (congrArg Int32.toInt (show G_4.1 66 79 = (G.1 66 79) from (hq_5.i9 66 79 rfl rfl)))
    refine S_calli (va_runV (As := [.int p0]) (rest := []) ⟨hx, hb, hml, hown, hts⟩ (n_image l D k A a z G_4 p0 (by omega)) (cwV 1 hts (gd_V hgd m2066 m2067 m2068 m131 m2069) rfl rfl rfl hd_X12_image ⟨Nat.le_of_ble_eq_true rfl, Nat.le_of_ble_eq_true rfl⟩) (pre_W hW hB_G_4 hK hZ hS kd_66 rfl) rfl rfl hl.1 rfl (lv_room (Nat.le_of_ble_eq_true rfl)) dL_law_1588 ⟨Nat.le_of_ble_eq_true rfl, Nat.le_of_ble_eq_true rfl⟩) hS (fun r_12 G_13 H locs hpo hW hS => ?_)
    have hX_16 : Q_image p0 G_4 r_12 G_13 := hpo
    obtain ⟨hB_G_13, hq_14, hp_15, -⟩ := hpo
    obtain ⟨u_17, u_18⟩ := L_image_1 hX_7 hX_16 rfl (by omega)
    refine lv_pop hx hb dL_law_1591 rfl ?_
    refine lv_goto (tgt := 1641) hx hb dL_law_1592 rfl ?_
    exact K G_13 _ _ _ (Or.inl (LI_of_1 (LIn_fr_1 (LIn_fr_1 (show LIn_1 G from ⟨hv_0_0, hv_0_1, hv_6_4, hj0, hj1, hj2, hj3, hj4, hj5, hj6, hj7, hj8, hj9, hj10, hj11⟩) hq_5 (by decide +kernel)) hq_14 (by decide +kernel)) (by omega))) hB_G_13 hW hS (lv_sub hl [0, 1, 2, 3] rfl)
  · skip
    obtain ⟨p0, hp0⟩ : ∃ y, y = xs (i0 + 1).toNatClampNeg := ⟨_, rfl⟩
    obtain ⟨p1, hp1⟩ : ∃ y, y = xs (i0 + 2).toNatClampNeg := ⟨_, rfl⟩
    obtain ⟨p2, hp2⟩ : ∃ y, y = xs (i0 + 3).toNatClampNeg := ⟨_, rfl⟩
    obtain ⟨p3, hp3⟩ : ∃ y, y = xs (i0 + 4).toNatClampNeg := ⟨_, rfl⟩
    obtain ⟨p4, hp4⟩ : ∃ y, y = xs (i0 + 5).toNatClampNeg := ⟨_, rfl⟩
    refine lv_aload_n hx hb dL_law_1572 rfl (lv_at hl 1 rfl) ?_
    refine ld_1 hL hi0 hi6 hx hb hX hbl hbA hS hl dL_law_1573 dL_law_1574 dL_law_1575 dL_law_1576 dL_law_1577 hp0 ?_
    have b_1 : 0 ≤ (G.1 30 4).toInt ∧ (G.1 30 4).toInt ≤ 40 := bd_30_4 hB_G
    have b_2 : 0 ≤ (G.1 30 5).toInt ∧ (G.1 30 5).toInt ≤ 40 := bd_30_5 hB_G
    refine S_calli (va_runV (As := [.int p0]) (rest := []) ⟨hx, hb, hml, hown, hts⟩ (k_Wimage l D k A a z G p0 (by omega)) (cwV 1 hts (gd_V hgd m1287 m1288 m1289 m117 m1290) rfl rfl rfl hd_X11_image ⟨Nat.le_of_ble_eq_true rfl, Nat.le_of_ble_eq_true rfl⟩) (pre_W hW hB_G hK hZ hS kd_0 rfl) rfl rfl hl.1 rfl (lv_room (Nat.le_of_ble_eq_true rfl)) dL_law_1578 ⟨Nat.le_of_ble_eq_true rfl, Nat.le_of_ble_eq_true rfl⟩) hS (fun r_3 G_4 H locs hpo hW hS => ?_)
    have hX_7 : P_Wimage p0 G r_3 G_4 := hpo
    obtain ⟨hB_G_4, hq_5, hp_6, -⟩ := hpo
    refine lv_pop hx hb dL_law_1581 rfl ?_
    refine lv_aload_n hx hb dL_law_1582 rfl (lv_at hl 2 rfl) ?_
    refine ld_1 hL hi0 hi6 hx hb hX hbl hbA hS hl dL_law_1583 dL_law_1584 dL_law_1585 dL_law_1586 dL_law_1587 hp0 ?_
    have b_8 : 0 ≤ (G.1 66 78).toInt ∧ (G.1 66 78).toInt ≤ 40 := bd_66_78 hB_G
    have g_9 : (G_4.1 66 78).toInt = (G.1 66 78).toInt := (congrArg Int32.toInt (show G_4.1 66 78 = (G.1 66 78) from (hq_5.i9 66 78 rfl rfl)))
    have b_10 : 0 ≤ (G.1 66 79).toInt ∧ (G.1 66 79).toInt ≤ 40 := bd_66_79 hB_G
    have g_11 : (G_4.1 66 79).toInt = (G.1 66 79).toInt := (congrArg Int32.toInt (show G_4.1 66 79 = (G.1 66 79) from (hq_5.i9 66 79 rfl rfl)))
    refine S_calli (va_runV (As := [.int p0]) (rest := []) ⟨hx, hb, hml, hown, hts⟩ (n_image l D k A a z G_4 p0 (by omega)) (cwV 1 hts (gd_V hgd m2066 m2067 m2068 m131 m2069) rfl rfl rfl hd_X12_image ⟨Nat.le_of_ble_eq_true rfl, Nat.le_of_ble_eq_true rfl⟩) (pre_W hW hB_G_4 hK hZ hS kd_66 rfl) rfl rfl hl.1 rfl (lv_room (Nat.le_of_ble_eq_true rfl)) dL_law_1588 ⟨Nat.le_of_ble_eq_true rfl, Nat.le_of_ble_eq_true rfl⟩) hS (fun r_12 G_13 H locs hpo hW hS => ?_)
    have hX_16 : Q_image p0 G_4 r_12 G_13 := hpo
    obtain ⟨hB_G_13, hq_14, hp_15, -⟩ := hpo
    obtain ⟨u_17, u_18⟩ := L_image_2 hX_7 hX_16 rfl (by omega)
    refine lv_pop hx hb dL_law_1591 rfl ?_
    refine lv_goto (tgt := 1641) hx hb dL_law_1592 rfl ?_
    exact K G_13 _ _ _ (Or.inr (LI_of_2 (LIn_fr_2 (LIn_fr_2 (show LIn_2 G from ⟨hv_0_0, hv_0_1, hv_6_4, hj0, hj1, hj2, hj3, hj4, hj5, hj6, hj7, hj8, hj9, hj10, hj11⟩) hq_5 (by decide +kernel)) hq_14 (by decide +kernel)) (by omega))) hB_G_13 hW hS (lv_sub hl [0, 1, 2, 3] rfl)

set_option maxHeartbeats 4000000 in
set_option maxRecDepth 100000 in
theorem law_37 {p : Program} {l : Launch} {e : Env} {s : State} {m : MethodId} {below : List Frame} {meth : Method} {c : Code} {D : va_G} {k : KT} {A : Nat → Prop} {a : Nat → Nat} {z : SK} {b L : Nat} {xs : Nat → Int32} (hL : L ≤ 3072) (C0 : lw_At p s m meth c b L xs) (hK : cK D k s) (hZ : Sx A z s) (hbA : ¬ A b) {G : GS} {i0 : Int32} (hi0 : 0 ≤ i0.toInt) (hi6 : i0.toInt + 6 ≤ L) (hI : LI G) (hB_G : Bd G) {H : Heap} {locs : List Loc} {ls : Array Slot} (hW : Wd D k A a G H) (hS : va_S A s.heap H locs) (hl : lv_has ls 4 [(0, .ref b), (1, .ref (a 0)), (2, .ref (a 66)), (3, .int i0)]) (K : ∀ (G1 : GS) (H1 : Heap) (locs1 : List Loc) (ls1 : Array Slot), LI G1 → Bd G1 → Wd D k A a G1 H1 → va_S A s.heap H1 locs1 → lv_has ls1 4 [(0, .ref b), (1, .ref (a 0)), (2, .ref (a 66)), (3, .int i0)] → W p l e room_1 s m #[Value.ref b] below meth c H1 locs1 119 46443 (lw_Z below #[Value.ref b] s) (F0 m 1641 ls1 [])) : W p l e room_1 s m #[Value.ref b] below meth c H locs 119 46443 (lw_Z below #[Value.ref b] s) (F0 m 1595 ls []) := by
  obtain ⟨hx, hb, hr, hml, hown, hts, hX, hbl, hlocks, hgv⟩ := id C0
  have hown : s.vm.findClass RL = some m.cls := hown
  have hgd : ∀ w ∈ gd, w ∈ lw_tbl := fun w h => (List.mem_filter.mp h).1
  have hg : ∀ w ∈ gd, w.before #[Value.ref b] s = true := fun w h => hts w (hgd w h)
  rcases hI with ⟨hv_0_0, hv_0_1, hv_6_4, hj0, hj1, hj2, hj3, hj4, hj5, hj6, hj7, hj8, hj9, hj10, hj11, hj12⟩ | ⟨hv_0_0, hv_0_1, hv_6_4, hj0, hj1, hj2, hj3, hj4, hj5, hj6, hj7, hj8, hj9, hj10, hj11, hj12⟩
  · skip
    obtain ⟨p0, hp0⟩ : ∃ y, y = xs (i0 + 1).toNatClampNeg := ⟨_, rfl⟩
    obtain ⟨p1, hp1⟩ : ∃ y, y = xs (i0 + 2).toNatClampNeg := ⟨_, rfl⟩
    obtain ⟨p2, hp2⟩ : ∃ y, y = xs (i0 + 3).toNatClampNeg := ⟨_, rfl⟩
    obtain ⟨p3, hp3⟩ : ∃ y, y = xs (i0 + 4).toNatClampNeg := ⟨_, rfl⟩
    obtain ⟨p4, hp4⟩ : ∃ y, y = xs (i0 + 5).toNatClampNeg := ⟨_, rfl⟩
    refine lv_aload_n hx hb dL_law_1595 rfl (lv_at hl 1 rfl) ?_
    refine ld_1 hL hi0 hi6 hx hb hX hbl hbA hS hl dL_law_1596 dL_law_1597 dL_law_1598 dL_law_1599 dL_law_1600 hp0 ?_
    have b_1 : 0 ≤ (G.1 30 4).toInt ∧ (G.1 30 4).toInt ≤ 40 := bd_30_4 hB_G
    have b_2 : 0 ≤ (G.1 30 5).toInt ∧ (G.1 30 5).toInt ≤ 40 := bd_30_5 hB_G
    refine S_calli (va_runV (As := [.int p0]) (rest := []) ⟨hx, hb, hml, hown, hts⟩ (k_Wback l D k A a z G p0 (by omega)) (cwV 1 hts (gd_V hgd m1295 m1296 m1297 m117 m1298) rfl rfl rfl hd_X11_back ⟨Nat.le_of_ble_eq_true rfl, Nat.le_of_ble_eq_true rfl⟩) (pre_W hW hB_G hK hZ hS kd_0 rfl) rfl rfl hl.1 rfl (lv_room (Nat.le_of_ble_eq_true rfl)) dL_law_1601 ⟨Nat.le_of_ble_eq_true rfl, Nat.le_of_ble_eq_true rfl⟩) hS (fun r_3 G_4 H locs hpo hW hS => ?_)
    have hX_7 : P_Wback p0 G r_3 G_4 := hpo
    obtain ⟨hB_G_4, hq_5, hp_6, -⟩ := hpo
    refine lv_pop hx hb dL_law_1604 rfl ?_
    refine lv_aload_n hx hb dL_law_1605 rfl (lv_at hl 2 rfl) ?_
    refine ld_1 hL hi0 hi6 hx hb hX hbl hbA hS hl dL_law_1606 dL_law_1607 dL_law_1608 dL_law_1609 dL_law_1610 hp0 ?_
    have b_8 : 0 ≤ (G.1 66 78).toInt ∧ (G.1 66 78).toInt ≤ 40 := bd_66_78 hB_G
    have g_9 : (G_4.1 66 78).toInt = (G.1 66 78).toInt := (congrArg Int32.toInt (show G_4.1 66 78 = (G.1 66 78) from (hq_5.i9 66 78 rfl rfl)))
    have b_10 : 0 ≤ (G.1 66 79).toInt ∧ (G.1 66 79).toInt ≤ 40 := bd_66_79 hB_G
    have g_11 : (G_4.1 66 79).toInt = (G.1 66 79).toInt := (congrArg Int32.toInt (show G_4.1 66 79 = (G.1 66 79) from (hq_5.i9 66 79 rfl rfl)))
    refine S_calli (va_runV (As := [.int p0]) (rest := []) ⟨hx, hb, hml, hown, hts⟩ (n_back l D k A a z G_4 p0 (by omega)) (cwV 1 hts (gd_V hgd m2073 m2074 m2075 m131 m2076) rfl rfl rfl hd_X12_back ⟨Nat.le_of_ble_eq_true rfl, Nat.le_of_ble_eq_true rfl⟩) (pre_W hW hB_G_4 hK hZ hS kd_66 rfl) rfl rfl hl.1 rfl (lv_room (Nat.le_of_ble_eq_true rfl)) dL_law_1611 ⟨Nat.le_of_ble_eq_true rfl, Nat.le_of_ble_eq_true rfl⟩) hS (fun r_12 G_13 H locs hpo hW hS => ?_)
    have hX_16 : Q_back p0 G_4 r_12 G_13 := hpo
    obtain ⟨hB_G_13, hq_14, hp_15, -⟩ := hpo
    obtain ⟨u_17, u_18⟩ := L_back_1 hX_7 hX_16 rfl (by omega)
    refine lv_pop hx hb dL_law_1614 rfl ?_
    refine lv_goto (tgt := 1641) hx hb dL_law_1615 rfl ?_
    have fr_19 : Fr [110, 58, 59] [(30, 4), (30, 5), (66, 78), (66, 79)] G G_13 := (Fr.call9 (rs := [110, 58, 59]) (fs := [(30, 4), (30, 5), (66, 78), (66, 79)]) (Fr.call9 (rs := [110, 58, 59]) (fs := [(30, 4), (30, 5), (66, 78), (66, 79)]) Fr.rf hq_5 rfl rfl) hq_14 rfl rfl)
    have g_20 : gO G_13 = gO G := gO_fr fr_19 (gr_q rfl) (gf_q rfl)
    have g_21 : gP G_13 = gP G := gP_fr fr_19 (gr_q rfl) (gf_q rfl)
    have g_22 : gS G_13 = gS G := gS_fr fr_19 (gr_q rfl) (gf_q rfl)
    have g_23 : gTE G_13 = gTE G := gTE_fr fr_19 (gr_q rfl) (gf_q rfl)
    have g_24 : gW G_13 = gW G := gW_fr fr_19 (gr_q rfl) (gf_q rfl)
    have b_25 : 0 ≤ (G.1 0 11).toInt ∧ (G.1 0 11).toInt ≤ 1600 := bd_0_11 hB_G
    have g_26 : (G_13.1 0 11).toInt = (G.1 0 11).toInt := (congrArg Int32.toInt (show G_13.1 0 11 = (G.1 0 11) from ((hq_14.i9 0 11 rfl rfl).trans (hq_5.i9 0 11 rfl rfl))))
    have b_27 : 0 ≤ (G.1 3 7).toInt ∧ (G.1 3 7).toInt ≤ 4 := bd_3_7 hB_G
    have g_28 : (G_13.1 3 7).toInt = (G.1 3 7).toInt := (congrArg Int32.toInt (show G_13.1 3 7 = (G.1 3 7) from ((hq_14.i9 3 7 rfl rfl).trans (hq_5.i9 3 7 rfl rfl))))
    have b_29 : (-1) ≤ (G.1 3 8).toInt ∧ (G.1 3 8).toInt ≤ 1600 := bd_3_8 hB_G
    have g_30 : (G_13.1 3 8).toInt = (G.1 3 8).toInt := (congrArg Int32.toInt (show G_13.1 3 8 = (G.1 3 8) from ((hq_14.i9 3 8 rfl rfl).trans (hq_5.i9 3 8 rfl rfl))))
    have b_31 : 0 ≤ (G_4.1 30 4).toInt ∧ (G_4.1 30 4).toInt ≤ 40 := bd_30_4 hB_G_4
    have g_32 : (G_13.1 30 4).toInt = (G_4.1 30 4).toInt := (congrArg Int32.toInt (show G_13.1 30 4 = (G_4.1 30 4) from (hq_14.i9 30 4 rfl rfl)))
    have b_33 : 0 ≤ (G_4.1 30 5).toInt ∧ (G_4.1 30 5).toInt ≤ 40 := bd_30_5 hB_G_4
    have g_34 : (G_13.1 30 5).toInt = (G_4.1 30 5).toInt := (congrArg Int32.toInt (show G_13.1 30 5 = (G_4.1 30 5) from (hq_14.i9 30 5 rfl rfl)))
    have b_35 : 0 ≤ (G.1 31 6).toInt ∧ (G.1 31 6).toInt ≤ 100000 := bd_31_6 hB_G
    have g_36 : (G_13.1 31 6).toInt = (G.1 31 6).toInt := (congrArg Int32.toInt (show G_13.1 31 6 = (G.1 31 6) from ((hq_14.i9 31 6 rfl rfl).trans (hq_5.i9 31 6 rfl rfl))))
    have b_37 : 0 ≤ (G.1 66 1).toInt ∧ (G.1 66 1).toInt ≤ 1600 := bd_66_1 hB_G
    have g_38 : (G_13.1 66 1).toInt = (G.1 66 1).toInt := (congrArg Int32.toInt (show G_13.1 66 1 = (G.1 66 1) from ((hq_14.i9 66 1 rfl rfl).trans (hq_5.i9 66 1 rfl rfl))))
    have b_39 : 0 ≤ (G.1 66 2).toInt ∧ (G.1 66 2).toInt ≤ 4 := bd_66_2 hB_G
    have g_40 : (G_13.1 66 2).toInt = (G.1 66 2).toInt := (congrArg Int32.toInt (show G_13.1 66 2 = (G.1 66 2) from ((hq_14.i9 66 2 rfl rfl).trans (hq_5.i9 66 2 rfl rfl))))
    have b_41 : (-1) ≤ (G.1 66 3).toInt ∧ (G.1 66 3).toInt ≤ 1600 := bd_66_3 hB_G
    have g_42 : (G_13.1 66 3).toInt = (G.1 66 3).toInt := (congrArg Int32.toInt (show G_13.1 66 3 = (G.1 66 3) from ((hq_14.i9 66 3 rfl rfl).trans (hq_5.i9 66 3 rfl rfl))))
    have b_43 : 0 ≤ (G_13.1 66 78).toInt ∧ (G_13.1 66 78).toInt ≤ 40 := bd_66_78 hB_G_13
    have b_44 : 0 ≤ (G_13.1 66 79).toInt ∧ (G_13.1 66 79).toInt ≤ 40 := bd_66_79 hB_G_13
    have b_45 : 0 ≤ (G.1 66 86).toInt ∧ (G.1 66 86).toInt ≤ 100000 := bd_66_86 hB_G
    have g_46 : (G_13.1 66 86).toInt = (G.1 66 86).toInt := (congrArg Int32.toInt (show G_13.1 66 86 = (G.1 66 86) from ((hq_14.i9 66 86 rfl rfl).trans (hq_5.i9 66 86 rfl rfl))))
    have b_47 : 0 ≤ (G.1 96 0).toInt ∧ (G.1 96 0).toInt ≤ 9 := bd_96_0 hB_G
    have g_48 : (G_13.1 96 0).toInt = (G.1 96 0).toInt := (congrArg Int32.toInt (show G_13.1 96 0 = (G.1 96 0) from ((hq_14.i9 96 0 rfl rfl).trans (hq_5.i9 96 0 rfl rfl))))
    have b_49 : 0 ≤ (G.1 96 1).toInt ∧ (G.1 96 1).toInt ≤ 9 := bd_96_1 hB_G
    have g_50 : (G_13.1 96 1).toInt = (G.1 96 1).toInt := (congrArg Int32.toInt (show G_13.1 96 1 = (G.1 96 1) from ((hq_14.i9 96 1 rfl rfl).trans (hq_5.i9 96 1 rfl rfl))))
    have b_51 : 0 ≤ (G.1 96 2).toInt ∧ (G.1 96 2).toInt ≤ 9 := bd_96_2 hB_G
    have g_52 : (G_13.1 96 2).toInt = (G.1 96 2).toInt := (congrArg Int32.toInt (show G_13.1 96 2 = (G.1 96 2) from ((hq_14.i9 96 2 rfl rfl).trans (hq_5.i9 96 2 rfl rfl))))
    exact K G_13 _ _ _ (Or.inl ⟨((((hq_14.r9 0 0 rfl rfl).trans (hq_5.r9 0 0 rfl rfl))).trans (hv_0_0)), ((((hq_14.r9 0 1 rfl rfl).trans (hq_5.r9 0 1 rfl rfl))).trans (hv_0_1)), ((((hq_14.r9 6 4 rfl rfl).trans (hq_5.r9 6 4 rfl rfl))).trans (hv_6_4)), by omega, by omega, by omega, by omega, by omega, by omega, by omega, by omega, by omega, by omega, by omega, by omega, by omega⟩) hB_G_13 hW hS (lv_sub hl [0, 1, 2, 3] rfl)
  · skip
    obtain ⟨p0, hp0⟩ : ∃ y, y = xs (i0 + 1).toNatClampNeg := ⟨_, rfl⟩
    obtain ⟨p1, hp1⟩ : ∃ y, y = xs (i0 + 2).toNatClampNeg := ⟨_, rfl⟩
    obtain ⟨p2, hp2⟩ : ∃ y, y = xs (i0 + 3).toNatClampNeg := ⟨_, rfl⟩
    obtain ⟨p3, hp3⟩ : ∃ y, y = xs (i0 + 4).toNatClampNeg := ⟨_, rfl⟩
    obtain ⟨p4, hp4⟩ : ∃ y, y = xs (i0 + 5).toNatClampNeg := ⟨_, rfl⟩
    refine lv_aload_n hx hb dL_law_1595 rfl (lv_at hl 1 rfl) ?_
    refine ld_1 hL hi0 hi6 hx hb hX hbl hbA hS hl dL_law_1596 dL_law_1597 dL_law_1598 dL_law_1599 dL_law_1600 hp0 ?_
    have b_1 : 0 ≤ (G.1 30 4).toInt ∧ (G.1 30 4).toInt ≤ 40 := bd_30_4 hB_G
    have b_2 : 0 ≤ (G.1 30 5).toInt ∧ (G.1 30 5).toInt ≤ 40 := bd_30_5 hB_G
    refine S_calli (va_runV (As := [.int p0]) (rest := []) ⟨hx, hb, hml, hown, hts⟩ (k_Wback l D k A a z G p0 (by omega)) (cwV 1 hts (gd_V hgd m1295 m1296 m1297 m117 m1298) rfl rfl rfl hd_X11_back ⟨Nat.le_of_ble_eq_true rfl, Nat.le_of_ble_eq_true rfl⟩) (pre_W hW hB_G hK hZ hS kd_0 rfl) rfl rfl hl.1 rfl (lv_room (Nat.le_of_ble_eq_true rfl)) dL_law_1601 ⟨Nat.le_of_ble_eq_true rfl, Nat.le_of_ble_eq_true rfl⟩) hS (fun r_3 G_4 H locs hpo hW hS => ?_)
    have hX_7 : P_Wback p0 G r_3 G_4 := hpo
    obtain ⟨hB_G_4, hq_5, hp_6, -⟩ := hpo
    refine lv_pop hx hb dL_law_1604 rfl ?_
    refine lv_aload_n hx hb dL_law_1605 rfl (lv_at hl 2 rfl) ?_
    refine ld_1 hL hi0 hi6 hx hb hX hbl hbA hS hl dL_law_1606 dL_law_1607 dL_law_1608 dL_law_1609 dL_law_1610 hp0 ?_
    have b_8 : 0 ≤ (G.1 66 78).toInt ∧ (G.1 66 78).toInt ≤ 40 := bd_66_78 hB_G
    have g_9 : (G_4.1 66 78).toInt = (G.1 66 78).toInt := (congrArg Int32.toInt (show G_4.1 66 78 = (G.1 66 78) from (hq_5.i9 66 78 rfl rfl)))
    have b_10 : 0 ≤ (G.1 66 79).toInt ∧ (G.1 66 79).toInt ≤ 40 := bd_66_79 hB_G
    have g_11 : (G_4.1 66 79).toInt = (G.1 66 79).toInt := (congrArg Int32.toInt (show G_4.1 66 79 = (G.1 66 79) from (hq_5.i9 66 79 rfl rfl)))
    refine S_calli (va_runV (As := [.int p0]) (rest := []) ⟨hx, hb, hml, hown, hts⟩ (n_back l D k A a z G_4 p0 (by omega)) (cwV 1 hts (gd_V hgd m2073 m2074 m2075 m131 m2076) rfl rfl rfl hd_X12_back ⟨Nat.le_of_ble_eq_true rfl, Nat.le_of_ble_eq_true rfl⟩) (pre_W hW hB_G_4 hK hZ hS kd_66 rfl) rfl rfl hl.1 rfl (lv_room (Nat.le_of_ble_eq_true rfl)) dL_law_1611 ⟨Nat.le_of_ble_eq_true rfl, Nat.le_of_ble_eq_true rfl⟩) hS (fun r_12 G_13 H locs hpo hW hS => ?_)
    have hX_16 : Q_back p0 G_4 r_12 G_13 := hpo
    obtain ⟨hB_G_13, hq_14, hp_15, -⟩ := hpo
    obtain ⟨u_17, u_18⟩ := L_back_2 hX_7 hX_16 rfl (by omega)
    refine lv_pop hx hb dL_law_1614 rfl ?_
    refine lv_goto (tgt := 1641) hx hb dL_law_1615 rfl ?_
    have fr_19 : Fr [110, 58, 59] [(30, 4), (30, 5), (66, 78), (66, 79)] G G_13 := (Fr.call9 (rs := [110, 58, 59]) (fs := [(30, 4), (30, 5), (66, 78), (66, 79)]) (Fr.call9 (rs := [110, 58, 59]) (fs := [(30, 4), (30, 5), (66, 78), (66, 79)]) Fr.rf hq_5 rfl rfl) hq_14 rfl rfl)
    have g_20 : gO G_13 = gO G := gO_fr fr_19 (gr_q rfl) (gf_q rfl)
    have g_21 : gP G_13 = gP G := gP_fr fr_19 (gr_q rfl) (gf_q rfl)
    have g_22 : gS G_13 = gS G := gS_fr fr_19 (gr_q rfl) (gf_q rfl)
    have g_23 : gTE G_13 = gTE G := gTE_fr fr_19 (gr_q rfl) (gf_q rfl)
    have g_24 : gW G_13 = gW G := gW_fr fr_19 (gr_q rfl) (gf_q rfl)
    have b_25 : 0 ≤ (G.1 0 11).toInt ∧ (G.1 0 11).toInt ≤ 1600 := bd_0_11 hB_G
    have g_26 : (G_13.1 0 11).toInt = (G.1 0 11).toInt := (congrArg Int32.toInt (show G_13.1 0 11 = (G.1 0 11) from ((hq_14.i9 0 11 rfl rfl).trans (hq_5.i9 0 11 rfl rfl))))
    have b_27 : 0 ≤ (G.1 3 7).toInt ∧ (G.1 3 7).toInt ≤ 4 := bd_3_7 hB_G
    have g_28 : (G_13.1 3 7).toInt = (G.1 3 7).toInt := (congrArg Int32.toInt (show G_13.1 3 7 = (G.1 3 7) from ((hq_14.i9 3 7 rfl rfl).trans (hq_5.i9 3 7 rfl rfl))))
    have b_29 : (-1) ≤ (G.1 3 8).toInt ∧ (G.1 3 8).toInt ≤ 1600 := bd_3_8 hB_G
    have g_30 : (G_13.1 3 8).toInt = (G.1 3 8).toInt := (congrArg Int32.toInt (show G_13.1 3 8 = (G.1 3 8) from ((hq_14.i9 3 8 rfl rfl).trans (hq_5.i9 3 8 rfl rfl))))
    have b_31 : 0 ≤ (G_4.1 30 4).toInt ∧ (G_4.1 30 4).toInt ≤ 40 := bd_30_4 hB_G_4
    have g_32 : (G_13.1 30 4).toInt = (G_4.1 30 4).toInt := (congrArg Int32.toInt (show G_13.1 30 4 = (G_4.1 30 4) from (hq_14.i9 30 4 rfl rfl)))
    have b_33 : 0 ≤ (G_4.1 30 5).toInt ∧ (G_4.1 30 5).toInt ≤ 40 := bd_30_5 hB_G_4
    have g_34 : (G_13.1 30 5).toInt = (G_4.1 30 5).toInt := (congrArg Int32.toInt (show G_13.1 30 5 = (G_4.1 30 5) from (hq_14.i9 30 5 rfl rfl)))
    have b_35 : 0 ≤ (G.1 31 6).toInt ∧ (G.1 31 6).toInt ≤ 100000 := bd_31_6 hB_G
    have g_36 : (G_13.1 31 6).toInt = (G.1 31 6).toInt := (congrArg Int32.toInt (show G_13.1 31 6 = (G.1 31 6) from ((hq_14.i9 31 6 rfl rfl).trans (hq_5.i9 31 6 rfl rfl))))
    have b_37 : 0 ≤ (G.1 66 1).toInt ∧ (G.1 66 1).toInt ≤ 1600 := bd_66_1 hB_G
    have g_38 : (G_13.1 66 1).toInt = (G.1 66 1).toInt := (congrArg Int32.toInt (show G_13.1 66 1 = (G.1 66 1) from ((hq_14.i9 66 1 rfl rfl).trans (hq_5.i9 66 1 rfl rfl))))
    have b_39 : 0 ≤ (G.1 66 2).toInt ∧ (G.1 66 2).toInt ≤ 4 := bd_66_2 hB_G
    have g_40 : (G_13.1 66 2).toInt = (G.1 66 2).toInt := (congrArg Int32.toInt (show G_13.1 66 2 = (G.1 66 2) from ((hq_14.i9 66 2 rfl rfl).trans (hq_5.i9 66 2 rfl rfl))))
    have b_41 : (-1) ≤ (G.1 66 3).toInt ∧ (G.1 66 3).toInt ≤ 1600 := bd_66_3 hB_G
    have g_42 : (G_13.1 66 3).toInt = (G.1 66 3).toInt := (congrArg Int32.toInt (show G_13.1 66 3 = (G.1 66 3) from ((hq_14.i9 66 3 rfl rfl).trans (hq_5.i9 66 3 rfl rfl))))
    have b_43 : 0 ≤ (G_13.1 66 78).toInt ∧ (G_13.1 66 78).toInt ≤ 40 := bd_66_78 hB_G_13
    have b_44 : 0 ≤ (G_13.1 66 79).toInt ∧ (G_13.1 66 79).toInt ≤ 40 := bd_66_79 hB_G_13
    have b_45 : 0 ≤ (G.1 66 86).toInt ∧ (G.1 66 86).toInt ≤ 100000 := bd_66_86 hB_G
    have g_46 : (G_13.1 66 86).toInt = (G.1 66 86).toInt := (congrArg Int32.toInt (show G_13.1 66 86 = (G.1 66 86) from ((hq_14.i9 66 86 rfl rfl).trans (hq_5.i9 66 86 rfl rfl))))
    have b_47 : 0 ≤ (G.1 96 0).toInt ∧ (G.1 96 0).toInt ≤ 9 := bd_96_0 hB_G
    have g_48 : (G_13.1 96 0).toInt = (G.1 96 0).toInt := (congrArg Int32.toInt (show G_13.1 96 0 = (G.1 96 0) from ((hq_14.i9 96 0 rfl rfl).trans (hq_5.i9 96 0 rfl rfl))))
    have b_49 : 0 ≤ (G.1 96 1).toInt ∧ (G.1 96 1).toInt ≤ 9 := bd_96_1 hB_G
    have g_50 : (G_13.1 96 1).toInt = (G.1 96 1).toInt := (congrArg Int32.toInt (show G_13.1 96 1 = (G.1 96 1) from ((hq_14.i9 96 1 rfl rfl).trans (hq_5.i9 96 1 rfl rfl))))
    have b_51 : 0 ≤ (G.1 96 2).toInt ∧ (G.1 96 2).toInt ≤ 9 := bd_96_2 hB_G
    have g_52 : (G_13.1 96 2).toInt = (G.1 96 2).toInt := (congrArg Int32.toInt (show G_13.1 96 2 = (G.1 96 2) from ((hq_14.i9 96 2 rfl rfl).trans (hq_5.i9 96 2 rfl rfl))))
    exact K G_13 _ _ _ (Or.inr ⟨((((hq_14.r9 0 0 rfl rfl).trans (hq_5.r9 0 0 rfl rfl))).trans (hv_0_0)), ((((hq_14.r9 0 1 rfl rfl).trans (hq_5.r9 0 1 rfl rfl))).trans (hv_0_1)), ((((hq_14.r9 6 4 rfl rfl).trans (hq_5.r9 6 4 rfl rfl))).trans (hv_6_4)), by omega, by omega, by omega, by omega, by omega, by omega, by omega, by omega, by omega, by omega, by omega, by omega, by omega⟩) hB_G_13 hW hS (lv_sub hl [0, 1, 2, 3] rfl)

set_option maxHeartbeats 4000000 in
set_option maxRecDepth 100000 in
theorem law_38 {p : Program} {l : Launch} {e : Env} {s : State} {m : MethodId} {below : List Frame} {meth : Method} {c : Code} {D : va_G} {k : KT} {A : Nat → Prop} {a : Nat → Nat} {z : SK} {b L : Nat} {xs : Nat → Int32} (hL : L ≤ 3072) (C0 : lw_At p s m meth c b L xs) (hK : cK D k s) (hZ : Sx A z s) (hbA : ¬ A b) {G : GS} {i0 : Int32} (hi0 : 0 ≤ i0.toInt) (hi6 : i0.toInt + 6 ≤ L) (hI : LI G) (hB_G : Bd G) {H : Heap} {locs : List Loc} {ls : Array Slot} (hW : Wd D k A a G H) (hS : va_S A s.heap H locs) (hl : lv_has ls 4 [(0, .ref b), (1, .ref (a 0)), (2, .ref (a 66)), (3, .int i0)]) (K : ∀ (G1 : GS) (H1 : Heap) (locs1 : List Loc) (ls1 : Array Slot), LI G1 → Bd G1 → Wd D k A a G1 H1 → va_S A s.heap H1 locs1 → lv_has ls1 4 [(0, .ref b), (1, .ref (a 0)), (2, .ref (a 66)), (3, .int i0)] → W p l e room_1 s m #[Value.ref b] below meth c H1 locs1 119 46443 (lw_Z below #[Value.ref b] s) (F0 m 1641 ls1 [])) : W p l e room_1 s m #[Value.ref b] below meth c H locs 119 46443 (lw_Z below #[Value.ref b] s) (F0 m 1618 ls []) := by
  obtain ⟨hx, hb, hr, hml, hown, hts, hX, hbl, hlocks, hgv⟩ := id C0
  have hown : s.vm.findClass RL = some m.cls := hown
  have hgd : ∀ w ∈ gd, w ∈ lw_tbl := fun w h => (List.mem_filter.mp h).1
  have hg : ∀ w ∈ gd, w.before #[Value.ref b] s = true := fun w h => hts w (hgd w h)
  rcases hI with ⟨hv_0_0, hv_0_1, hv_6_4, hj0, hj1, hj2, hj3, hj4, hj5, hj6, hj7, hj8, hj9, hj10, hj11, hj12⟩ | ⟨hv_0_0, hv_0_1, hv_6_4, hj0, hj1, hj2, hj3, hj4, hj5, hj6, hj7, hj8, hj9, hj10, hj11, hj12⟩
  · skip
    obtain ⟨p0, hp0⟩ : ∃ y, y = xs (i0 + 1).toNatClampNeg := ⟨_, rfl⟩
    obtain ⟨p1, hp1⟩ : ∃ y, y = xs (i0 + 2).toNatClampNeg := ⟨_, rfl⟩
    obtain ⟨p2, hp2⟩ : ∃ y, y = xs (i0 + 3).toNatClampNeg := ⟨_, rfl⟩
    obtain ⟨p3, hp3⟩ : ∃ y, y = xs (i0 + 4).toNatClampNeg := ⟨_, rfl⟩
    obtain ⟨p4, hp4⟩ : ∃ y, y = xs (i0 + 5).toNatClampNeg := ⟨_, rfl⟩
    refine lv_aload_n hx hb dL_law_1618 rfl (lv_at hl 1 rfl) ?_
    refine ld_1 hL hi0 hi6 hx hb hX hbl hbA hS hl dL_law_1619 dL_law_1620 dL_law_1621 dL_law_1622 dL_law_1623 hp0 ?_
    refine S_calli (va_runV (As := [.int p0]) (rest := []) ⟨hx, hb, hml, hown, hts⟩ (k_Wabout_1 l D k A a z G p0 hv_0_0 hv_0_1 hv_6_4) (cwV 1 hts (gd_V hgd m1303 m1304 m1305 m117 m1306) rfl rfl rfl hd_X11_about ⟨Nat.le_of_ble_eq_true rfl, Nat.le_of_ble_eq_true rfl⟩) (pre_W hW hB_G hK hZ hS kd_0 rfl) rfl rfl hl.1 rfl (lv_room (Nat.le_of_ble_eq_true rfl)) dL_law_1624 ⟨Nat.le_of_ble_eq_true rfl, Nat.le_of_ble_eq_true rfl⟩) hS (fun r_1 G_2 H locs hpo hW hS => ?_)
    have hX_5 : P_Wabout_1 p0 G r_1 G_2 := hpo
    obtain ⟨hB_G_2, hq_3, -⟩ := hpo
    refine lv_pop hx hb dL_law_1627 rfl ?_
    refine lv_aload_n hx hb dL_law_1628 rfl (lv_at hl 2 rfl) ?_
    refine ld_1 hL hi0 hi6 hx hb hX hbl hbA hS hl dL_law_1629 dL_law_1630 dL_law_1631 dL_law_1632 dL_law_1633 hp0 ?_
    refine S_calli (va_runV (As := [.int p0]) (rest := []) ⟨hx, hb, hml, hown, hts⟩ (n_about l D k A a z G_2 p0 ) (cwV 1 hts (gd_V hgd m2077 m2078 m2079 m131 m2080) rfl rfl rfl hd_X12_about ⟨Nat.le_of_ble_eq_true rfl, Nat.le_of_ble_eq_true rfl⟩) (pre_W hW hB_G_2 hK hZ hS kd_66 rfl) rfl rfl hl.1 rfl (lv_room (Nat.le_of_ble_eq_true rfl)) dL_law_1634 ⟨Nat.le_of_ble_eq_true rfl, Nat.le_of_ble_eq_true rfl⟩) hS (fun r_6 G_7 H locs hpo hW hS => ?_)
    have hX_10 : Q_about p0 G_2 r_6 G_7 := hpo
    obtain ⟨hB_G_7, hq_8, -⟩ := hpo
    refine lv_pop hx hb dL_law_1637 rfl ?_
    refine lv_goto (tgt := 1641) hx hb dL_law_1638 rfl ?_
    have fr_11 : Fr [] [] G G_7 := (Fr.call9 (rs := []) (fs := []) (Fr.call9 (rs := []) (fs := []) Fr.rf hq_3 rfl rfl) hq_8 rfl rfl)
    have g_12 : gIA G_7 = gIA G := gIA_fr fr_11 (gr_q rfl) (gf_q rfl)
    exact K G_7 _ _ _ (Or.inl (LI_of_1 (LIn_fr_1 (LIn_fr_1 (show LIn_1 G from ⟨hv_0_0, hv_0_1, hv_6_4, hj0, hj1, hj2, hj3, hj4, hj5, hj6, hj7, hj8, hj9, hj10, hj11⟩) hq_3 (by decide +kernel)) hq_8 (by decide +kernel)) (by omega))) hB_G_7 hW hS (lv_sub hl [0, 1, 2, 3] rfl)
  · skip
    obtain ⟨p0, hp0⟩ : ∃ y, y = xs (i0 + 1).toNatClampNeg := ⟨_, rfl⟩
    obtain ⟨p1, hp1⟩ : ∃ y, y = xs (i0 + 2).toNatClampNeg := ⟨_, rfl⟩
    obtain ⟨p2, hp2⟩ : ∃ y, y = xs (i0 + 3).toNatClampNeg := ⟨_, rfl⟩
    obtain ⟨p3, hp3⟩ : ∃ y, y = xs (i0 + 4).toNatClampNeg := ⟨_, rfl⟩
    obtain ⟨p4, hp4⟩ : ∃ y, y = xs (i0 + 5).toNatClampNeg := ⟨_, rfl⟩
    refine lv_aload_n hx hb dL_law_1618 rfl (lv_at hl 1 rfl) ?_
    refine ld_1 hL hi0 hi6 hx hb hX hbl hbA hS hl dL_law_1619 dL_law_1620 dL_law_1621 dL_law_1622 dL_law_1623 hp0 ?_
    refine S_calli (va_runV (As := [.int p0]) (rest := []) ⟨hx, hb, hml, hown, hts⟩ (k_Wabout_2 l D k A a z G p0 hv_0_0 hv_0_1 hv_6_4) (cwV 1 hts (gd_V hgd m1303 m1304 m1305 m117 m1306) rfl rfl rfl hd_X11_about ⟨Nat.le_of_ble_eq_true rfl, Nat.le_of_ble_eq_true rfl⟩) (pre_W hW hB_G hK hZ hS kd_0 rfl) rfl rfl hl.1 rfl (lv_room (Nat.le_of_ble_eq_true rfl)) dL_law_1624 ⟨Nat.le_of_ble_eq_true rfl, Nat.le_of_ble_eq_true rfl⟩) hS (fun r_1 G_2 H locs hpo hW hS => ?_)
    have hX_5 : P_Wabout_2 p0 G r_1 G_2 := hpo
    obtain ⟨hB_G_2, hq_3, -⟩ := hpo
    refine lv_pop hx hb dL_law_1627 rfl ?_
    refine lv_aload_n hx hb dL_law_1628 rfl (lv_at hl 2 rfl) ?_
    refine ld_1 hL hi0 hi6 hx hb hX hbl hbA hS hl dL_law_1629 dL_law_1630 dL_law_1631 dL_law_1632 dL_law_1633 hp0 ?_
    refine S_calli (va_runV (As := [.int p0]) (rest := []) ⟨hx, hb, hml, hown, hts⟩ (n_about l D k A a z G_2 p0 ) (cwV 1 hts (gd_V hgd m2077 m2078 m2079 m131 m2080) rfl rfl rfl hd_X12_about ⟨Nat.le_of_ble_eq_true rfl, Nat.le_of_ble_eq_true rfl⟩) (pre_W hW hB_G_2 hK hZ hS kd_66 rfl) rfl rfl hl.1 rfl (lv_room (Nat.le_of_ble_eq_true rfl)) dL_law_1634 ⟨Nat.le_of_ble_eq_true rfl, Nat.le_of_ble_eq_true rfl⟩) hS (fun r_6 G_7 H locs hpo hW hS => ?_)
    have hX_10 : Q_about p0 G_2 r_6 G_7 := hpo
    obtain ⟨hB_G_7, hq_8, -⟩ := hpo
    refine lv_pop hx hb dL_law_1637 rfl ?_
    refine lv_goto (tgt := 1641) hx hb dL_law_1638 rfl ?_
    have fr_11 : Fr [] [] G G_7 := (Fr.call9 (rs := []) (fs := []) (Fr.call9 (rs := []) (fs := []) Fr.rf hq_3 rfl rfl) hq_8 rfl rfl)
    have g_12 : gIB G_7 = gIB G := gIB_fr fr_11 (gr_q rfl) (gf_q rfl)
    exact K G_7 _ _ _ (Or.inr (LI_of_2 (LIn_fr_2 (LIn_fr_2 (show LIn_2 G from ⟨hv_0_0, hv_0_1, hv_6_4, hj0, hj1, hj2, hj3, hj4, hj5, hj6, hj7, hj8, hj9, hj10, hj11⟩) hq_3 (by decide +kernel)) hq_8 (by decide +kernel)) (by omega))) hB_G_7 hW hS (lv_sub hl [0, 1, 2, 3] rfl)
