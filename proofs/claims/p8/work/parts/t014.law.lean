theorem m1214 : Cond.methodLink RL 126 yX11_day ∈ gd := gdc_5_8 10 rfl gw_methodLink
theorem m1215 : Cond.instanceMethod yX11_day ∈ gd := gdc_5_8 11 rfl gw_instanceMethod
theorem m1216 : Cond.selects RX11 yX11_day yX11_day ∈ gd := gdc_5_8 12 rfl gw_selects
theorem m1217 : Cond.code yX11_day cX11_day 1 (some .int) ∈ gd := gdc_5_8 13 rfl gw_code
theorem m1218 : Cond.methodLink RL 130 yX11_undo ∈ gd := gdc_5_8 14 rfl gw_methodLink
theorem m1219 : Cond.instanceMethod yX11_undo ∈ gd := gdc_5_8 15 rfl gw_instanceMethod
theorem m1220 : Cond.selects RX11 yX11_undo yX11_undo ∈ gd := gdc_5_9 0 rfl gw_selects
theorem m1221 : Cond.code yX11_undo cX11_undo 1 (some .boolean) ∈ gd := gdc_5_9 1 rfl gw_code
theorem m1226 : Cond.methodLink RL 134 yX11_redo ∈ gd := gdc_5_9 6 rfl gw_methodLink
theorem m1227 : Cond.instanceMethod yX11_redo ∈ gd := gdc_5_9 7 rfl gw_instanceMethod
theorem m1228 : Cond.selects RX11 yX11_redo yX11_redo ∈ gd := gdc_5_9 8 rfl gw_selects
theorem m1229 : Cond.code yX11_redo cX11_redo 1 (some .boolean) ∈ gd := gdc_5_9 9 rfl gw_code
theorem m1234 : Cond.methodLink RL 138 yX11_walker ∈ gd := gdc_5_9 14 rfl gw_methodLink
theorem m1235 : Cond.instanceMethod yX11_walker ∈ gd := gdc_5_9 15 rfl gw_instanceMethod
theorem m1236 : Cond.selects RX11 yX11_walker yX11_walker ∈ gd := gdc_5_10 0 rfl gw_selects
theorem m1237 : Cond.code yX11_walker cX11_walker 2 (some .int) ∈ gd := gdc_5_10 1 rfl gw_code
theorem m1238 : Cond.methodLink RL 142 yX11_lies ∈ gd := gdc_5_10 2 rfl gw_methodLink
theorem m1239 : Cond.instanceMethod yX11_lies ∈ gd := gdc_5_10 3 rfl gw_instanceMethod
theorem m1240 : Cond.selects RX11 yX11_lies yX11_lies ∈ gd := gdc_5_10 4 rfl gw_selects
theorem m1241 : Cond.code yX11_lies cX11_lies 2 (some .int) ∈ gd := gdc_5_10 5 rfl gw_code
theorem m1242 : Cond.methodLink RL 146 yX11_sight ∈ gd := gdc_5_10 6 rfl gw_methodLink
theorem m1243 : Cond.instanceMethod yX11_sight ∈ gd := gdc_5_10 7 rfl gw_instanceMethod
theorem m1244 : Cond.selects RX11 yX11_sight yX11_sight ∈ gd := gdc_5_10 8 rfl gw_selects
theorem m1245 : Cond.code yX11_sight cX11_sight 4 (some .int) ∈ gd := gdc_5_10 9 rfl gw_code
theorem m2015 : Cond.methodLink RL 129 yX12_day ∈ gd := gdc_8_13 11 rfl gw_methodLink
theorem m2016 : Cond.instanceMethod yX12_day ∈ gd := gdc_8_13 12 rfl gw_instanceMethod
theorem m2017 : Cond.selects RX12 yX12_day yX12_day ∈ gd := gdc_8_13 13 rfl gw_selects
theorem m2018 : Cond.code yX12_day cX12_day 1 (some .int) ∈ gd := gdc_8_13 14 rfl gw_code
theorem m2019 : Cond.methodLink RL 133 yX12_undo ∈ gd := gdc_8_13 15 rfl gw_methodLink
theorem m2020 : Cond.instanceMethod yX12_undo ∈ gd := gdc_8_14 0 rfl gw_instanceMethod
theorem m2021 : Cond.selects RX12 yX12_undo yX12_undo ∈ gd := gdc_8_14 1 rfl gw_selects
theorem m2022 : Cond.code yX12_undo cX12_undo 1 (some .boolean) ∈ gd := gdc_8_14 2 rfl gw_code
theorem m2027 : Cond.methodLink RL 137 yX12_redo ∈ gd := gdc_8_14 7 rfl gw_methodLink
theorem m2028 : Cond.instanceMethod yX12_redo ∈ gd := gdc_8_14 8 rfl gw_instanceMethod
theorem m2029 : Cond.selects RX12 yX12_redo yX12_redo ∈ gd := gdc_8_14 9 rfl gw_selects
theorem m2030 : Cond.code yX12_redo cX12_redo 1 (some .boolean) ∈ gd := gdc_8_14 10 rfl gw_code
theorem m2031 : Cond.methodLink RL 141 yX12_walker ∈ gd := gdc_8_14 11 rfl gw_methodLink
theorem m2032 : Cond.instanceMethod yX12_walker ∈ gd := gdc_8_14 12 rfl gw_instanceMethod
theorem m2033 : Cond.selects RX12 yX12_walker yX12_walker ∈ gd := gdc_8_14 13 rfl gw_selects
theorem m2034 : Cond.code yX12_walker cX12_walker 2 (some .int) ∈ gd := gdc_8_14 14 rfl gw_code
theorem m2035 : Cond.methodLink RL 145 yX12_lies ∈ gd := gdc_8_14 15 rfl gw_methodLink
theorem m2036 : Cond.instanceMethod yX12_lies ∈ gd := gdc_9_0 0 rfl gw_instanceMethod
theorem m2037 : Cond.selects RX12 yX12_lies yX12_lies ∈ gd := gdc_9_0 1 rfl gw_selects
theorem m2038 : Cond.code yX12_lies cX12_lies 2 (some .int) ∈ gd := gdc_9_0 2 rfl gw_code
theorem m2039 : Cond.methodLink RL 149 yX12_sight ∈ gd := gdc_9_0 3 rfl gw_methodLink
theorem m2040 : Cond.instanceMethod yX12_sight ∈ gd := gdc_9_0 4 rfl gw_instanceMethod
theorem m2041 : Cond.selects RX12 yX12_sight yX12_sight ∈ gd := gdc_9_0 5 rfl gw_selects
theorem m2042 : Cond.code yX12_sight cX12_sight 4 (some .int) ∈ gd := gdc_9_0 6 rfl gw_code
def rbL_law_1332 : List (Nat × List Nat) := [(1332, [43]), (1333, [182, 0, 126]), (1336, [87]), (1337, [44]), (1338, [182, 0, 129]), (1341, [87]), (1342, [167, 1, 43]), (1345, [43]), (1346, [182, 0, 130]), (1349, [87]), (1350, [44]), (1351, [182, 0, 133]), (1354, [87]), (1355, [167, 1, 30]), (1358, [43]), (1359, [182, 0, 134]), (1362, [87]), (1363, [44]), (1364, [182, 0, 137]), (1367, [87]), (1368, [167, 1, 17]), (1371, [43]), (1372, [42]), (1373, [29])]
theorem rcL_law_1332 : dgo (lb cL_law) 0 rbL_law_1332 = true := by decide +kernel
theorem dL_law_1332 : decode cL_law 1332 = .ok (.aload_n 1, 1) := dk_43 (dw rcL_law_1332 0 rfl)
theorem dL_law_1333 : decode cL_law 1333 = .ok (.invokevirtual 126, 3) := dk_182 (dw rcL_law_1332 1 rfl) rfl
theorem dL_law_1336 : decode cL_law 1336 = .ok (.pop, 1) := dk_87 (dw rcL_law_1332 2 rfl)
theorem dL_law_1337 : decode cL_law 1337 = .ok (.aload_n 2, 1) := dk_44 (dw rcL_law_1332 3 rfl)
theorem dL_law_1338 : decode cL_law 1338 = .ok (.invokevirtual 129, 3) := dk_182 (dw rcL_law_1332 4 rfl) rfl
theorem dL_law_1341 : decode cL_law 1341 = .ok (.pop, 1) := dk_87 (dw rcL_law_1332 5 rfl)
theorem dL_law_1342 : decode cL_law 1342 = .ok (.goto 299, 3) := dk_167 (dw rcL_law_1332 6 rfl) rfl
theorem dL_law_1345 : decode cL_law 1345 = .ok (.aload_n 1, 1) := dk_43 (dw rcL_law_1332 7 rfl)
theorem dL_law_1346 : decode cL_law 1346 = .ok (.invokevirtual 130, 3) := dk_182 (dw rcL_law_1332 8 rfl) rfl
theorem dL_law_1349 : decode cL_law 1349 = .ok (.pop, 1) := dk_87 (dw rcL_law_1332 9 rfl)
theorem dL_law_1350 : decode cL_law 1350 = .ok (.aload_n 2, 1) := dk_44 (dw rcL_law_1332 10 rfl)
theorem dL_law_1351 : decode cL_law 1351 = .ok (.invokevirtual 133, 3) := dk_182 (dw rcL_law_1332 11 rfl) rfl
theorem dL_law_1354 : decode cL_law 1354 = .ok (.pop, 1) := dk_87 (dw rcL_law_1332 12 rfl)
theorem dL_law_1355 : decode cL_law 1355 = .ok (.goto 286, 3) := dk_167 (dw rcL_law_1332 13 rfl) rfl
theorem dL_law_1358 : decode cL_law 1358 = .ok (.aload_n 1, 1) := dk_43 (dw rcL_law_1332 14 rfl)
theorem dL_law_1359 : decode cL_law 1359 = .ok (.invokevirtual 134, 3) := dk_182 (dw rcL_law_1332 15 rfl) rfl
theorem dL_law_1362 : decode cL_law 1362 = .ok (.pop, 1) := dk_87 (dw rcL_law_1332 16 rfl)
theorem dL_law_1363 : decode cL_law 1363 = .ok (.aload_n 2, 1) := dk_44 (dw rcL_law_1332 17 rfl)
theorem dL_law_1364 : decode cL_law 1364 = .ok (.invokevirtual 137, 3) := dk_182 (dw rcL_law_1332 18 rfl) rfl
theorem dL_law_1367 : decode cL_law 1367 = .ok (.pop, 1) := dk_87 (dw rcL_law_1332 19 rfl)
theorem dL_law_1368 : decode cL_law 1368 = .ok (.goto 273, 3) := dk_167 (dw rcL_law_1332 20 rfl) rfl
theorem dL_law_1371 : decode cL_law 1371 = .ok (.aload_n 1, 1) := dk_43 (dw rcL_law_1332 21 rfl)
theorem dL_law_1372 : decode cL_law 1372 = .ok (.aload_n 0, 1) := dk_42 (dw rcL_law_1332 22 rfl)
theorem dL_law_1373 : decode cL_law 1373 = .ok (.iload_n 3, 1) := dk_29 (dw rcL_law_1332 23 rfl)
def rbL_law_1374 : List (Nat × List Nat) := [(1374, [4]), (1375, [96]), (1376, [46]), (1377, [182, 0, 138]), (1380, [87]), (1381, [44]), (1382, [42]), (1383, [29]), (1384, [4]), (1385, [96]), (1386, [46]), (1387, [182, 0, 141]), (1390, [87]), (1391, [167, 0, 250]), (1394, [43]), (1395, [42]), (1396, [29]), (1397, [4]), (1398, [96]), (1399, [46]), (1400, [182, 0, 142]), (1403, [87]), (1404, [44]), (1405, [42])]
theorem rcL_law_1374 : dgo (lb cL_law) 0 rbL_law_1374 = true := by decide +kernel
theorem dL_law_1374 : decode cL_law 1374 = .ok (.iconst 1, 1) := dk_4 (dw rcL_law_1374 0 rfl)
theorem dL_law_1375 : decode cL_law 1375 = .ok (.iadd, 1) := dk_96 (dw rcL_law_1374 1 rfl)
theorem dL_law_1376 : decode cL_law 1376 = .ok (.iaload, 1) := dk_46 (dw rcL_law_1374 2 rfl)
theorem dL_law_1377 : decode cL_law 1377 = .ok (.invokevirtual 138, 3) := dk_182 (dw rcL_law_1374 3 rfl) rfl
theorem dL_law_1380 : decode cL_law 1380 = .ok (.pop, 1) := dk_87 (dw rcL_law_1374 4 rfl)
theorem dL_law_1381 : decode cL_law 1381 = .ok (.aload_n 2, 1) := dk_44 (dw rcL_law_1374 5 rfl)
theorem dL_law_1382 : decode cL_law 1382 = .ok (.aload_n 0, 1) := dk_42 (dw rcL_law_1374 6 rfl)
theorem dL_law_1383 : decode cL_law 1383 = .ok (.iload_n 3, 1) := dk_29 (dw rcL_law_1374 7 rfl)
theorem dL_law_1384 : decode cL_law 1384 = .ok (.iconst 1, 1) := dk_4 (dw rcL_law_1374 8 rfl)
theorem dL_law_1385 : decode cL_law 1385 = .ok (.iadd, 1) := dk_96 (dw rcL_law_1374 9 rfl)
theorem dL_law_1386 : decode cL_law 1386 = .ok (.iaload, 1) := dk_46 (dw rcL_law_1374 10 rfl)
theorem dL_law_1387 : decode cL_law 1387 = .ok (.invokevirtual 141, 3) := dk_182 (dw rcL_law_1374 11 rfl) rfl
theorem dL_law_1390 : decode cL_law 1390 = .ok (.pop, 1) := dk_87 (dw rcL_law_1374 12 rfl)
theorem dL_law_1391 : decode cL_law 1391 = .ok (.goto 250, 3) := dk_167 (dw rcL_law_1374 13 rfl) rfl
theorem dL_law_1394 : decode cL_law 1394 = .ok (.aload_n 1, 1) := dk_43 (dw rcL_law_1374 14 rfl)
theorem dL_law_1395 : decode cL_law 1395 = .ok (.aload_n 0, 1) := dk_42 (dw rcL_law_1374 15 rfl)
theorem dL_law_1396 : decode cL_law 1396 = .ok (.iload_n 3, 1) := dk_29 (dw rcL_law_1374 16 rfl)
theorem dL_law_1397 : decode cL_law 1397 = .ok (.iconst 1, 1) := dk_4 (dw rcL_law_1374 17 rfl)
theorem dL_law_1398 : decode cL_law 1398 = .ok (.iadd, 1) := dk_96 (dw rcL_law_1374 18 rfl)
theorem dL_law_1399 : decode cL_law 1399 = .ok (.iaload, 1) := dk_46 (dw rcL_law_1374 19 rfl)
theorem dL_law_1400 : decode cL_law 1400 = .ok (.invokevirtual 142, 3) := dk_182 (dw rcL_law_1374 20 rfl) rfl
theorem dL_law_1403 : decode cL_law 1403 = .ok (.pop, 1) := dk_87 (dw rcL_law_1374 21 rfl)
theorem dL_law_1404 : decode cL_law 1404 = .ok (.aload_n 2, 1) := dk_44 (dw rcL_law_1374 22 rfl)
theorem dL_law_1405 : decode cL_law 1405 = .ok (.aload_n 0, 1) := dk_42 (dw rcL_law_1374 23 rfl)
def rbL_law_1406 : List (Nat × List Nat) := [(1406, [29]), (1407, [4]), (1408, [96]), (1409, [46]), (1410, [182, 0, 145]), (1413, [87]), (1414, [167, 0, 227]), (1417, [43]), (1418, [42]), (1419, [29]), (1420, [4]), (1421, [96]), (1422, [46]), (1423, [42]), (1424, [29]), (1425, [5]), (1426, [96]), (1427, [46]), (1428, [42]), (1429, [29]), (1430, [6]), (1431, [96]), (1432, [46]), (1433, [182, 0, 146])]
theorem rcL_law_1406 : dgo (lb cL_law) 0 rbL_law_1406 = true := by decide +kernel
theorem dL_law_1406 : decode cL_law 1406 = .ok (.iload_n 3, 1) := dk_29 (dw rcL_law_1406 0 rfl)
theorem dL_law_1407 : decode cL_law 1407 = .ok (.iconst 1, 1) := dk_4 (dw rcL_law_1406 1 rfl)
theorem dL_law_1408 : decode cL_law 1408 = .ok (.iadd, 1) := dk_96 (dw rcL_law_1406 2 rfl)
theorem dL_law_1409 : decode cL_law 1409 = .ok (.iaload, 1) := dk_46 (dw rcL_law_1406 3 rfl)
theorem dL_law_1410 : decode cL_law 1410 = .ok (.invokevirtual 145, 3) := dk_182 (dw rcL_law_1406 4 rfl) rfl
theorem dL_law_1413 : decode cL_law 1413 = .ok (.pop, 1) := dk_87 (dw rcL_law_1406 5 rfl)
theorem dL_law_1414 : decode cL_law 1414 = .ok (.goto 227, 3) := dk_167 (dw rcL_law_1406 6 rfl) rfl
theorem dL_law_1417 : decode cL_law 1417 = .ok (.aload_n 1, 1) := dk_43 (dw rcL_law_1406 7 rfl)
theorem dL_law_1418 : decode cL_law 1418 = .ok (.aload_n 0, 1) := dk_42 (dw rcL_law_1406 8 rfl)
theorem dL_law_1419 : decode cL_law 1419 = .ok (.iload_n 3, 1) := dk_29 (dw rcL_law_1406 9 rfl)
theorem dL_law_1420 : decode cL_law 1420 = .ok (.iconst 1, 1) := dk_4 (dw rcL_law_1406 10 rfl)
theorem dL_law_1421 : decode cL_law 1421 = .ok (.iadd, 1) := dk_96 (dw rcL_law_1406 11 rfl)
theorem dL_law_1422 : decode cL_law 1422 = .ok (.iaload, 1) := dk_46 (dw rcL_law_1406 12 rfl)
theorem dL_law_1423 : decode cL_law 1423 = .ok (.aload_n 0, 1) := dk_42 (dw rcL_law_1406 13 rfl)
theorem dL_law_1424 : decode cL_law 1424 = .ok (.iload_n 3, 1) := dk_29 (dw rcL_law_1406 14 rfl)
theorem dL_law_1425 : decode cL_law 1425 = .ok (.iconst 2, 1) := dk_5 (dw rcL_law_1406 15 rfl)
theorem dL_law_1426 : decode cL_law 1426 = .ok (.iadd, 1) := dk_96 (dw rcL_law_1406 16 rfl)
theorem dL_law_1427 : decode cL_law 1427 = .ok (.iaload, 1) := dk_46 (dw rcL_law_1406 17 rfl)
theorem dL_law_1428 : decode cL_law 1428 = .ok (.aload_n 0, 1) := dk_42 (dw rcL_law_1406 18 rfl)
theorem dL_law_1429 : decode cL_law 1429 = .ok (.iload_n 3, 1) := dk_29 (dw rcL_law_1406 19 rfl)
theorem dL_law_1430 : decode cL_law 1430 = .ok (.iconst 3, 1) := dk_6 (dw rcL_law_1406 20 rfl)
theorem dL_law_1431 : decode cL_law 1431 = .ok (.iadd, 1) := dk_96 (dw rcL_law_1406 21 rfl)
theorem dL_law_1432 : decode cL_law 1432 = .ok (.iaload, 1) := dk_46 (dw rcL_law_1406 22 rfl)
theorem dL_law_1433 : decode cL_law 1433 = .ok (.invokevirtual 146, 3) := dk_182 (dw rcL_law_1406 23 rfl) rfl
def rbL_law_1436 : List (Nat × List Nat) := [(1436, [87]), (1437, [44]), (1438, [42]), (1439, [29]), (1440, [4]), (1441, [96]), (1442, [46]), (1443, [42]), (1444, [29]), (1445, [5]), (1446, [96]), (1447, [46]), (1448, [42]), (1449, [29]), (1450, [6]), (1451, [96]), (1452, [46]), (1453, [182, 0, 149]), (1456, [87]), (1457, [167, 0, 184])]
theorem rcL_law_1436 : dgo (lb cL_law) 0 rbL_law_1436 = true := by decide +kernel
theorem dL_law_1436 : decode cL_law 1436 = .ok (.pop, 1) := dk_87 (dw rcL_law_1436 0 rfl)
theorem dL_law_1437 : decode cL_law 1437 = .ok (.aload_n 2, 1) := dk_44 (dw rcL_law_1436 1 rfl)
theorem dL_law_1438 : decode cL_law 1438 = .ok (.aload_n 0, 1) := dk_42 (dw rcL_law_1436 2 rfl)
theorem dL_law_1439 : decode cL_law 1439 = .ok (.iload_n 3, 1) := dk_29 (dw rcL_law_1436 3 rfl)
theorem dL_law_1440 : decode cL_law 1440 = .ok (.iconst 1, 1) := dk_4 (dw rcL_law_1436 4 rfl)
theorem dL_law_1441 : decode cL_law 1441 = .ok (.iadd, 1) := dk_96 (dw rcL_law_1436 5 rfl)
theorem dL_law_1442 : decode cL_law 1442 = .ok (.iaload, 1) := dk_46 (dw rcL_law_1436 6 rfl)
theorem dL_law_1443 : decode cL_law 1443 = .ok (.aload_n 0, 1) := dk_42 (dw rcL_law_1436 7 rfl)
theorem dL_law_1444 : decode cL_law 1444 = .ok (.iload_n 3, 1) := dk_29 (dw rcL_law_1436 8 rfl)
theorem dL_law_1445 : decode cL_law 1445 = .ok (.iconst 2, 1) := dk_5 (dw rcL_law_1436 9 rfl)
theorem dL_law_1446 : decode cL_law 1446 = .ok (.iadd, 1) := dk_96 (dw rcL_law_1436 10 rfl)
theorem dL_law_1447 : decode cL_law 1447 = .ok (.iaload, 1) := dk_46 (dw rcL_law_1436 11 rfl)
theorem dL_law_1448 : decode cL_law 1448 = .ok (.aload_n 0, 1) := dk_42 (dw rcL_law_1436 12 rfl)
theorem dL_law_1449 : decode cL_law 1449 = .ok (.iload_n 3, 1) := dk_29 (dw rcL_law_1436 13 rfl)
theorem dL_law_1450 : decode cL_law 1450 = .ok (.iconst 3, 1) := dk_6 (dw rcL_law_1436 14 rfl)
theorem dL_law_1451 : decode cL_law 1451 = .ok (.iadd, 1) := dk_96 (dw rcL_law_1436 15 rfl)
theorem dL_law_1452 : decode cL_law 1452 = .ok (.iaload, 1) := dk_46 (dw rcL_law_1436 16 rfl)
theorem dL_law_1453 : decode cL_law 1453 = .ok (.invokevirtual 149, 3) := dk_182 (dw rcL_law_1436 17 rfl) rfl
theorem dL_law_1456 : decode cL_law 1456 = .ok (.pop, 1) := dk_87 (dw rcL_law_1436 18 rfl)
theorem dL_law_1457 : decode cL_law 1457 = .ok (.goto 184, 3) := dk_167 (dw rcL_law_1436 19 rfl) rfl
set_option maxHeartbeats 4000000 in
set_option maxRecDepth 100000 in
theorem law_26 {p : Program} {l : Launch} {e : Env} {s : State} {m : MethodId} {below : List Frame} {meth : Method} {c : Code} {D : va_G} {k : KT} {A : Nat → Prop} {a : Nat → Nat} {z : SK} {b L : Nat} {xs : Nat → Int32} (hL : L ≤ 3072) (C0 : lw_At p s m meth c b L xs) (hK : cK D k s) (hZ : Sx A z s) (hbA : ¬ A b) {G : GS} {i0 : Int32} (hi0 : 0 ≤ i0.toInt) (hi6 : i0.toInt + 6 ≤ L) (hI : LI G) (hB_G : Bd G) {H : Heap} {locs : List Loc} {ls : Array Slot} (hW : Wd D k A a G H) (hS : va_S A s.heap H locs) (hl : lv_has ls 4 [(0, .ref b), (1, .ref (a 0)), (2, .ref (a 66)), (3, .int i0)]) (K : ∀ (G1 : GS) (H1 : Heap) (locs1 : List Loc) (ls1 : Array Slot), LI G1 → Bd G1 → Wd D k A a G1 H1 → va_S A s.heap H1 locs1 → lv_has ls1 4 [(0, .ref b), (1, .ref (a 0)), (2, .ref (a 66)), (3, .int i0)] → W p l e room_1 s m #[Value.ref b] below meth c H1 locs1 119 46443 (lw_Z below #[Value.ref b] s) (F0 m 1641 ls1 [])) : W p l e room_1 s m #[Value.ref b] below meth c H locs 119 46443 (lw_Z below #[Value.ref b] s) (F0 m 1332 ls []) := by
  obtain ⟨hx, hb, hr, hml, hown, hts, hX, hbl, hlocks, hgv⟩ := id C0
  have hown : s.vm.findClass RL = some m.cls := hown
  have hgd : ∀ w ∈ gd, w ∈ lw_tbl := fun w h => (List.mem_filter.mp h).1
  have hg : ∀ w ∈ gd, w.before #[Value.ref b] s = true := fun w h => hts w (hgd w h)
  rcases hI with ⟨hv_0_0, hv_0_1, hv_6_4, hj0, hj1, hj2, hj3, hj4, hj5, hj6, hj7, hj8, hj9, hj10, hj11, hj12⟩ | ⟨hv_0_0, hv_0_1, hv_6_4, hj0, hj1, hj2, hj3, hj4, hj5, hj6, hj7, hj8, hj9, hj10, hj11, hj12⟩
  · skip
    obtain ⟨p0, hp0⟩ : ∃ y, y = xs (i0 + 1).toNatClampNeg := ⟨_, rfl⟩
    obtain ⟨p1, hp1⟩ : ∃ y, y = xs (i0 + 2).toNatClampNeg := ⟨_, rfl⟩
    obtain ⟨p2, hp2⟩ : ∃ y, y = xs (i0 + 3).toNatClampNeg := ⟨_, rfl⟩
    obtain ⟨p3, hp3⟩ : ∃ y, y = xs (i0 + 4).toNatClampNeg := ⟨_, rfl⟩
    obtain ⟨p4, hp4⟩ : ∃ y, y = xs (i0 + 5).toNatClampNeg := ⟨_, rfl⟩
    refine lv_aload_n hx hb dL_law_1332 rfl (lv_at hl 1 rfl) ?_
    have b_1 : 0 ≤ (G.1 30 4).toInt ∧ (G.1 30 4).toInt ≤ 40 := bd_30_4 hB_G
    have b_2 : 0 ≤ (G.1 30 5).toInt ∧ (G.1 30 5).toInt ≤ 40 := bd_30_5 hB_G
    refine S_calli (va_runV (As := []) (rest := []) ⟨hx, hb, hml, hown, hts⟩ (k_Wday l D k A a z G  (by omega)) (cwV 0 hts (gd_V hgd m1214 m1215 m1216 m117 m1217) rfl rfl rfl hd_X11_day ⟨Nat.le_of_ble_eq_true rfl, Nat.le_of_ble_eq_true rfl⟩) (pre_W hW hB_G hK hZ hS kd_0 rfl) rfl rfl hl.1 rfl (lv_room (Nat.le_of_ble_eq_true rfl)) dL_law_1333 ⟨Nat.le_of_ble_eq_true rfl, Nat.le_of_ble_eq_true rfl⟩) hS (fun r_3 G_4 H locs hpo hW hS => ?_)
    have hX_7 : P_Wday G r_3 G_4 := hpo
    obtain ⟨hB_G_4, hq_5, hp_6, -⟩ := hpo
    refine lv_pop hx hb dL_law_1336 rfl ?_
    refine lv_aload_n hx hb dL_law_1337 rfl (lv_at hl 2 rfl) ?_
    have b_8 : 0 ≤ (G.1 66 78).toInt ∧ (G.1 66 78).toInt ≤ 40 := bd_66_78 hB_G
    have g_9 : (G_4.1 66 78).toInt = (G.1 66 78).toInt := (congrArg Int32.toInt (show G_4.1 66 78 = (G.1 66 78) from (hq_5.i9 66 78 rfl rfl)))
    have b_10 : 0 ≤ (G.1 66 79).toInt ∧ (G.1 66 79).toInt ≤ 40 := bd_66_79 hB_G
    have g_11 : (G_4.1 66 79).toInt = (G.1 66 79).toInt := (congrArg Int32.toInt (show G_4.1 66 79 = (G.1 66 79) from (hq_5.i9 66 79 rfl rfl)))
    refine S_calli (va_runV (As := []) (rest := []) ⟨hx, hb, hml, hown, hts⟩ (n_day l D k A a z G_4  (by omega)) (cwV 0 hts (gd_V hgd m2015 m2016 m2017 m131 m2018) rfl rfl rfl hd_X12_day ⟨Nat.le_of_ble_eq_true rfl, Nat.le_of_ble_eq_true rfl⟩) (pre_W hW hB_G_4 hK hZ hS kd_66 rfl) rfl rfl hl.1 rfl (lv_room (Nat.le_of_ble_eq_true rfl)) dL_law_1338 ⟨Nat.le_of_ble_eq_true rfl, Nat.le_of_ble_eq_true rfl⟩) hS (fun r_12 G_13 H locs hpo hW hS => ?_)
    have hX_16 : Q_day G_4 r_12 G_13 := hpo
    obtain ⟨hB_G_13, hq_14, hp_15, -⟩ := hpo
    obtain ⟨u_17, u_18⟩ := L_day_1 hX_7 hX_16  (by omega)
    refine lv_pop hx hb dL_law_1341 rfl ?_
    refine lv_goto (tgt := 1641) hx hb dL_law_1342 rfl ?_
    have fr_19 : Fr [110, 111, 58, 59] [(30, 4), (30, 5), (66, 78), (66, 79)] G G_13 := (Fr.call9 (rs := [110, 111, 58, 59]) (fs := [(30, 4), (30, 5), (66, 78), (66, 79)]) (Fr.call9 (rs := [110, 111, 58, 59]) (fs := [(30, 4), (30, 5), (66, 78), (66, 79)]) Fr.rf hq_5 rfl rfl) hq_14 rfl rfl)
    have g_20 : gO G_13 = gO G := gO_fr fr_19 (gr_q rfl) (gf_q rfl)
    have g_21 : gP G_13 = gP G := gP_fr fr_19 (gr_q rfl) (gf_q rfl)
    have g_22 : gS G_13 = gS G := gS_fr fr_19 (gr_q rfl) (gf_q rfl)
    have g_23 : gTE G_13 = gTE G := gTE_fr fr_19 (gr_q rfl) (gf_q rfl)
    have g_24 : gW G_13 = gW G := gW_fr fr_19 (gr_q rfl) (gf_q rfl)
    have b_25 : 0 ≤ (G.1 0 11).toInt ∧ (G.1 0 11).toInt ≤ 1600 := bd_0_11 hB_G
    have g_26 : (G_13.1 0 11).toInt = (G.1 0 11).toInt := (congrArg Int32.toInt (show G_13.1 0 11 = (G.1 0 11) from ((hq_14.i9 0 11 rfl rfl).trans (hq_5.i9 0 11 rfl rfl))))
    have b_27 : 0 ≤ (G.1 3 7).toInt ∧ (G.1 3 7).toInt ≤ 4 := bd_3_7 hB_G
    have g_28 : (G_13.1 3 7).toInt = (G.1 3 7).toInt := (congrArg Int32.toInt (show G_13.1 3 7 = (G.1 3 7) from ((hq_14.i9 3 7 rfl rfl).trans (hq_5.i9 3 7 rfl rfl))))
    have b_29 : (-1) ≤ (G.1 3 8).toInt ∧ (G.1 3 8).toInt ≤ 1600 := bd_3_8 hB_G
    have g_30 : (G_13.1 3 8).toInt = (G.1 3 8).toInt := (congrArg Int32.toInt (show G_13.1 3 8 = (G.1 3 8) from ((hq_14.i9 3 8 rfl rfl).trans (hq_5.i9 3 8 rfl rfl))))
    have b_31 : 0 ≤ (G_4.1 30 4).toInt ∧ (G_4.1 30 4).toInt ≤ 40 := bd_30_4 hB_G_4
    have g_32 : (G_13.1 30 4).toInt = (G_4.1 30 4).toInt := (congrArg Int32.toInt (show G_13.1 30 4 = (G_4.1 30 4) from (hq_14.i9 30 4 rfl rfl)))
    have b_33 : 0 ≤ (G_4.1 30 5).toInt ∧ (G_4.1 30 5).toInt ≤ 40 := bd_30_5 hB_G_4
    have g_34 : (G_13.1 30 5).toInt = (G_4.1 30 5).toInt := (congrArg Int32.toInt (show G_13.1 30 5 = (G_4.1 30 5) from (hq_14.i9 30 5 rfl rfl)))
    have b_35 : 0 ≤ (G.1 31 6).toInt ∧ (G.1 31 6).toInt ≤ 100000 := bd_31_6 hB_G
    have g_36 : (G_13.1 31 6).toInt = (G.1 31 6).toInt := (congrArg Int32.toInt (show G_13.1 31 6 = (G.1 31 6) from ((hq_14.i9 31 6 rfl rfl).trans (hq_5.i9 31 6 rfl rfl))))
    have b_37 : 0 ≤ (G.1 66 1).toInt ∧ (G.1 66 1).toInt ≤ 1600 := bd_66_1 hB_G
    have g_38 : (G_13.1 66 1).toInt = (G.1 66 1).toInt := (congrArg Int32.toInt (show G_13.1 66 1 = (G.1 66 1) from ((hq_14.i9 66 1 rfl rfl).trans (hq_5.i9 66 1 rfl rfl))))
    have b_39 : 0 ≤ (G.1 66 2).toInt ∧ (G.1 66 2).toInt ≤ 4 := bd_66_2 hB_G
    have g_40 : (G_13.1 66 2).toInt = (G.1 66 2).toInt := (congrArg Int32.toInt (show G_13.1 66 2 = (G.1 66 2) from ((hq_14.i9 66 2 rfl rfl).trans (hq_5.i9 66 2 rfl rfl))))
    have b_41 : (-1) ≤ (G.1 66 3).toInt ∧ (G.1 66 3).toInt ≤ 1600 := bd_66_3 hB_G
    have g_42 : (G_13.1 66 3).toInt = (G.1 66 3).toInt := (congrArg Int32.toInt (show G_13.1 66 3 = (G.1 66 3) from ((hq_14.i9 66 3 rfl rfl).trans (hq_5.i9 66 3 rfl rfl))))
    have b_43 : 0 ≤ (G_13.1 66 78).toInt ∧ (G_13.1 66 78).toInt ≤ 40 := bd_66_78 hB_G_13
    have b_44 : 0 ≤ (G_13.1 66 79).toInt ∧ (G_13.1 66 79).toInt ≤ 40 := bd_66_79 hB_G_13
    have b_45 : 0 ≤ (G.1 66 86).toInt ∧ (G.1 66 86).toInt ≤ 100000 := bd_66_86 hB_G
    have g_46 : (G_13.1 66 86).toInt = (G.1 66 86).toInt := (congrArg Int32.toInt (show G_13.1 66 86 = (G.1 66 86) from ((hq_14.i9 66 86 rfl rfl).trans (hq_5.i9 66 86 rfl rfl))))
    have b_47 : 0 ≤ (G.1 96 0).toInt ∧ (G.1 96 0).toInt ≤ 9 := bd_96_0 hB_G
    have g_48 : (G_13.1 96 0).toInt = (G.1 96 0).toInt := (congrArg Int32.toInt (show G_13.1 96 0 = (G.1 96 0) from ((hq_14.i9 96 0 rfl rfl).trans (hq_5.i9 96 0 rfl rfl))))
    have b_49 : 0 ≤ (G.1 96 1).toInt ∧ (G.1 96 1).toInt ≤ 9 := bd_96_1 hB_G
    have g_50 : (G_13.1 96 1).toInt = (G.1 96 1).toInt := (congrArg Int32.toInt (show G_13.1 96 1 = (G.1 96 1) from ((hq_14.i9 96 1 rfl rfl).trans (hq_5.i9 96 1 rfl rfl))))
    have b_51 : 0 ≤ (G.1 96 2).toInt ∧ (G.1 96 2).toInt ≤ 9 := bd_96_2 hB_G
    have g_52 : (G_13.1 96 2).toInt = (G.1 96 2).toInt := (congrArg Int32.toInt (show G_13.1 96 2 = (G.1 96 2) from ((hq_14.i9 96 2 rfl rfl).trans (hq_5.i9 96 2 rfl rfl))))
    exact K G_13 _ _ _ (Or.inl ⟨((((hq_14.r9 0 0 rfl rfl).trans (hq_5.r9 0 0 rfl rfl))).trans (hv_0_0)), ((((hq_14.r9 0 1 rfl rfl).trans (hq_5.r9 0 1 rfl rfl))).trans (hv_0_1)), ((((hq_14.r9 6 4 rfl rfl).trans (hq_5.r9 6 4 rfl rfl))).trans (hv_6_4)), by omega, by omega, by omega, by omega, by omega, by omega, by omega, by omega, by omega, by omega, by omega, by omega, by omega⟩) hB_G_13 hW hS (lv_sub hl [0, 1, 2, 3] rfl)
  · skip
    obtain ⟨p0, hp0⟩ : ∃ y, y = xs (i0 + 1).toNatClampNeg := ⟨_, rfl⟩
    obtain ⟨p1, hp1⟩ : ∃ y, y = xs (i0 + 2).toNatClampNeg := ⟨_, rfl⟩
    obtain ⟨p2, hp2⟩ : ∃ y, y = xs (i0 + 3).toNatClampNeg := ⟨_, rfl⟩
    obtain ⟨p3, hp3⟩ : ∃ y, y = xs (i0 + 4).toNatClampNeg := ⟨_, rfl⟩
    obtain ⟨p4, hp4⟩ : ∃ y, y = xs (i0 + 5).toNatClampNeg := ⟨_, rfl⟩
    refine lv_aload_n hx hb dL_law_1332 rfl (lv_at hl 1 rfl) ?_
    have b_1 : 0 ≤ (G.1 30 4).toInt ∧ (G.1 30 4).toInt ≤ 40 := bd_30_4 hB_G
    have b_2 : 0 ≤ (G.1 30 5).toInt ∧ (G.1 30 5).toInt ≤ 40 := bd_30_5 hB_G
    refine S_calli (va_runV (As := []) (rest := []) ⟨hx, hb, hml, hown, hts⟩ (k_Wday l D k A a z G  (by omega)) (cwV 0 hts (gd_V hgd m1214 m1215 m1216 m117 m1217) rfl rfl rfl hd_X11_day ⟨Nat.le_of_ble_eq_true rfl, Nat.le_of_ble_eq_true rfl⟩) (pre_W hW hB_G hK hZ hS kd_0 rfl) rfl rfl hl.1 rfl (lv_room (Nat.le_of_ble_eq_true rfl)) dL_law_1333 ⟨Nat.le_of_ble_eq_true rfl, Nat.le_of_ble_eq_true rfl⟩) hS (fun r_3 G_4 H locs hpo hW hS => ?_)
    have hX_7 : P_Wday G r_3 G_4 := hpo
    obtain ⟨hB_G_4, hq_5, hp_6, -⟩ := hpo
    refine lv_pop hx hb dL_law_1336 rfl ?_
    refine lv_aload_n hx hb dL_law_1337 rfl (lv_at hl 2 rfl) ?_
    have b_8 : 0 ≤ (G.1 66 78).toInt ∧ (G.1 66 78).toInt ≤ 40 := bd_66_78 hB_G
    have g_9 : (G_4.1 66 78).toInt = (G.1 66 78).toInt := (congrArg Int32.toInt (show G_4.1 66 78 = (G.1 66 78) from (hq_5.i9 66 78 rfl rfl)))
    have b_10 : 0 ≤ (G.1 66 79).toInt ∧ (G.1 66 79).toInt ≤ 40 := bd_66_79 hB_G
    have g_11 : (G_4.1 66 79).toInt = (G.1 66 79).toInt := (congrArg Int32.toInt (show G_4.1 66 79 = (G.1 66 79) from (hq_5.i9 66 79 rfl rfl)))
    refine S_calli (va_runV (As := []) (rest := []) ⟨hx, hb, hml, hown, hts⟩ (n_day l D k A a z G_4  (by omega)) (cwV 0 hts (gd_V hgd m2015 m2016 m2017 m131 m2018) rfl rfl rfl hd_X12_day ⟨Nat.le_of_ble_eq_true rfl, Nat.le_of_ble_eq_true rfl⟩) (pre_W hW hB_G_4 hK hZ hS kd_66 rfl) rfl rfl hl.1 rfl (lv_room (Nat.le_of_ble_eq_true rfl)) dL_law_1338 ⟨Nat.le_of_ble_eq_true rfl, Nat.le_of_ble_eq_true rfl⟩) hS (fun r_12 G_13 H locs hpo hW hS => ?_)
    have hX_16 : Q_day G_4 r_12 G_13 := hpo
    obtain ⟨hB_G_13, hq_14, hp_15, -⟩ := hpo
    obtain ⟨u_17, u_18⟩ := L_day_2 hX_7 hX_16  (by omega)
    refine lv_pop hx hb dL_law_1341 rfl ?_
    refine lv_goto (tgt := 1641) hx hb dL_law_1342 rfl ?_
    have fr_19 : Fr [110, 111, 58, 59] [(30, 4), (30, 5), (66, 78), (66, 79)] G G_13 := (Fr.call9 (rs := [110, 111, 58, 59]) (fs := [(30, 4), (30, 5), (66, 78), (66, 79)]) (Fr.call9 (rs := [110, 111, 58, 59]) (fs := [(30, 4), (30, 5), (66, 78), (66, 79)]) Fr.rf hq_5 rfl rfl) hq_14 rfl rfl)
    have g_20 : gO G_13 = gO G := gO_fr fr_19 (gr_q rfl) (gf_q rfl)
    have g_21 : gP G_13 = gP G := gP_fr fr_19 (gr_q rfl) (gf_q rfl)
    have g_22 : gS G_13 = gS G := gS_fr fr_19 (gr_q rfl) (gf_q rfl)
    have g_23 : gTE G_13 = gTE G := gTE_fr fr_19 (gr_q rfl) (gf_q rfl)
    have g_24 : gW G_13 = gW G := gW_fr fr_19 (gr_q rfl) (gf_q rfl)
    have b_25 : 0 ≤ (G.1 0 11).toInt ∧ (G.1 0 11).toInt ≤ 1600 := bd_0_11 hB_G
    have g_26 : (G_13.1 0 11).toInt = (G.1 0 11).toInt := (congrArg Int32.toInt (show G_13.1 0 11 = (G.1 0 11) from ((hq_14.i9 0 11 rfl rfl).trans (hq_5.i9 0 11 rfl rfl))))
    have b_27 : 0 ≤ (G.1 3 7).toInt ∧ (G.1 3 7).toInt ≤ 4 := bd_3_7 hB_G
    have g_28 : (G_13.1 3 7).toInt = (G.1 3 7).toInt := (congrArg Int32.toInt (show G_13.1 3 7 = (G.1 3 7) from ((hq_14.i9 3 7 rfl rfl).trans (hq_5.i9 3 7 rfl rfl))))
    have b_29 : (-1) ≤ (G.1 3 8).toInt ∧ (G.1 3 8).toInt ≤ 1600 := bd_3_8 hB_G
    have g_30 : (G_13.1 3 8).toInt = (G.1 3 8).toInt := (congrArg Int32.toInt (show G_13.1 3 8 = (G.1 3 8) from ((hq_14.i9 3 8 rfl rfl).trans (hq_5.i9 3 8 rfl rfl))))
    have b_31 : 0 ≤ (G_4.1 30 4).toInt ∧ (G_4.1 30 4).toInt ≤ 40 := bd_30_4 hB_G_4
    have g_32 : (G_13.1 30 4).toInt = (G_4.1 30 4).toInt := (congrArg Int32.toInt (show G_13.1 30 4 = (G_4.1 30 4) from (hq_14.i9 30 4 rfl rfl)))
    have b_33 : 0 ≤ (G_4.1 30 5).toInt ∧ (G_4.1 30 5).toInt ≤ 40 := bd_30_5 hB_G_4
    have g_34 : (G_13.1 30 5).toInt = (G_4.1 30 5).toInt := (congrArg Int32.toInt (show G_13.1 30 5 = (G_4.1 30 5) from (hq_14.i9 30 5 rfl rfl)))
    have b_35 : 0 ≤ (G.1 31 6).toInt ∧ (G.1 31 6).toInt ≤ 100000 := bd_31_6 hB_G
    have g_36 : (G_13.1 31 6).toInt = (G.1 31 6).toInt := (congrArg Int32.toInt (show G_13.1 31 6 = (G.1 31 6) from ((hq_14.i9 31 6 rfl rfl).trans (hq_5.i9 31 6 rfl rfl))))
    have b_37 : 0 ≤ (G.1 66 1).toInt ∧ (G.1 66 1).toInt ≤ 1600 := bd_66_1 hB_G
    have g_38 : (G_13.1 66 1).toInt = (G.1 66 1).toInt := (congrArg Int32.toInt (show G_13.1 66 1 = (G.1 66 1) from ((hq_14.i9 66 1 rfl rfl).trans (hq_5.i9 66 1 rfl rfl))))
    have b_39 : 0 ≤ (G.1 66 2).toInt ∧ (G.1 66 2).toInt ≤ 4 := bd_66_2 hB_G
    have g_40 : (G_13.1 66 2).toInt = (G.1 66 2).toInt := (congrArg Int32.toInt (show G_13.1 66 2 = (G.1 66 2) from ((hq_14.i9 66 2 rfl rfl).trans (hq_5.i9 66 2 rfl rfl))))
    have b_41 : (-1) ≤ (G.1 66 3).toInt ∧ (G.1 66 3).toInt ≤ 1600 := bd_66_3 hB_G
    have g_42 : (G_13.1 66 3).toInt = (G.1 66 3).toInt := (congrArg Int32.toInt (show G_13.1 66 3 = (G.1 66 3) from ((hq_14.i9 66 3 rfl rfl).trans (hq_5.i9 66 3 rfl rfl))))
    have b_43 : 0 ≤ (G_13.1 66 78).toInt ∧ (G_13.1 66 78).toInt ≤ 40 := bd_66_78 hB_G_13
    have b_44 : 0 ≤ (G_13.1 66 79).toInt ∧ (G_13.1 66 79).toInt ≤ 40 := bd_66_79 hB_G_13
    have b_45 : 0 ≤ (G.1 66 86).toInt ∧ (G.1 66 86).toInt ≤ 100000 := bd_66_86 hB_G
    have g_46 : (G_13.1 66 86).toInt = (G.1 66 86).toInt := (congrArg Int32.toInt (show G_13.1 66 86 = (G.1 66 86) from ((hq_14.i9 66 86 rfl rfl).trans (hq_5.i9 66 86 rfl rfl))))
    have b_47 : 0 ≤ (G.1 96 0).toInt ∧ (G.1 96 0).toInt ≤ 9 := bd_96_0 hB_G
    have g_48 : (G_13.1 96 0).toInt = (G.1 96 0).toInt := (congrArg Int32.toInt (show G_13.1 96 0 = (G.1 96 0) from ((hq_14.i9 96 0 rfl rfl).trans (hq_5.i9 96 0 rfl rfl))))
    have b_49 : 0 ≤ (G.1 96 1).toInt ∧ (G.1 96 1).toInt ≤ 9 := bd_96_1 hB_G
    have g_50 : (G_13.1 96 1).toInt = (G.1 96 1).toInt := (congrArg Int32.toInt (show G_13.1 96 1 = (G.1 96 1) from ((hq_14.i9 96 1 rfl rfl).trans (hq_5.i9 96 1 rfl rfl))))
    have b_51 : 0 ≤ (G.1 96 2).toInt ∧ (G.1 96 2).toInt ≤ 9 := bd_96_2 hB_G
    have g_52 : (G_13.1 96 2).toInt = (G.1 96 2).toInt := (congrArg Int32.toInt (show G_13.1 96 2 = (G.1 96 2) from ((hq_14.i9 96 2 rfl rfl).trans (hq_5.i9 96 2 rfl rfl))))
    exact K G_13 _ _ _ (Or.inr ⟨((((hq_14.r9 0 0 rfl rfl).trans (hq_5.r9 0 0 rfl rfl))).trans (hv_0_0)), ((((hq_14.r9 0 1 rfl rfl).trans (hq_5.r9 0 1 rfl rfl))).trans (hv_0_1)), ((((hq_14.r9 6 4 rfl rfl).trans (hq_5.r9 6 4 rfl rfl))).trans (hv_6_4)), by omega, by omega, by omega, by omega, by omega, by omega, by omega, by omega, by omega, by omega, by omega, by omega, by omega⟩) hB_G_13 hW hS (lv_sub hl [0, 1, 2, 3] rfl)

set_option maxHeartbeats 4000000 in
set_option maxRecDepth 100000 in
theorem law_27 {p : Program} {l : Launch} {e : Env} {s : State} {m : MethodId} {below : List Frame} {meth : Method} {c : Code} {D : va_G} {k : KT} {A : Nat → Prop} {a : Nat → Nat} {z : SK} {b L : Nat} {xs : Nat → Int32} (hL : L ≤ 3072) (C0 : lw_At p s m meth c b L xs) (hK : cK D k s) (hZ : Sx A z s) (hbA : ¬ A b) {G : GS} {i0 : Int32} (hi0 : 0 ≤ i0.toInt) (hi6 : i0.toInt + 6 ≤ L) (hI : LI G) (hB_G : Bd G) {H : Heap} {locs : List Loc} {ls : Array Slot} (hW : Wd D k A a G H) (hS : va_S A s.heap H locs) (hl : lv_has ls 4 [(0, .ref b), (1, .ref (a 0)), (2, .ref (a 66)), (3, .int i0)]) (K : ∀ (G1 : GS) (H1 : Heap) (locs1 : List Loc) (ls1 : Array Slot), LI G1 → Bd G1 → Wd D k A a G1 H1 → va_S A s.heap H1 locs1 → lv_has ls1 4 [(0, .ref b), (1, .ref (a 0)), (2, .ref (a 66)), (3, .int i0)] → W p l e room_1 s m #[Value.ref b] below meth c H1 locs1 119 46443 (lw_Z below #[Value.ref b] s) (F0 m 1641 ls1 [])) : W p l e room_1 s m #[Value.ref b] below meth c H locs 119 46443 (lw_Z below #[Value.ref b] s) (F0 m 1345 ls []) := by
  obtain ⟨hx, hb, hr, hml, hown, hts, hX, hbl, hlocks, hgv⟩ := id C0
  have hown : s.vm.findClass RL = some m.cls := hown
  have hgd : ∀ w ∈ gd, w ∈ lw_tbl := fun w h => (List.mem_filter.mp h).1
  have hg : ∀ w ∈ gd, w.before #[Value.ref b] s = true := fun w h => hts w (hgd w h)
  rcases hI with ⟨hv_0_0, hv_0_1, hv_6_4, hj0, hj1, hj2, hj3, hj4, hj5, hj6, hj7, hj8, hj9, hj10, hj11, hj12⟩ | ⟨hv_0_0, hv_0_1, hv_6_4, hj0, hj1, hj2, hj3, hj4, hj5, hj6, hj7, hj8, hj9, hj10, hj11, hj12⟩
  · skip
    obtain ⟨p0, hp0⟩ : ∃ y, y = xs (i0 + 1).toNatClampNeg := ⟨_, rfl⟩
    obtain ⟨p1, hp1⟩ : ∃ y, y = xs (i0 + 2).toNatClampNeg := ⟨_, rfl⟩
    obtain ⟨p2, hp2⟩ : ∃ y, y = xs (i0 + 3).toNatClampNeg := ⟨_, rfl⟩
    obtain ⟨p3, hp3⟩ : ∃ y, y = xs (i0 + 4).toNatClampNeg := ⟨_, rfl⟩
    obtain ⟨p4, hp4⟩ : ∃ y, y = xs (i0 + 5).toNatClampNeg := ⟨_, rfl⟩
    refine lv_aload_n hx hb dL_law_1345 rfl (lv_at hl 1 rfl) ?_
    have b_1 : 0 ≤ (G.1 30 4).toInt ∧ (G.1 30 4).toInt ≤ 40 := bd_30_4 hB_G
    have b_2 : 0 ≤ (G.1 30 5).toInt ∧ (G.1 30 5).toInt ≤ 40 := bd_30_5 hB_G
    refine S_calli (va_runV (As := []) (rest := []) ⟨hx, hb, hml, hown, hts⟩ (k_Wundo l D k A a z G  (by omega)) (cwV 0 hts (gd_V hgd m1218 m1219 m1220 m117 m1221) rfl rfl rfl hd_X11_undo ⟨Nat.le_of_ble_eq_true rfl, Nat.le_of_ble_eq_true rfl⟩) (pre_W hW hB_G hK hZ hS kd_0 rfl) rfl rfl hl.1 rfl (lv_room (Nat.le_of_ble_eq_true rfl)) dL_law_1346 ⟨Nat.le_of_ble_eq_true rfl, Nat.le_of_ble_eq_true rfl⟩) hS (fun r_3 G_4 H locs hpo hW hS => ?_)
    have hX_7 : P_Wundo G r_3 G_4 := hpo
    obtain ⟨hB_G_4, hq_5, f_8, hp_6, -⟩ := hpo
    refine lv_pop hx hb dL_law_1349 rfl ?_
    refine lv_aload_n hx hb dL_law_1350 rfl (lv_at hl 2 rfl) ?_
    have b_9 : 0 ≤ (G.1 66 78).toInt ∧ (G.1 66 78).toInt ≤ 40 := bd_66_78 hB_G
    have g_10 : (G_4.1 66 78).toInt = (G.1 66 78).toInt := (congrArg Int32.toInt (show G_4.1 66 78 = (G.1 66 78) from (hq_5.i9 66 78 rfl rfl)))
    have b_11 : 0 ≤ (G.1 66 79).toInt ∧ (G.1 66 79).toInt ≤ 40 := bd_66_79 hB_G
    have g_12 : (G_4.1 66 79).toInt = (G.1 66 79).toInt := (congrArg Int32.toInt (show G_4.1 66 79 = (G.1 66 79) from (hq_5.i9 66 79 rfl rfl)))
    refine S_calli (va_runV (As := []) (rest := []) ⟨hx, hb, hml, hown, hts⟩ (n_undo l D k A a z G_4  (by omega)) (cwV 0 hts (gd_V hgd m2019 m2020 m2021 m131 m2022) rfl rfl rfl hd_X12_undo ⟨Nat.le_of_ble_eq_true rfl, Nat.le_of_ble_eq_true rfl⟩) (pre_W hW hB_G_4 hK hZ hS kd_66 rfl) rfl rfl hl.1 rfl (lv_room (Nat.le_of_ble_eq_true rfl)) dL_law_1351 ⟨Nat.le_of_ble_eq_true rfl, Nat.le_of_ble_eq_true rfl⟩) hS (fun r_13 G_14 H locs hpo hW hS => ?_)
    have hX_17 : Q_undo G_4 r_13 G_14 := hpo
    obtain ⟨hB_G_14, hq_15, f_18, hp_16, -⟩ := hpo
    obtain ⟨u_19, u_20⟩ := L_undo_1 hX_7 hX_17  (by omega)
    refine lv_pop hx hb dL_law_1354 rfl ?_
    refine lv_goto (tgt := 1641) hx hb dL_law_1355 rfl ?_
    have fr_21 : Fr [110, 111, 58] [(30, 4), (30, 5), (66, 78), (66, 79)] G G_14 := (Fr.call9 (rs := [110, 111, 58]) (fs := [(30, 4), (30, 5), (66, 78), (66, 79)]) (Fr.call9 (rs := [110, 111, 58]) (fs := [(30, 4), (30, 5), (66, 78), (66, 79)]) Fr.rf hq_5 rfl rfl) hq_15 rfl rfl)
    have g_22 : gO G_14 = gO G := gO_fr fr_21 (gr_q rfl) (gf_q rfl)
    have g_23 : gP G_14 = gP G := gP_fr fr_21 (gr_q rfl) (gf_q rfl)
    have g_24 : gS G_14 = gS G := gS_fr fr_21 (gr_q rfl) (gf_q rfl)
    have g_25 : gTE G_14 = gTE G := gTE_fr fr_21 (gr_q rfl) (gf_q rfl)
    have g_26 : gW G_14 = gW G := gW_fr fr_21 (gr_q rfl) (gf_q rfl)
    have b_27 : 0 ≤ (G.1 0 11).toInt ∧ (G.1 0 11).toInt ≤ 1600 := bd_0_11 hB_G
    have g_28 : (G_14.1 0 11).toInt = (G.1 0 11).toInt := (congrArg Int32.toInt (show G_14.1 0 11 = (G.1 0 11) from ((hq_15.i9 0 11 rfl rfl).trans (hq_5.i9 0 11 rfl rfl))))
    have b_29 : 0 ≤ (G.1 3 7).toInt ∧ (G.1 3 7).toInt ≤ 4 := bd_3_7 hB_G
    have g_30 : (G_14.1 3 7).toInt = (G.1 3 7).toInt := (congrArg Int32.toInt (show G_14.1 3 7 = (G.1 3 7) from ((hq_15.i9 3 7 rfl rfl).trans (hq_5.i9 3 7 rfl rfl))))
    have b_31 : (-1) ≤ (G.1 3 8).toInt ∧ (G.1 3 8).toInt ≤ 1600 := bd_3_8 hB_G
    have g_32 : (G_14.1 3 8).toInt = (G.1 3 8).toInt := (congrArg Int32.toInt (show G_14.1 3 8 = (G.1 3 8) from ((hq_15.i9 3 8 rfl rfl).trans (hq_5.i9 3 8 rfl rfl))))
    have b_33 : 0 ≤ (G_4.1 30 4).toInt ∧ (G_4.1 30 4).toInt ≤ 40 := bd_30_4 hB_G_4
    have g_34 : (G_14.1 30 4).toInt = (G_4.1 30 4).toInt := (congrArg Int32.toInt (show G_14.1 30 4 = (G_4.1 30 4) from (hq_15.i9 30 4 rfl rfl)))
    have b_35 : 0 ≤ (G_4.1 30 5).toInt ∧ (G_4.1 30 5).toInt ≤ 40 := bd_30_5 hB_G_4
    have g_36 : (G_14.1 30 5).toInt = (G_4.1 30 5).toInt := (congrArg Int32.toInt (show G_14.1 30 5 = (G_4.1 30 5) from (hq_15.i9 30 5 rfl rfl)))
    have b_37 : 0 ≤ (G.1 31 6).toInt ∧ (G.1 31 6).toInt ≤ 100000 := bd_31_6 hB_G
    have g_38 : (G_14.1 31 6).toInt = (G.1 31 6).toInt := (congrArg Int32.toInt (show G_14.1 31 6 = (G.1 31 6) from ((hq_15.i9 31 6 rfl rfl).trans (hq_5.i9 31 6 rfl rfl))))
    have b_39 : 0 ≤ (G.1 66 1).toInt ∧ (G.1 66 1).toInt ≤ 1600 := bd_66_1 hB_G
    have g_40 : (G_14.1 66 1).toInt = (G.1 66 1).toInt := (congrArg Int32.toInt (show G_14.1 66 1 = (G.1 66 1) from ((hq_15.i9 66 1 rfl rfl).trans (hq_5.i9 66 1 rfl rfl))))
    have b_41 : 0 ≤ (G.1 66 2).toInt ∧ (G.1 66 2).toInt ≤ 4 := bd_66_2 hB_G
    have g_42 : (G_14.1 66 2).toInt = (G.1 66 2).toInt := (congrArg Int32.toInt (show G_14.1 66 2 = (G.1 66 2) from ((hq_15.i9 66 2 rfl rfl).trans (hq_5.i9 66 2 rfl rfl))))
    have b_43 : (-1) ≤ (G.1 66 3).toInt ∧ (G.1 66 3).toInt ≤ 1600 := bd_66_3 hB_G
    have g_44 : (G_14.1 66 3).toInt = (G.1 66 3).toInt := (congrArg Int32.toInt (show G_14.1 66 3 = (G.1 66 3) from ((hq_15.i9 66 3 rfl rfl).trans (hq_5.i9 66 3 rfl rfl))))
    have b_45 : 0 ≤ (G_14.1 66 78).toInt ∧ (G_14.1 66 78).toInt ≤ 40 := bd_66_78 hB_G_14
    have b_46 : 0 ≤ (G_14.1 66 79).toInt ∧ (G_14.1 66 79).toInt ≤ 40 := bd_66_79 hB_G_14
    have b_47 : 0 ≤ (G.1 66 86).toInt ∧ (G.1 66 86).toInt ≤ 100000 := bd_66_86 hB_G
    have g_48 : (G_14.1 66 86).toInt = (G.1 66 86).toInt := (congrArg Int32.toInt (show G_14.1 66 86 = (G.1 66 86) from ((hq_15.i9 66 86 rfl rfl).trans (hq_5.i9 66 86 rfl rfl))))
    have b_49 : 0 ≤ (G.1 96 0).toInt ∧ (G.1 96 0).toInt ≤ 9 := bd_96_0 hB_G
    have g_50 : (G_14.1 96 0).toInt = (G.1 96 0).toInt := (congrArg Int32.toInt (show G_14.1 96 0 = (G.1 96 0) from ((hq_15.i9 96 0 rfl rfl).trans (hq_5.i9 96 0 rfl rfl))))
    have b_51 : 0 ≤ (G.1 96 1).toInt ∧ (G.1 96 1).toInt ≤ 9 := bd_96_1 hB_G
    have g_52 : (G_14.1 96 1).toInt = (G.1 96 1).toInt := (congrArg Int32.toInt (show G_14.1 96 1 = (G.1 96 1) from ((hq_15.i9 96 1 rfl rfl).trans (hq_5.i9 96 1 rfl rfl))))
    have b_53 : 0 ≤ (G.1 96 2).toInt ∧ (G.1 96 2).toInt ≤ 9 := bd_96_2 hB_G
    have g_54 : (G_14.1 96 2).toInt = (G.1 96 2).toInt := (congrArg Int32.toInt (show G_14.1 96 2 = (G.1 96 2) from ((hq_15.i9 96 2 rfl rfl).trans (hq_5.i9 96 2 rfl rfl))))
    exact K G_14 _ _ _ (Or.inl ⟨((((hq_15.r9 0 0 rfl rfl).trans (hq_5.r9 0 0 rfl rfl))).trans (hv_0_0)), ((((hq_15.r9 0 1 rfl rfl).trans (hq_5.r9 0 1 rfl rfl))).trans (hv_0_1)), ((((hq_15.r9 6 4 rfl rfl).trans (hq_5.r9 6 4 rfl rfl))).trans (hv_6_4)), by omega, by omega, by omega, by omega, by omega, by omega, by omega, by omega, by omega, by omega, by omega, by omega, by omega⟩) hB_G_14 hW hS (lv_sub hl [0, 1, 2, 3] rfl)
  · skip
    obtain ⟨p0, hp0⟩ : ∃ y, y = xs (i0 + 1).toNatClampNeg := ⟨_, rfl⟩
    obtain ⟨p1, hp1⟩ : ∃ y, y = xs (i0 + 2).toNatClampNeg := ⟨_, rfl⟩
    obtain ⟨p2, hp2⟩ : ∃ y, y = xs (i0 + 3).toNatClampNeg := ⟨_, rfl⟩
    obtain ⟨p3, hp3⟩ : ∃ y, y = xs (i0 + 4).toNatClampNeg := ⟨_, rfl⟩
    obtain ⟨p4, hp4⟩ : ∃ y, y = xs (i0 + 5).toNatClampNeg := ⟨_, rfl⟩
    refine lv_aload_n hx hb dL_law_1345 rfl (lv_at hl 1 rfl) ?_
    have b_1 : 0 ≤ (G.1 30 4).toInt ∧ (G.1 30 4).toInt ≤ 40 := bd_30_4 hB_G
    have b_2 : 0 ≤ (G.1 30 5).toInt ∧ (G.1 30 5).toInt ≤ 40 := bd_30_5 hB_G
    refine S_calli (va_runV (As := []) (rest := []) ⟨hx, hb, hml, hown, hts⟩ (k_Wundo l D k A a z G  (by omega)) (cwV 0 hts (gd_V hgd m1218 m1219 m1220 m117 m1221) rfl rfl rfl hd_X11_undo ⟨Nat.le_of_ble_eq_true rfl, Nat.le_of_ble_eq_true rfl⟩) (pre_W hW hB_G hK hZ hS kd_0 rfl) rfl rfl hl.1 rfl (lv_room (Nat.le_of_ble_eq_true rfl)) dL_law_1346 ⟨Nat.le_of_ble_eq_true rfl, Nat.le_of_ble_eq_true rfl⟩) hS (fun r_3 G_4 H locs hpo hW hS => ?_)
    have hX_7 : P_Wundo G r_3 G_4 := hpo
    obtain ⟨hB_G_4, hq_5, f_8, hp_6, -⟩ := hpo
    refine lv_pop hx hb dL_law_1349 rfl ?_
    refine lv_aload_n hx hb dL_law_1350 rfl (lv_at hl 2 rfl) ?_
    have b_9 : 0 ≤ (G.1 66 78).toInt ∧ (G.1 66 78).toInt ≤ 40 := bd_66_78 hB_G
    have g_10 : (G_4.1 66 78).toInt = (G.1 66 78).toInt := (congrArg Int32.toInt (show G_4.1 66 78 = (G.1 66 78) from (hq_5.i9 66 78 rfl rfl)))
    have b_11 : 0 ≤ (G.1 66 79).toInt ∧ (G.1 66 79).toInt ≤ 40 := bd_66_79 hB_G
    have g_12 : (G_4.1 66 79).toInt = (G.1 66 79).toInt := (congrArg Int32.toInt (show G_4.1 66 79 = (G.1 66 79) from (hq_5.i9 66 79 rfl rfl)))
    refine S_calli (va_runV (As := []) (rest := []) ⟨hx, hb, hml, hown, hts⟩ (n_undo l D k A a z G_4  (by omega)) (cwV 0 hts (gd_V hgd m2019 m2020 m2021 m131 m2022) rfl rfl rfl hd_X12_undo ⟨Nat.le_of_ble_eq_true rfl, Nat.le_of_ble_eq_true rfl⟩) (pre_W hW hB_G_4 hK hZ hS kd_66 rfl) rfl rfl hl.1 rfl (lv_room (Nat.le_of_ble_eq_true rfl)) dL_law_1351 ⟨Nat.le_of_ble_eq_true rfl, Nat.le_of_ble_eq_true rfl⟩) hS (fun r_13 G_14 H locs hpo hW hS => ?_)
    have hX_17 : Q_undo G_4 r_13 G_14 := hpo
    obtain ⟨hB_G_14, hq_15, f_18, hp_16, -⟩ := hpo
    obtain ⟨u_19, u_20⟩ := L_undo_2 hX_7 hX_17  (by omega)
    refine lv_pop hx hb dL_law_1354 rfl ?_
    refine lv_goto (tgt := 1641) hx hb dL_law_1355 rfl ?_
    have fr_21 : Fr [110, 111, 58] [(30, 4), (30, 5), (66, 78), (66, 79)] G G_14 := (Fr.call9 (rs := [110, 111, 58]) (fs := [(30, 4), (30, 5), (66, 78), (66, 79)]) (Fr.call9 (rs := [110, 111, 58]) (fs := [(30, 4), (30, 5), (66, 78), (66, 79)]) Fr.rf hq_5 rfl rfl) hq_15 rfl rfl)
    have g_22 : gO G_14 = gO G := gO_fr fr_21 (gr_q rfl) (gf_q rfl)
    have g_23 : gP G_14 = gP G := gP_fr fr_21 (gr_q rfl) (gf_q rfl)
    have g_24 : gS G_14 = gS G := gS_fr fr_21 (gr_q rfl) (gf_q rfl)
    have g_25 : gTE G_14 = gTE G := gTE_fr fr_21 (gr_q rfl) (gf_q rfl)
    have g_26 : gW G_14 = gW G := gW_fr fr_21 (gr_q rfl) (gf_q rfl)
    have b_27 : 0 ≤ (G.1 0 11).toInt ∧ (G.1 0 11).toInt ≤ 1600 := bd_0_11 hB_G
    have g_28 : (G_14.1 0 11).toInt = (G.1 0 11).toInt := (congrArg Int32.toInt (show G_14.1 0 11 = (G.1 0 11) from ((hq_15.i9 0 11 rfl rfl).trans (hq_5.i9 0 11 rfl rfl))))
    have b_29 : 0 ≤ (G.1 3 7).toInt ∧ (G.1 3 7).toInt ≤ 4 := bd_3_7 hB_G
    have g_30 : (G_14.1 3 7).toInt = (G.1 3 7).toInt := (congrArg Int32.toInt (show G_14.1 3 7 = (G.1 3 7) from ((hq_15.i9 3 7 rfl rfl).trans (hq_5.i9 3 7 rfl rfl))))
    have b_31 : (-1) ≤ (G.1 3 8).toInt ∧ (G.1 3 8).toInt ≤ 1600 := bd_3_8 hB_G
    have g_32 : (G_14.1 3 8).toInt = (G.1 3 8).toInt := (congrArg Int32.toInt (show G_14.1 3 8 = (G.1 3 8) from ((hq_15.i9 3 8 rfl rfl).trans (hq_5.i9 3 8 rfl rfl))))
    have b_33 : 0 ≤ (G_4.1 30 4).toInt ∧ (G_4.1 30 4).toInt ≤ 40 := bd_30_4 hB_G_4
    have g_34 : (G_14.1 30 4).toInt = (G_4.1 30 4).toInt := (congrArg Int32.toInt (show G_14.1 30 4 = (G_4.1 30 4) from (hq_15.i9 30 4 rfl rfl)))
    have b_35 : 0 ≤ (G_4.1 30 5).toInt ∧ (G_4.1 30 5).toInt ≤ 40 := bd_30_5 hB_G_4
    have g_36 : (G_14.1 30 5).toInt = (G_4.1 30 5).toInt := (congrArg Int32.toInt (show G_14.1 30 5 = (G_4.1 30 5) from (hq_15.i9 30 5 rfl rfl)))
    have b_37 : 0 ≤ (G.1 31 6).toInt ∧ (G.1 31 6).toInt ≤ 100000 := bd_31_6 hB_G
    have g_38 : (G_14.1 31 6).toInt = (G.1 31 6).toInt := (congrArg Int32.toInt (show G_14.1 31 6 = (G.1 31 6) from ((hq_15.i9 31 6 rfl rfl).trans (hq_5.i9 31 6 rfl rfl))))
    have b_39 : 0 ≤ (G.1 66 1).toInt ∧ (G.1 66 1).toInt ≤ 1600 := bd_66_1 hB_G
    have g_40 : (G_14.1 66 1).toInt = (G.1 66 1).toInt := (congrArg Int32.toInt (show G_14.1 66 1 = (G.1 66 1) from ((hq_15.i9 66 1 rfl rfl).trans (hq_5.i9 66 1 rfl rfl))))
    have b_41 : 0 ≤ (G.1 66 2).toInt ∧ (G.1 66 2).toInt ≤ 4 := bd_66_2 hB_G
    have g_42 : (G_14.1 66 2).toInt = (G.1 66 2).toInt := (congrArg Int32.toInt (show G_14.1 66 2 = (G.1 66 2) from ((hq_15.i9 66 2 rfl rfl).trans (hq_5.i9 66 2 rfl rfl))))
    have b_43 : (-1) ≤ (G.1 66 3).toInt ∧ (G.1 66 3).toInt ≤ 1600 := bd_66_3 hB_G
    have g_44 : (G_14.1 66 3).toInt = (G.1 66 3).toInt := (congrArg Int32.toInt (show G_14.1 66 3 = (G.1 66 3) from ((hq_15.i9 66 3 rfl rfl).trans (hq_5.i9 66 3 rfl rfl))))
    have b_45 : 0 ≤ (G_14.1 66 78).toInt ∧ (G_14.1 66 78).toInt ≤ 40 := bd_66_78 hB_G_14
    have b_46 : 0 ≤ (G_14.1 66 79).toInt ∧ (G_14.1 66 79).toInt ≤ 40 := bd_66_79 hB_G_14
    have b_47 : 0 ≤ (G.1 66 86).toInt ∧ (G.1 66 86).toInt ≤ 100000 := bd_66_86 hB_G
    have g_48 : (G_14.1 66 86).toInt = (G.1 66 86).toInt := (congrArg Int32.toInt (show G_14.1 66 86 = (G.1 66 86) from ((hq_15.i9 66 86 rfl rfl).trans (hq_5.i9 66 86 rfl rfl))))
    have b_49 : 0 ≤ (G.1 96 0).toInt ∧ (G.1 96 0).toInt ≤ 9 := bd_96_0 hB_G
    have g_50 : (G_14.1 96 0).toInt = (G.1 96 0).toInt := (congrArg Int32.toInt (show G_14.1 96 0 = (G.1 96 0) from ((hq_15.i9 96 0 rfl rfl).trans (hq_5.i9 96 0 rfl rfl))))
    have b_51 : 0 ≤ (G.1 96 1).toInt ∧ (G.1 96 1).toInt ≤ 9 := bd_96_1 hB_G
    have g_52 : (G_14.1 96 1).toInt = (G.1 96 1).toInt := (congrArg Int32.toInt (show G_14.1 96 1 = (G.1 96 1) from ((hq_15.i9 96 1 rfl rfl).trans (hq_5.i9 96 1 rfl rfl))))
    have b_53 : 0 ≤ (G.1 96 2).toInt ∧ (G.1 96 2).toInt ≤ 9 := bd_96_2 hB_G
    have g_54 : (G_14.1 96 2).toInt = (G.1 96 2).toInt := (congrArg Int32.toInt (show G_14.1 96 2 = (G.1 96 2) from ((hq_15.i9 96 2 rfl rfl).trans (hq_5.i9 96 2 rfl rfl))))
    exact K G_14 _ _ _ (Or.inr ⟨((((hq_15.r9 0 0 rfl rfl).trans (hq_5.r9 0 0 rfl rfl))).trans (hv_0_0)), ((((hq_15.r9 0 1 rfl rfl).trans (hq_5.r9 0 1 rfl rfl))).trans (hv_0_1)), ((((hq_15.r9 6 4 rfl rfl).trans (hq_5.r9 6 4 rfl rfl))).trans (hv_6_4)), by omega, by omega, by omega, by omega, by omega, by omega, by omega, by omega, by omega, by omega, by omega, by omega, by omega⟩) hB_G_14 hW hS (lv_sub hl [0, 1, 2, 3] rfl)

set_option maxHeartbeats 4000000 in
set_option maxRecDepth 100000 in
theorem law_28 {p : Program} {l : Launch} {e : Env} {s : State} {m : MethodId} {below : List Frame} {meth : Method} {c : Code} {D : va_G} {k : KT} {A : Nat → Prop} {a : Nat → Nat} {z : SK} {b L : Nat} {xs : Nat → Int32} (hL : L ≤ 3072) (C0 : lw_At p s m meth c b L xs) (hK : cK D k s) (hZ : Sx A z s) (hbA : ¬ A b) {G : GS} {i0 : Int32} (hi0 : 0 ≤ i0.toInt) (hi6 : i0.toInt + 6 ≤ L) (hI : LI G) (hB_G : Bd G) {H : Heap} {locs : List Loc} {ls : Array Slot} (hW : Wd D k A a G H) (hS : va_S A s.heap H locs) (hl : lv_has ls 4 [(0, .ref b), (1, .ref (a 0)), (2, .ref (a 66)), (3, .int i0)]) (K : ∀ (G1 : GS) (H1 : Heap) (locs1 : List Loc) (ls1 : Array Slot), LI G1 → Bd G1 → Wd D k A a G1 H1 → va_S A s.heap H1 locs1 → lv_has ls1 4 [(0, .ref b), (1, .ref (a 0)), (2, .ref (a 66)), (3, .int i0)] → W p l e room_1 s m #[Value.ref b] below meth c H1 locs1 119 46443 (lw_Z below #[Value.ref b] s) (F0 m 1641 ls1 [])) : W p l e room_1 s m #[Value.ref b] below meth c H locs 119 46443 (lw_Z below #[Value.ref b] s) (F0 m 1358 ls []) := by
  obtain ⟨hx, hb, hr, hml, hown, hts, hX, hbl, hlocks, hgv⟩ := id C0
  have hown : s.vm.findClass RL = some m.cls := hown
  have hgd : ∀ w ∈ gd, w ∈ lw_tbl := fun w h => (List.mem_filter.mp h).1
  have hg : ∀ w ∈ gd, w.before #[Value.ref b] s = true := fun w h => hts w (hgd w h)
  rcases hI with ⟨hv_0_0, hv_0_1, hv_6_4, hj0, hj1, hj2, hj3, hj4, hj5, hj6, hj7, hj8, hj9, hj10, hj11, hj12⟩ | ⟨hv_0_0, hv_0_1, hv_6_4, hj0, hj1, hj2, hj3, hj4, hj5, hj6, hj7, hj8, hj9, hj10, hj11, hj12⟩
  · skip
    obtain ⟨p0, hp0⟩ : ∃ y, y = xs (i0 + 1).toNatClampNeg := ⟨_, rfl⟩
    obtain ⟨p1, hp1⟩ : ∃ y, y = xs (i0 + 2).toNatClampNeg := ⟨_, rfl⟩
    obtain ⟨p2, hp2⟩ : ∃ y, y = xs (i0 + 3).toNatClampNeg := ⟨_, rfl⟩
    obtain ⟨p3, hp3⟩ : ∃ y, y = xs (i0 + 4).toNatClampNeg := ⟨_, rfl⟩
    obtain ⟨p4, hp4⟩ : ∃ y, y = xs (i0 + 5).toNatClampNeg := ⟨_, rfl⟩
    refine lv_aload_n hx hb dL_law_1358 rfl (lv_at hl 1 rfl) ?_
    have b_1 : 0 ≤ (G.1 30 4).toInt ∧ (G.1 30 4).toInt ≤ 40 := bd_30_4 hB_G
    have b_2 : 0 ≤ (G.1 30 5).toInt ∧ (G.1 30 5).toInt ≤ 40 := bd_30_5 hB_G
    refine S_calli (va_runV (As := []) (rest := []) ⟨hx, hb, hml, hown, hts⟩ (k_Wredo l D k A a z G  (by omega)) (cwV 0 hts (gd_V hgd m1226 m1227 m1228 m117 m1229) rfl rfl rfl hd_X11_redo ⟨Nat.le_of_ble_eq_true rfl, Nat.le_of_ble_eq_true rfl⟩) (pre_W hW hB_G hK hZ hS kd_0 rfl) rfl rfl hl.1 rfl (lv_room (Nat.le_of_ble_eq_true rfl)) dL_law_1359 ⟨Nat.le_of_ble_eq_true rfl, Nat.le_of_ble_eq_true rfl⟩) hS (fun r_3 G_4 H locs hpo hW hS => ?_)
    have hX_7 : P_Wredo G r_3 G_4 := hpo
    obtain ⟨hB_G_4, hq_5, f_8, hp_6, -⟩ := hpo
    refine lv_pop hx hb dL_law_1362 rfl ?_
    refine lv_aload_n hx hb dL_law_1363 rfl (lv_at hl 2 rfl) ?_
    have b_9 : 0 ≤ (G.1 66 78).toInt ∧ (G.1 66 78).toInt ≤ 40 := bd_66_78 hB_G
    have g_10 : (G_4.1 66 78).toInt = (G.1 66 78).toInt := (congrArg Int32.toInt (show G_4.1 66 78 = (G.1 66 78) from (hq_5.i9 66 78 rfl rfl)))
    have b_11 : 0 ≤ (G.1 66 79).toInt ∧ (G.1 66 79).toInt ≤ 40 := bd_66_79 hB_G
    have g_12 : (G_4.1 66 79).toInt = (G.1 66 79).toInt := (congrArg Int32.toInt (show G_4.1 66 79 = (G.1 66 79) from (hq_5.i9 66 79 rfl rfl)))
    refine S_calli (va_runV (As := []) (rest := []) ⟨hx, hb, hml, hown, hts⟩ (n_redo l D k A a z G_4  (by omega)) (cwV 0 hts (gd_V hgd m2027 m2028 m2029 m131 m2030) rfl rfl rfl hd_X12_redo ⟨Nat.le_of_ble_eq_true rfl, Nat.le_of_ble_eq_true rfl⟩) (pre_W hW hB_G_4 hK hZ hS kd_66 rfl) rfl rfl hl.1 rfl (lv_room (Nat.le_of_ble_eq_true rfl)) dL_law_1364 ⟨Nat.le_of_ble_eq_true rfl, Nat.le_of_ble_eq_true rfl⟩) hS (fun r_13 G_14 H locs hpo hW hS => ?_)
    have hX_17 : Q_redo G_4 r_13 G_14 := hpo
    obtain ⟨hB_G_14, hq_15, f_18, hp_16, -⟩ := hpo
    obtain ⟨u_19, u_20⟩ := L_redo_1 hX_7 hX_17  (by omega)
    refine lv_pop hx hb dL_law_1367 rfl ?_
    refine lv_goto (tgt := 1641) hx hb dL_law_1368 rfl ?_
    have fr_21 : Fr [110, 111, 58] [(30, 4), (30, 5), (66, 78), (66, 79)] G G_14 := (Fr.call9 (rs := [110, 111, 58]) (fs := [(30, 4), (30, 5), (66, 78), (66, 79)]) (Fr.call9 (rs := [110, 111, 58]) (fs := [(30, 4), (30, 5), (66, 78), (66, 79)]) Fr.rf hq_5 rfl rfl) hq_15 rfl rfl)
    have g_22 : gO G_14 = gO G := gO_fr fr_21 (gr_q rfl) (gf_q rfl)
    have g_23 : gP G_14 = gP G := gP_fr fr_21 (gr_q rfl) (gf_q rfl)
    have g_24 : gS G_14 = gS G := gS_fr fr_21 (gr_q rfl) (gf_q rfl)
    have g_25 : gTE G_14 = gTE G := gTE_fr fr_21 (gr_q rfl) (gf_q rfl)
    have g_26 : gW G_14 = gW G := gW_fr fr_21 (gr_q rfl) (gf_q rfl)
    have b_27 : 0 ≤ (G.1 0 11).toInt ∧ (G.1 0 11).toInt ≤ 1600 := bd_0_11 hB_G
    have g_28 : (G_14.1 0 11).toInt = (G.1 0 11).toInt := (congrArg Int32.toInt (show G_14.1 0 11 = (G.1 0 11) from ((hq_15.i9 0 11 rfl rfl).trans (hq_5.i9 0 11 rfl rfl))))
    have b_29 : 0 ≤ (G.1 3 7).toInt ∧ (G.1 3 7).toInt ≤ 4 := bd_3_7 hB_G
    have g_30 : (G_14.1 3 7).toInt = (G.1 3 7).toInt := (congrArg Int32.toInt (show G_14.1 3 7 = (G.1 3 7) from ((hq_15.i9 3 7 rfl rfl).trans (hq_5.i9 3 7 rfl rfl))))
    have b_31 : (-1) ≤ (G.1 3 8).toInt ∧ (G.1 3 8).toInt ≤ 1600 := bd_3_8 hB_G
    have g_32 : (G_14.1 3 8).toInt = (G.1 3 8).toInt := (congrArg Int32.toInt (show G_14.1 3 8 = (G.1 3 8) from ((hq_15.i9 3 8 rfl rfl).trans (hq_5.i9 3 8 rfl rfl))))
    have b_33 : 0 ≤ (G_4.1 30 4).toInt ∧ (G_4.1 30 4).toInt ≤ 40 := bd_30_4 hB_G_4
    have g_34 : (G_14.1 30 4).toInt = (G_4.1 30 4).toInt := (congrArg Int32.toInt (show G_14.1 30 4 = (G_4.1 30 4) from (hq_15.i9 30 4 rfl rfl)))
    have b_35 : 0 ≤ (G_4.1 30 5).toInt ∧ (G_4.1 30 5).toInt ≤ 40 := bd_30_5 hB_G_4
    have g_36 : (G_14.1 30 5).toInt = (G_4.1 30 5).toInt := (congrArg Int32.toInt (show G_14.1 30 5 = (G_4.1 30 5) from (hq_15.i9 30 5 rfl rfl)))
    have b_37 : 0 ≤ (G.1 31 6).toInt ∧ (G.1 31 6).toInt ≤ 100000 := bd_31_6 hB_G
    have g_38 : (G_14.1 31 6).toInt = (G.1 31 6).toInt := (congrArg Int32.toInt (show G_14.1 31 6 = (G.1 31 6) from ((hq_15.i9 31 6 rfl rfl).trans (hq_5.i9 31 6 rfl rfl))))
    have b_39 : 0 ≤ (G.1 66 1).toInt ∧ (G.1 66 1).toInt ≤ 1600 := bd_66_1 hB_G
    have g_40 : (G_14.1 66 1).toInt = (G.1 66 1).toInt := (congrArg Int32.toInt (show G_14.1 66 1 = (G.1 66 1) from ((hq_15.i9 66 1 rfl rfl).trans (hq_5.i9 66 1 rfl rfl))))
    have b_41 : 0 ≤ (G.1 66 2).toInt ∧ (G.1 66 2).toInt ≤ 4 := bd_66_2 hB_G
    have g_42 : (G_14.1 66 2).toInt = (G.1 66 2).toInt := (congrArg Int32.toInt (show G_14.1 66 2 = (G.1 66 2) from ((hq_15.i9 66 2 rfl rfl).trans (hq_5.i9 66 2 rfl rfl))))
    have b_43 : (-1) ≤ (G.1 66 3).toInt ∧ (G.1 66 3).toInt ≤ 1600 := bd_66_3 hB_G
    have g_44 : (G_14.1 66 3).toInt = (G.1 66 3).toInt := (congrArg Int32.toInt (show G_14.1 66 3 = (G.1 66 3) from ((hq_15.i9 66 3 rfl rfl).trans (hq_5.i9 66 3 rfl rfl))))
    have b_45 : 0 ≤ (G_14.1 66 78).toInt ∧ (G_14.1 66 78).toInt ≤ 40 := bd_66_78 hB_G_14
    have b_46 : 0 ≤ (G_14.1 66 79).toInt ∧ (G_14.1 66 79).toInt ≤ 40 := bd_66_79 hB_G_14
    have b_47 : 0 ≤ (G.1 66 86).toInt ∧ (G.1 66 86).toInt ≤ 100000 := bd_66_86 hB_G
    have g_48 : (G_14.1 66 86).toInt = (G.1 66 86).toInt := (congrArg Int32.toInt (show G_14.1 66 86 = (G.1 66 86) from ((hq_15.i9 66 86 rfl rfl).trans (hq_5.i9 66 86 rfl rfl))))
    have b_49 : 0 ≤ (G.1 96 0).toInt ∧ (G.1 96 0).toInt ≤ 9 := bd_96_0 hB_G
    have g_50 : (G_14.1 96 0).toInt = (G.1 96 0).toInt := (congrArg Int32.toInt (show G_14.1 96 0 = (G.1 96 0) from ((hq_15.i9 96 0 rfl rfl).trans (hq_5.i9 96 0 rfl rfl))))
    have b_51 : 0 ≤ (G.1 96 1).toInt ∧ (G.1 96 1).toInt ≤ 9 := bd_96_1 hB_G
    have g_52 : (G_14.1 96 1).toInt = (G.1 96 1).toInt := (congrArg Int32.toInt (show G_14.1 96 1 = (G.1 96 1) from ((hq_15.i9 96 1 rfl rfl).trans (hq_5.i9 96 1 rfl rfl))))
    have b_53 : 0 ≤ (G.1 96 2).toInt ∧ (G.1 96 2).toInt ≤ 9 := bd_96_2 hB_G
    have g_54 : (G_14.1 96 2).toInt = (G.1 96 2).toInt := (congrArg Int32.toInt (show G_14.1 96 2 = (G.1 96 2) from ((hq_15.i9 96 2 rfl rfl).trans (hq_5.i9 96 2 rfl rfl))))
    exact K G_14 _ _ _ (Or.inl ⟨((((hq_15.r9 0 0 rfl rfl).trans (hq_5.r9 0 0 rfl rfl))).trans (hv_0_0)), ((((hq_15.r9 0 1 rfl rfl).trans (hq_5.r9 0 1 rfl rfl))).trans (hv_0_1)), ((((hq_15.r9 6 4 rfl rfl).trans (hq_5.r9 6 4 rfl rfl))).trans (hv_6_4)), by omega, by omega, by omega, by omega, by omega, by omega, by omega, by omega, by omega, by omega, by omega, by omega, by omega⟩) hB_G_14 hW hS (lv_sub hl [0, 1, 2, 3] rfl)
  · skip
    obtain ⟨p0, hp0⟩ : ∃ y, y = xs (i0 + 1).toNatClampNeg := ⟨_, rfl⟩
    obtain ⟨p1, hp1⟩ : ∃ y, y = xs (i0 + 2).toNatClampNeg := ⟨_, rfl⟩
    obtain ⟨p2, hp2⟩ : ∃ y, y = xs (i0 + 3).toNatClampNeg := ⟨_, rfl⟩
    obtain ⟨p3, hp3⟩ : ∃ y, y = xs (i0 + 4).toNatClampNeg := ⟨_, rfl⟩
    obtain ⟨p4, hp4⟩ : ∃ y, y = xs (i0 + 5).toNatClampNeg := ⟨_, rfl⟩
    refine lv_aload_n hx hb dL_law_1358 rfl (lv_at hl 1 rfl) ?_
    have b_1 : 0 ≤ (G.1 30 4).toInt ∧ (G.1 30 4).toInt ≤ 40 := bd_30_4 hB_G
    have b_2 : 0 ≤ (G.1 30 5).toInt ∧ (G.1 30 5).toInt ≤ 40 := bd_30_5 hB_G
    refine S_calli (va_runV (As := []) (rest := []) ⟨hx, hb, hml, hown, hts⟩ (k_Wredo l D k A a z G  (by omega)) (cwV 0 hts (gd_V hgd m1226 m1227 m1228 m117 m1229) rfl rfl rfl hd_X11_redo ⟨Nat.le_of_ble_eq_true rfl, Nat.le_of_ble_eq_true rfl⟩) (pre_W hW hB_G hK hZ hS kd_0 rfl) rfl rfl hl.1 rfl (lv_room (Nat.le_of_ble_eq_true rfl)) dL_law_1359 ⟨Nat.le_of_ble_eq_true rfl, Nat.le_of_ble_eq_true rfl⟩) hS (fun r_3 G_4 H locs hpo hW hS => ?_)
    have hX_7 : P_Wredo G r_3 G_4 := hpo
    obtain ⟨hB_G_4, hq_5, f_8, hp_6, -⟩ := hpo
    refine lv_pop hx hb dL_law_1362 rfl ?_
    refine lv_aload_n hx hb dL_law_1363 rfl (lv_at hl 2 rfl) ?_
    have b_9 : 0 ≤ (G.1 66 78).toInt ∧ (G.1 66 78).toInt ≤ 40 := bd_66_78 hB_G
    have g_10 : (G_4.1 66 78).toInt = (G.1 66 78).toInt := (congrArg Int32.toInt (show G_4.1 66 78 = (G.1 66 78) from (hq_5.i9 66 78 rfl rfl)))
    have b_11 : 0 ≤ (G.1 66 79).toInt ∧ (G.1 66 79).toInt ≤ 40 := bd_66_79 hB_G
    have g_12 : (G_4.1 66 79).toInt = (G.1 66 79).toInt := (congrArg Int32.toInt (show G_4.1 66 79 = (G.1 66 79) from (hq_5.i9 66 79 rfl rfl)))
    refine S_calli (va_runV (As := []) (rest := []) ⟨hx, hb, hml, hown, hts⟩ (n_redo l D k A a z G_4  (by omega)) (cwV 0 hts (gd_V hgd m2027 m2028 m2029 m131 m2030) rfl rfl rfl hd_X12_redo ⟨Nat.le_of_ble_eq_true rfl, Nat.le_of_ble_eq_true rfl⟩) (pre_W hW hB_G_4 hK hZ hS kd_66 rfl) rfl rfl hl.1 rfl (lv_room (Nat.le_of_ble_eq_true rfl)) dL_law_1364 ⟨Nat.le_of_ble_eq_true rfl, Nat.le_of_ble_eq_true rfl⟩) hS (fun r_13 G_14 H locs hpo hW hS => ?_)
    have hX_17 : Q_redo G_4 r_13 G_14 := hpo
    obtain ⟨hB_G_14, hq_15, f_18, hp_16, -⟩ := hpo
    obtain ⟨u_19, u_20⟩ := L_redo_2 hX_7 hX_17  (by omega)
    refine lv_pop hx hb dL_law_1367 rfl ?_
    refine lv_goto (tgt := 1641) hx hb dL_law_1368 rfl ?_
    have fr_21 : Fr [110, 111, 58] [(30, 4), (30, 5), (66, 78), (66, 79)] G G_14 := (Fr.call9 (rs := [110, 111, 58]) (fs := [(30, 4), (30, 5), (66, 78), (66, 79)]) (Fr.call9 (rs := [110, 111, 58]) (fs := [(30, 4), (30, 5), (66, 78), (66, 79)]) Fr.rf hq_5 rfl rfl) hq_15 rfl rfl)
    have g_22 : gO G_14 = gO G := gO_fr fr_21 (gr_q rfl) (gf_q rfl)
    have g_23 : gP G_14 = gP G := gP_fr fr_21 (gr_q rfl) (gf_q rfl)
    have g_24 : gS G_14 = gS G := gS_fr fr_21 (gr_q rfl) (gf_q rfl)
    have g_25 : gTE G_14 = gTE G := gTE_fr fr_21 (gr_q rfl) (gf_q rfl)
    have g_26 : gW G_14 = gW G := gW_fr fr_21 (gr_q rfl) (gf_q rfl)
    have b_27 : 0 ≤ (G.1 0 11).toInt ∧ (G.1 0 11).toInt ≤ 1600 := bd_0_11 hB_G
    have g_28 : (G_14.1 0 11).toInt = (G.1 0 11).toInt := (congrArg Int32.toInt (show G_14.1 0 11 = (G.1 0 11) from ((hq_15.i9 0 11 rfl rfl).trans (hq_5.i9 0 11 rfl rfl))))
    have b_29 : 0 ≤ (G.1 3 7).toInt ∧ (G.1 3 7).toInt ≤ 4 := bd_3_7 hB_G
    have g_30 : (G_14.1 3 7).toInt = (G.1 3 7).toInt := (congrArg Int32.toInt (show G_14.1 3 7 = (G.1 3 7) from ((hq_15.i9 3 7 rfl rfl).trans (hq_5.i9 3 7 rfl rfl))))
    have b_31 : (-1) ≤ (G.1 3 8).toInt ∧ (G.1 3 8).toInt ≤ 1600 := bd_3_8 hB_G
    have g_32 : (G_14.1 3 8).toInt = (G.1 3 8).toInt := (congrArg Int32.toInt (show G_14.1 3 8 = (G.1 3 8) from ((hq_15.i9 3 8 rfl rfl).trans (hq_5.i9 3 8 rfl rfl))))
    have b_33 : 0 ≤ (G_4.1 30 4).toInt ∧ (G_4.1 30 4).toInt ≤ 40 := bd_30_4 hB_G_4
    have g_34 : (G_14.1 30 4).toInt = (G_4.1 30 4).toInt := (congrArg Int32.toInt (show G_14.1 30 4 = (G_4.1 30 4) from (hq_15.i9 30 4 rfl rfl)))
    have b_35 : 0 ≤ (G_4.1 30 5).toInt ∧ (G_4.1 30 5).toInt ≤ 40 := bd_30_5 hB_G_4
    have g_36 : (G_14.1 30 5).toInt = (G_4.1 30 5).toInt := (congrArg Int32.toInt (show G_14.1 30 5 = (G_4.1 30 5) from (hq_15.i9 30 5 rfl rfl)))
    have b_37 : 0 ≤ (G.1 31 6).toInt ∧ (G.1 31 6).toInt ≤ 100000 := bd_31_6 hB_G
    have g_38 : (G_14.1 31 6).toInt = (G.1 31 6).toInt := (congrArg Int32.toInt (show G_14.1 31 6 = (G.1 31 6) from ((hq_15.i9 31 6 rfl rfl).trans (hq_5.i9 31 6 rfl rfl))))
    have b_39 : 0 ≤ (G.1 66 1).toInt ∧ (G.1 66 1).toInt ≤ 1600 := bd_66_1 hB_G
    have g_40 : (G_14.1 66 1).toInt = (G.1 66 1).toInt := (congrArg Int32.toInt (show G_14.1 66 1 = (G.1 66 1) from ((hq_15.i9 66 1 rfl rfl).trans (hq_5.i9 66 1 rfl rfl))))
    have b_41 : 0 ≤ (G.1 66 2).toInt ∧ (G.1 66 2).toInt ≤ 4 := bd_66_2 hB_G
    have g_42 : (G_14.1 66 2).toInt = (G.1 66 2).toInt := (congrArg Int32.toInt (show G_14.1 66 2 = (G.1 66 2) from ((hq_15.i9 66 2 rfl rfl).trans (hq_5.i9 66 2 rfl rfl))))
    have b_43 : (-1) ≤ (G.1 66 3).toInt ∧ (G.1 66 3).toInt ≤ 1600 := bd_66_3 hB_G
    have g_44 : (G_14.1 66 3).toInt = (G.1 66 3).toInt := (congrArg Int32.toInt (show G_14.1 66 3 = (G.1 66 3) from ((hq_15.i9 66 3 rfl rfl).trans (hq_5.i9 66 3 rfl rfl))))
    have b_45 : 0 ≤ (G_14.1 66 78).toInt ∧ (G_14.1 66 78).toInt ≤ 40 := bd_66_78 hB_G_14
    have b_46 : 0 ≤ (G_14.1 66 79).toInt ∧ (G_14.1 66 79).toInt ≤ 40 := bd_66_79 hB_G_14
    have b_47 : 0 ≤ (G.1 66 86).toInt ∧ (G.1 66 86).toInt ≤ 100000 := bd_66_86 hB_G
    have g_48 : (G_14.1 66 86).toInt = (G.1 66 86).toInt := (congrArg Int32.toInt (show G_14.1 66 86 = (G.1 66 86) from ((hq_15.i9 66 86 rfl rfl).trans (hq_5.i9 66 86 rfl rfl))))
    have b_49 : 0 ≤ (G.1 96 0).toInt ∧ (G.1 96 0).toInt ≤ 9 := bd_96_0 hB_G
    have g_50 : (G_14.1 96 0).toInt = (G.1 96 0).toInt := (congrArg Int32.toInt (show G_14.1 96 0 = (G.1 96 0) from ((hq_15.i9 96 0 rfl rfl).trans (hq_5.i9 96 0 rfl rfl))))
    have b_51 : 0 ≤ (G.1 96 1).toInt ∧ (G.1 96 1).toInt ≤ 9 := bd_96_1 hB_G
    have g_52 : (G_14.1 96 1).toInt = (G.1 96 1).toInt := (congrArg Int32.toInt (show G_14.1 96 1 = (G.1 96 1) from ((hq_15.i9 96 1 rfl rfl).trans (hq_5.i9 96 1 rfl rfl))))
    have b_53 : 0 ≤ (G.1 96 2).toInt ∧ (G.1 96 2).toInt ≤ 9 := bd_96_2 hB_G
    have g_54 : (G_14.1 96 2).toInt = (G.1 96 2).toInt := (congrArg Int32.toInt (show G_14.1 96 2 = (G.1 96 2) from ((hq_15.i9 96 2 rfl rfl).trans (hq_5.i9 96 2 rfl rfl))))
    exact K G_14 _ _ _ (Or.inr ⟨((((hq_15.r9 0 0 rfl rfl).trans (hq_5.r9 0 0 rfl rfl))).trans (hv_0_0)), ((((hq_15.r9 0 1 rfl rfl).trans (hq_5.r9 0 1 rfl rfl))).trans (hv_0_1)), ((((hq_15.r9 6 4 rfl rfl).trans (hq_5.r9 6 4 rfl rfl))).trans (hv_6_4)), by omega, by omega, by omega, by omega, by omega, by omega, by omega, by omega, by omega, by omega, by omega, by omega, by omega⟩) hB_G_14 hW hS (lv_sub hl [0, 1, 2, 3] rfl)

set_option maxHeartbeats 4000000 in
set_option maxRecDepth 100000 in
theorem law_29 {p : Program} {l : Launch} {e : Env} {s : State} {m : MethodId} {below : List Frame} {meth : Method} {c : Code} {D : va_G} {k : KT} {A : Nat → Prop} {a : Nat → Nat} {z : SK} {b L : Nat} {xs : Nat → Int32} (hL : L ≤ 3072) (C0 : lw_At p s m meth c b L xs) (hK : cK D k s) (hZ : Sx A z s) (hbA : ¬ A b) {G : GS} {i0 : Int32} (hi0 : 0 ≤ i0.toInt) (hi6 : i0.toInt + 6 ≤ L) (hI : LI G) (hB_G : Bd G) {H : Heap} {locs : List Loc} {ls : Array Slot} (hW : Wd D k A a G H) (hS : va_S A s.heap H locs) (hl : lv_has ls 4 [(0, .ref b), (1, .ref (a 0)), (2, .ref (a 66)), (3, .int i0)]) (K : ∀ (G1 : GS) (H1 : Heap) (locs1 : List Loc) (ls1 : Array Slot), LI G1 → Bd G1 → Wd D k A a G1 H1 → va_S A s.heap H1 locs1 → lv_has ls1 4 [(0, .ref b), (1, .ref (a 0)), (2, .ref (a 66)), (3, .int i0)] → W p l e room_1 s m #[Value.ref b] below meth c H1 locs1 119 46443 (lw_Z below #[Value.ref b] s) (F0 m 1641 ls1 [])) : W p l e room_1 s m #[Value.ref b] below meth c H locs 119 46443 (lw_Z below #[Value.ref b] s) (F0 m 1371 ls []) := by
  obtain ⟨hx, hb, hr, hml, hown, hts, hX, hbl, hlocks, hgv⟩ := id C0
  have hown : s.vm.findClass RL = some m.cls := hown
  have hgd : ∀ w ∈ gd, w ∈ lw_tbl := fun w h => (List.mem_filter.mp h).1
  have hg : ∀ w ∈ gd, w.before #[Value.ref b] s = true := fun w h => hts w (hgd w h)
  rcases hI with ⟨hv_0_0, hv_0_1, hv_6_4, hj0, hj1, hj2, hj3, hj4, hj5, hj6, hj7, hj8, hj9, hj10, hj11, hj12⟩ | ⟨hv_0_0, hv_0_1, hv_6_4, hj0, hj1, hj2, hj3, hj4, hj5, hj6, hj7, hj8, hj9, hj10, hj11, hj12⟩
  · skip
    obtain ⟨p0, hp0⟩ : ∃ y, y = xs (i0 + 1).toNatClampNeg := ⟨_, rfl⟩
    obtain ⟨p1, hp1⟩ : ∃ y, y = xs (i0 + 2).toNatClampNeg := ⟨_, rfl⟩
    obtain ⟨p2, hp2⟩ : ∃ y, y = xs (i0 + 3).toNatClampNeg := ⟨_, rfl⟩
    obtain ⟨p3, hp3⟩ : ∃ y, y = xs (i0 + 4).toNatClampNeg := ⟨_, rfl⟩
    obtain ⟨p4, hp4⟩ : ∃ y, y = xs (i0 + 5).toNatClampNeg := ⟨_, rfl⟩
    refine lv_aload_n hx hb dL_law_1371 rfl (lv_at hl 1 rfl) ?_
    refine ld_1 hL hi0 hi6 hx hb hX hbl hbA hS hl dL_law_1372 dL_law_1373 dL_law_1374 dL_law_1375 dL_law_1376 hp0 ?_
    refine S_calli (va_runV (As := [.int p0]) (rest := []) ⟨hx, hb, hml, hown, hts⟩ (k_Wwalker l D k A a z G p0 ) (cwV 1 hts (gd_V hgd m1234 m1235 m1236 m117 m1237) rfl rfl rfl hd_X11_walker ⟨Nat.le_of_ble_eq_true rfl, Nat.le_of_ble_eq_true rfl⟩) (pre_W hW hB_G hK hZ hS kd_0 rfl) rfl rfl hl.1 rfl (lv_room (Nat.le_of_ble_eq_true rfl)) dL_law_1377 ⟨Nat.le_of_ble_eq_true rfl, Nat.le_of_ble_eq_true rfl⟩) hS (fun r_1 G_2 H locs hpo hW hS => ?_)
    have hX_5 : P_Wwalker p0 G r_1 G_2 := hpo
    obtain ⟨hB_G_2, hq_3, -⟩ := hpo
    refine lv_pop hx hb dL_law_1380 rfl ?_
    refine lv_aload_n hx hb dL_law_1381 rfl (lv_at hl 2 rfl) ?_
    refine ld_1 hL hi0 hi6 hx hb hX hbl hbA hS hl dL_law_1382 dL_law_1383 dL_law_1384 dL_law_1385 dL_law_1386 hp0 ?_
    refine S_calli (va_runV (As := [.int p0]) (rest := []) ⟨hx, hb, hml, hown, hts⟩ (n_walker l D k A a z G_2 p0 ) (cwV 1 hts (gd_V hgd m2031 m2032 m2033 m131 m2034) rfl rfl rfl hd_X12_walker ⟨Nat.le_of_ble_eq_true rfl, Nat.le_of_ble_eq_true rfl⟩) (pre_W hW hB_G_2 hK hZ hS kd_66 rfl) rfl rfl hl.1 rfl (lv_room (Nat.le_of_ble_eq_true rfl)) dL_law_1387 ⟨Nat.le_of_ble_eq_true rfl, Nat.le_of_ble_eq_true rfl⟩) hS (fun r_6 G_7 H locs hpo hW hS => ?_)
    have hX_10 : Q_walker p0 G_2 r_6 G_7 := hpo
    obtain ⟨hB_G_7, hq_8, -⟩ := hpo
    have u_11 := L_walker_1 hX_5 hX_10 rfl (by omega)
    refine lv_pop hx hb dL_law_1390 rfl ?_
    refine lv_goto (tgt := 1641) hx hb dL_law_1391 rfl ?_
    have fr_12 : Fr [] [] G G_7 := (Fr.call9 (rs := []) (fs := []) (Fr.call9 (rs := []) (fs := []) Fr.rf hq_3 rfl rfl) hq_8 rfl rfl)
    have g_13 : gIA G_7 = gIA G := gIA_fr fr_12 (gr_q rfl) (gf_q rfl)
    exact K G_7 _ _ _ (Or.inl (LI_of_1 (LIn_fr_1 (LIn_fr_1 (show LIn_1 G from ⟨hv_0_0, hv_0_1, hv_6_4, hj0, hj1, hj2, hj3, hj4, hj5, hj6, hj7, hj8, hj9, hj10, hj11⟩) hq_3 (by decide +kernel)) hq_8 (by decide +kernel)) (by omega))) hB_G_7 hW hS (lv_sub hl [0, 1, 2, 3] rfl)
  · skip
    obtain ⟨p0, hp0⟩ : ∃ y, y = xs (i0 + 1).toNatClampNeg := ⟨_, rfl⟩
    obtain ⟨p1, hp1⟩ : ∃ y, y = xs (i0 + 2).toNatClampNeg := ⟨_, rfl⟩
    obtain ⟨p2, hp2⟩ : ∃ y, y = xs (i0 + 3).toNatClampNeg := ⟨_, rfl⟩
    obtain ⟨p3, hp3⟩ : ∃ y, y = xs (i0 + 4).toNatClampNeg := ⟨_, rfl⟩
    obtain ⟨p4, hp4⟩ : ∃ y, y = xs (i0 + 5).toNatClampNeg := ⟨_, rfl⟩
    refine lv_aload_n hx hb dL_law_1371 rfl (lv_at hl 1 rfl) ?_
    refine ld_1 hL hi0 hi6 hx hb hX hbl hbA hS hl dL_law_1372 dL_law_1373 dL_law_1374 dL_law_1375 dL_law_1376 hp0 ?_
    refine S_calli (va_runV (As := [.int p0]) (rest := []) ⟨hx, hb, hml, hown, hts⟩ (k_Wwalker l D k A a z G p0 ) (cwV 1 hts (gd_V hgd m1234 m1235 m1236 m117 m1237) rfl rfl rfl hd_X11_walker ⟨Nat.le_of_ble_eq_true rfl, Nat.le_of_ble_eq_true rfl⟩) (pre_W hW hB_G hK hZ hS kd_0 rfl) rfl rfl hl.1 rfl (lv_room (Nat.le_of_ble_eq_true rfl)) dL_law_1377 ⟨Nat.le_of_ble_eq_true rfl, Nat.le_of_ble_eq_true rfl⟩) hS (fun r_1 G_2 H locs hpo hW hS => ?_)
    have hX_5 : P_Wwalker p0 G r_1 G_2 := hpo
    obtain ⟨hB_G_2, hq_3, -⟩ := hpo
    refine lv_pop hx hb dL_law_1380 rfl ?_
    refine lv_aload_n hx hb dL_law_1381 rfl (lv_at hl 2 rfl) ?_
    refine ld_1 hL hi0 hi6 hx hb hX hbl hbA hS hl dL_law_1382 dL_law_1383 dL_law_1384 dL_law_1385 dL_law_1386 hp0 ?_
    refine S_calli (va_runV (As := [.int p0]) (rest := []) ⟨hx, hb, hml, hown, hts⟩ (n_walker l D k A a z G_2 p0 ) (cwV 1 hts (gd_V hgd m2031 m2032 m2033 m131 m2034) rfl rfl rfl hd_X12_walker ⟨Nat.le_of_ble_eq_true rfl, Nat.le_of_ble_eq_true rfl⟩) (pre_W hW hB_G_2 hK hZ hS kd_66 rfl) rfl rfl hl.1 rfl (lv_room (Nat.le_of_ble_eq_true rfl)) dL_law_1387 ⟨Nat.le_of_ble_eq_true rfl, Nat.le_of_ble_eq_true rfl⟩) hS (fun r_6 G_7 H locs hpo hW hS => ?_)
    have hX_10 : Q_walker p0 G_2 r_6 G_7 := hpo
    obtain ⟨hB_G_7, hq_8, -⟩ := hpo
    have u_11 := L_walker_2 hX_5 hX_10 rfl (by omega)
    refine lv_pop hx hb dL_law_1390 rfl ?_
    refine lv_goto (tgt := 1641) hx hb dL_law_1391 rfl ?_
    have fr_12 : Fr [] [] G G_7 := (Fr.call9 (rs := []) (fs := []) (Fr.call9 (rs := []) (fs := []) Fr.rf hq_3 rfl rfl) hq_8 rfl rfl)
    have g_13 : gIB G_7 = gIB G := gIB_fr fr_12 (gr_q rfl) (gf_q rfl)
    exact K G_7 _ _ _ (Or.inr (LI_of_2 (LIn_fr_2 (LIn_fr_2 (show LIn_2 G from ⟨hv_0_0, hv_0_1, hv_6_4, hj0, hj1, hj2, hj3, hj4, hj5, hj6, hj7, hj8, hj9, hj10, hj11⟩) hq_3 (by decide +kernel)) hq_8 (by decide +kernel)) (by omega))) hB_G_7 hW hS (lv_sub hl [0, 1, 2, 3] rfl)

set_option maxHeartbeats 4000000 in
set_option maxRecDepth 100000 in
theorem law_30 {p : Program} {l : Launch} {e : Env} {s : State} {m : MethodId} {below : List Frame} {meth : Method} {c : Code} {D : va_G} {k : KT} {A : Nat → Prop} {a : Nat → Nat} {z : SK} {b L : Nat} {xs : Nat → Int32} (hL : L ≤ 3072) (C0 : lw_At p s m meth c b L xs) (hK : cK D k s) (hZ : Sx A z s) (hbA : ¬ A b) {G : GS} {i0 : Int32} (hi0 : 0 ≤ i0.toInt) (hi6 : i0.toInt + 6 ≤ L) (hI : LI G) (hB_G : Bd G) {H : Heap} {locs : List Loc} {ls : Array Slot} (hW : Wd D k A a G H) (hS : va_S A s.heap H locs) (hl : lv_has ls 4 [(0, .ref b), (1, .ref (a 0)), (2, .ref (a 66)), (3, .int i0)]) (K : ∀ (G1 : GS) (H1 : Heap) (locs1 : List Loc) (ls1 : Array Slot), LI G1 → Bd G1 → Wd D k A a G1 H1 → va_S A s.heap H1 locs1 → lv_has ls1 4 [(0, .ref b), (1, .ref (a 0)), (2, .ref (a 66)), (3, .int i0)] → W p l e room_1 s m #[Value.ref b] below meth c H1 locs1 119 46443 (lw_Z below #[Value.ref b] s) (F0 m 1641 ls1 [])) : W p l e room_1 s m #[Value.ref b] below meth c H locs 119 46443 (lw_Z below #[Value.ref b] s) (F0 m 1394 ls []) := by
  obtain ⟨hx, hb, hr, hml, hown, hts, hX, hbl, hlocks, hgv⟩ := id C0
  have hown : s.vm.findClass RL = some m.cls := hown
  have hgd : ∀ w ∈ gd, w ∈ lw_tbl := fun w h => (List.mem_filter.mp h).1
  have hg : ∀ w ∈ gd, w.before #[Value.ref b] s = true := fun w h => hts w (hgd w h)
  rcases hI with ⟨hv_0_0, hv_0_1, hv_6_4, hj0, hj1, hj2, hj3, hj4, hj5, hj6, hj7, hj8, hj9, hj10, hj11, hj12⟩ | ⟨hv_0_0, hv_0_1, hv_6_4, hj0, hj1, hj2, hj3, hj4, hj5, hj6, hj7, hj8, hj9, hj10, hj11, hj12⟩
  · skip
    obtain ⟨p0, hp0⟩ : ∃ y, y = xs (i0 + 1).toNatClampNeg := ⟨_, rfl⟩
    obtain ⟨p1, hp1⟩ : ∃ y, y = xs (i0 + 2).toNatClampNeg := ⟨_, rfl⟩
    obtain ⟨p2, hp2⟩ : ∃ y, y = xs (i0 + 3).toNatClampNeg := ⟨_, rfl⟩
    obtain ⟨p3, hp3⟩ : ∃ y, y = xs (i0 + 4).toNatClampNeg := ⟨_, rfl⟩
    obtain ⟨p4, hp4⟩ : ∃ y, y = xs (i0 + 5).toNatClampNeg := ⟨_, rfl⟩
    refine lv_aload_n hx hb dL_law_1394 rfl (lv_at hl 1 rfl) ?_
    refine ld_1 hL hi0 hi6 hx hb hX hbl hbA hS hl dL_law_1395 dL_law_1396 dL_law_1397 dL_law_1398 dL_law_1399 hp0 ?_
    refine S_calli (va_runV (As := [.int p0]) (rest := []) ⟨hx, hb, hml, hown, hts⟩ (k_Wlies l D k A a z G p0 ) (cwV 1 hts (gd_V hgd m1238 m1239 m1240 m117 m1241) rfl rfl rfl hd_X11_lies ⟨Nat.le_of_ble_eq_true rfl, Nat.le_of_ble_eq_true rfl⟩) (pre_W hW hB_G hK hZ hS kd_0 rfl) rfl rfl hl.1 rfl (lv_room (Nat.le_of_ble_eq_true rfl)) dL_law_1400 ⟨Nat.le_of_ble_eq_true rfl, Nat.le_of_ble_eq_true rfl⟩) hS (fun r_1 G_2 H locs hpo hW hS => ?_)
    have hX_5 : P_Wlies p0 G r_1 G_2 := hpo
    obtain ⟨hB_G_2, hq_3, -⟩ := hpo
    refine lv_pop hx hb dL_law_1403 rfl ?_
    refine lv_aload_n hx hb dL_law_1404 rfl (lv_at hl 2 rfl) ?_
    refine ld_1 hL hi0 hi6 hx hb hX hbl hbA hS hl dL_law_1405 dL_law_1406 dL_law_1407 dL_law_1408 dL_law_1409 hp0 ?_
    refine S_calli (va_runV (As := [.int p0]) (rest := []) ⟨hx, hb, hml, hown, hts⟩ (n_lies l D k A a z G_2 p0 ) (cwV 1 hts (gd_V hgd m2035 m2036 m2037 m131 m2038) rfl rfl rfl hd_X12_lies ⟨Nat.le_of_ble_eq_true rfl, Nat.le_of_ble_eq_true rfl⟩) (pre_W hW hB_G_2 hK hZ hS kd_66 rfl) rfl rfl hl.1 rfl (lv_room (Nat.le_of_ble_eq_true rfl)) dL_law_1410 ⟨Nat.le_of_ble_eq_true rfl, Nat.le_of_ble_eq_true rfl⟩) hS (fun r_6 G_7 H locs hpo hW hS => ?_)
    have hX_10 : Q_lies p0 G_2 r_6 G_7 := hpo
    obtain ⟨hB_G_7, hq_8, -⟩ := hpo
    refine lv_pop hx hb dL_law_1413 rfl ?_
    refine lv_goto (tgt := 1641) hx hb dL_law_1414 rfl ?_
    have fr_11 : Fr [] [] G G_7 := (Fr.call9 (rs := []) (fs := []) (Fr.call9 (rs := []) (fs := []) Fr.rf hq_3 rfl rfl) hq_8 rfl rfl)
    have g_12 : gIA G_7 = gIA G := gIA_fr fr_11 (gr_q rfl) (gf_q rfl)
    exact K G_7 _ _ _ (Or.inl (LI_of_1 (LIn_fr_1 (LIn_fr_1 (show LIn_1 G from ⟨hv_0_0, hv_0_1, hv_6_4, hj0, hj1, hj2, hj3, hj4, hj5, hj6, hj7, hj8, hj9, hj10, hj11⟩) hq_3 (by decide +kernel)) hq_8 (by decide +kernel)) (by omega))) hB_G_7 hW hS (lv_sub hl [0, 1, 2, 3] rfl)
  · skip
    obtain ⟨p0, hp0⟩ : ∃ y, y = xs (i0 + 1).toNatClampNeg := ⟨_, rfl⟩
    obtain ⟨p1, hp1⟩ : ∃ y, y = xs (i0 + 2).toNatClampNeg := ⟨_, rfl⟩
    obtain ⟨p2, hp2⟩ : ∃ y, y = xs (i0 + 3).toNatClampNeg := ⟨_, rfl⟩
    obtain ⟨p3, hp3⟩ : ∃ y, y = xs (i0 + 4).toNatClampNeg := ⟨_, rfl⟩
    obtain ⟨p4, hp4⟩ : ∃ y, y = xs (i0 + 5).toNatClampNeg := ⟨_, rfl⟩
    refine lv_aload_n hx hb dL_law_1394 rfl (lv_at hl 1 rfl) ?_
    refine ld_1 hL hi0 hi6 hx hb hX hbl hbA hS hl dL_law_1395 dL_law_1396 dL_law_1397 dL_law_1398 dL_law_1399 hp0 ?_
    refine S_calli (va_runV (As := [.int p0]) (rest := []) ⟨hx, hb, hml, hown, hts⟩ (k_Wlies l D k A a z G p0 ) (cwV 1 hts (gd_V hgd m1238 m1239 m1240 m117 m1241) rfl rfl rfl hd_X11_lies ⟨Nat.le_of_ble_eq_true rfl, Nat.le_of_ble_eq_true rfl⟩) (pre_W hW hB_G hK hZ hS kd_0 rfl) rfl rfl hl.1 rfl (lv_room (Nat.le_of_ble_eq_true rfl)) dL_law_1400 ⟨Nat.le_of_ble_eq_true rfl, Nat.le_of_ble_eq_true rfl⟩) hS (fun r_1 G_2 H locs hpo hW hS => ?_)
    have hX_5 : P_Wlies p0 G r_1 G_2 := hpo
    obtain ⟨hB_G_2, hq_3, -⟩ := hpo
    refine lv_pop hx hb dL_law_1403 rfl ?_
    refine lv_aload_n hx hb dL_law_1404 rfl (lv_at hl 2 rfl) ?_
    refine ld_1 hL hi0 hi6 hx hb hX hbl hbA hS hl dL_law_1405 dL_law_1406 dL_law_1407 dL_law_1408 dL_law_1409 hp0 ?_
    refine S_calli (va_runV (As := [.int p0]) (rest := []) ⟨hx, hb, hml, hown, hts⟩ (n_lies l D k A a z G_2 p0 ) (cwV 1 hts (gd_V hgd m2035 m2036 m2037 m131 m2038) rfl rfl rfl hd_X12_lies ⟨Nat.le_of_ble_eq_true rfl, Nat.le_of_ble_eq_true rfl⟩) (pre_W hW hB_G_2 hK hZ hS kd_66 rfl) rfl rfl hl.1 rfl (lv_room (Nat.le_of_ble_eq_true rfl)) dL_law_1410 ⟨Nat.le_of_ble_eq_true rfl, Nat.le_of_ble_eq_true rfl⟩) hS (fun r_6 G_7 H locs hpo hW hS => ?_)
    have hX_10 : Q_lies p0 G_2 r_6 G_7 := hpo
    obtain ⟨hB_G_7, hq_8, -⟩ := hpo
    refine lv_pop hx hb dL_law_1413 rfl ?_
    refine lv_goto (tgt := 1641) hx hb dL_law_1414 rfl ?_
    have fr_11 : Fr [] [] G G_7 := (Fr.call9 (rs := []) (fs := []) (Fr.call9 (rs := []) (fs := []) Fr.rf hq_3 rfl rfl) hq_8 rfl rfl)
    have g_12 : gIB G_7 = gIB G := gIB_fr fr_11 (gr_q rfl) (gf_q rfl)
    exact K G_7 _ _ _ (Or.inr (LI_of_2 (LIn_fr_2 (LIn_fr_2 (show LIn_2 G from ⟨hv_0_0, hv_0_1, hv_6_4, hj0, hj1, hj2, hj3, hj4, hj5, hj6, hj7, hj8, hj9, hj10, hj11⟩) hq_3 (by decide +kernel)) hq_8 (by decide +kernel)) (by omega))) hB_G_7 hW hS (lv_sub hl [0, 1, 2, 3] rfl)

set_option maxHeartbeats 4000000 in
set_option maxRecDepth 100000 in
theorem law_31 {p : Program} {l : Launch} {e : Env} {s : State} {m : MethodId} {below : List Frame} {meth : Method} {c : Code} {D : va_G} {k : KT} {A : Nat → Prop} {a : Nat → Nat} {z : SK} {b L : Nat} {xs : Nat → Int32} (hL : L ≤ 3072) (C0 : lw_At p s m meth c b L xs) (hK : cK D k s) (hZ : Sx A z s) (hbA : ¬ A b) {G : GS} {i0 : Int32} (hi0 : 0 ≤ i0.toInt) (hi6 : i0.toInt + 6 ≤ L) (hI : LI G) (hB_G : Bd G) {H : Heap} {locs : List Loc} {ls : Array Slot} (hW : Wd D k A a G H) (hS : va_S A s.heap H locs) (hl : lv_has ls 4 [(0, .ref b), (1, .ref (a 0)), (2, .ref (a 66)), (3, .int i0)]) (K : ∀ (G1 : GS) (H1 : Heap) (locs1 : List Loc) (ls1 : Array Slot), LI G1 → Bd G1 → Wd D k A a G1 H1 → va_S A s.heap H1 locs1 → lv_has ls1 4 [(0, .ref b), (1, .ref (a 0)), (2, .ref (a 66)), (3, .int i0)] → W p l e room_1 s m #[Value.ref b] below meth c H1 locs1 119 46443 (lw_Z below #[Value.ref b] s) (F0 m 1641 ls1 [])) : W p l e room_1 s m #[Value.ref b] below meth c H locs 119 46443 (lw_Z below #[Value.ref b] s) (F0 m 1417 ls []) := by
  obtain ⟨hx, hb, hr, hml, hown, hts, hX, hbl, hlocks, hgv⟩ := id C0
  have hown : s.vm.findClass RL = some m.cls := hown
  have hgd : ∀ w ∈ gd, w ∈ lw_tbl := fun w h => (List.mem_filter.mp h).1
  have hg : ∀ w ∈ gd, w.before #[Value.ref b] s = true := fun w h => hts w (hgd w h)
  rcases hI with ⟨hv_0_0, hv_0_1, hv_6_4, hj0, hj1, hj2, hj3, hj4, hj5, hj6, hj7, hj8, hj9, hj10, hj11, hj12⟩ | ⟨hv_0_0, hv_0_1, hv_6_4, hj0, hj1, hj2, hj3, hj4, hj5, hj6, hj7, hj8, hj9, hj10, hj11, hj12⟩
  · skip
    obtain ⟨p0, hp0⟩ : ∃ y, y = xs (i0 + 1).toNatClampNeg := ⟨_, rfl⟩
    obtain ⟨p1, hp1⟩ : ∃ y, y = xs (i0 + 2).toNatClampNeg := ⟨_, rfl⟩
    obtain ⟨p2, hp2⟩ : ∃ y, y = xs (i0 + 3).toNatClampNeg := ⟨_, rfl⟩
    obtain ⟨p3, hp3⟩ : ∃ y, y = xs (i0 + 4).toNatClampNeg := ⟨_, rfl⟩
    obtain ⟨p4, hp4⟩ : ∃ y, y = xs (i0 + 5).toNatClampNeg := ⟨_, rfl⟩
    refine lv_aload_n hx hb dL_law_1417 rfl (lv_at hl 1 rfl) ?_
    refine ld_1 hL hi0 hi6 hx hb hX hbl hbA hS hl dL_law_1418 dL_law_1419 dL_law_1420 dL_law_1421 dL_law_1422 hp0 ?_
    refine ld_2 hL hi0 hi6 hx hb hX hbl hbA hS hl dL_law_1423 dL_law_1424 dL_law_1425 dL_law_1426 dL_law_1427 hp1 ?_
    refine ld_3 hL hi0 hi6 hx hb hX hbl hbA hS hl dL_law_1428 dL_law_1429 dL_law_1430 dL_law_1431 dL_law_1432 hp2 ?_
    refine S_calli (va_runV (As := [.int p0, .int p1, .int p2]) (rest := []) ⟨hx, hb, hml, hown, hts⟩ (k_Wsight_1 l D k A a z G p0 p1 p2 hv_0_0 hv_0_1 hv_6_4) (cwV 3 hts (gd_V hgd m1242 m1243 m1244 m117 m1245) rfl rfl rfl hd_X11_sight ⟨Nat.le_of_ble_eq_true rfl, Nat.le_of_ble_eq_true rfl⟩) (pre_W hW hB_G hK hZ hS kd_0 rfl) rfl rfl hl.1 rfl (lv_room (Nat.le_of_ble_eq_true rfl)) dL_law_1433 ⟨Nat.le_of_ble_eq_true rfl, Nat.le_of_ble_eq_true rfl⟩) hS (fun r_1 G_2 H locs hpo hW hS => ?_)
    have hX_5 : P_Wsight_1 p0 p1 p2 G r_1 G_2 := hpo
    obtain ⟨hB_G_2, hq_3, -⟩ := hpo
    refine lv_pop hx hb dL_law_1436 rfl ?_
    refine lv_aload_n hx hb dL_law_1437 rfl (lv_at hl 2 rfl) ?_
    refine ld_1 hL hi0 hi6 hx hb hX hbl hbA hS hl dL_law_1438 dL_law_1439 dL_law_1440 dL_law_1441 dL_law_1442 hp0 ?_
    refine ld_2 hL hi0 hi6 hx hb hX hbl hbA hS hl dL_law_1443 dL_law_1444 dL_law_1445 dL_law_1446 dL_law_1447 hp1 ?_
    refine ld_3 hL hi0 hi6 hx hb hX hbl hbA hS hl dL_law_1448 dL_law_1449 dL_law_1450 dL_law_1451 dL_law_1452 hp2 ?_
    have fr_6 : Fr [61, 62, 63, 64, 65] [(31, 5)] G G_2 := (Fr.call9 (rs := [61, 62, 63, 64, 65]) (fs := [(31, 5)]) Fr.rf hq_3 rfl rfl)
    have g_7 : gW G_2 = gW G := gW_fr fr_6 (gr_q rfl) (gf_q rfl)
    have g_8 : gS G_2 = gS G := gS_fr fr_6 (gr_q rfl) (gf_q rfl)
    refine S_calli (va_runV (As := [.int p0, .int p1, .int p2]) (rest := []) ⟨hx, hb, hml, hown, hts⟩ (n_sight l D k A a z G_2 p0 p1 p2 (by omega) (by omega)) (cwV 3 hts (gd_V hgd m2039 m2040 m2041 m131 m2042) rfl rfl rfl hd_X12_sight ⟨Nat.le_of_ble_eq_true rfl, Nat.le_of_ble_eq_true rfl⟩) (pre_W hW hB_G_2 hK hZ hS kd_66 rfl) rfl rfl hl.1 rfl (lv_room (Nat.le_of_ble_eq_true rfl)) dL_law_1453 ⟨Nat.le_of_ble_eq_true rfl, Nat.le_of_ble_eq_true rfl⟩) hS (fun r_9 G_10 H locs hpo hW hS => ?_)
    have hX_13 : Q_sight p0 p1 p2 G_2 r_9 G_10 := hpo
    obtain ⟨hB_G_10, hq_11, hp_12, -⟩ := hpo
    obtain ⟨u_14, u_15⟩ := L_sight_1 hX_5 hX_13 rfl rfl rfl (by omega) hB_G (by omega)
    refine lv_pop hx hb dL_law_1456 rfl ?_
    refine lv_goto (tgt := 1641) hx hb dL_law_1457 rfl ?_
    have fr_16 : Fr [112, 113, 114, 115, 116, 61, 62, 63, 64, 65] [(31, 5), (66, 85)] G G_10 := (Fr.call9 (rs := [112, 113, 114, 115, 116, 61, 62, 63, 64, 65]) (fs := [(31, 5), (66, 85)]) (Fr.call9 (rs := [112, 113, 114, 115, 116, 61, 62, 63, 64, 65]) (fs := [(31, 5), (66, 85)]) Fr.rf hq_3 rfl rfl) hq_11 rfl rfl)
    have g_17 : gO G_10 = gO G := gO_fr fr_16 (gr_q rfl) (gf_q rfl)
    have g_18 : gP G_10 = gP G := gP_fr fr_16 (gr_q rfl) (gf_q rfl)
    have g_19 : gTE G_10 = gTE G := gTE_fr fr_16 (gr_q rfl) (gf_q rfl)
    have g_20 : gW G_10 = gW G := gW_fr fr_16 (gr_q rfl) (gf_q rfl)
    have b_21 : 0 ≤ (G.1 0 11).toInt ∧ (G.1 0 11).toInt ≤ 1600 := bd_0_11 hB_G
    have g_22 : (G_10.1 0 11).toInt = (G.1 0 11).toInt := (congrArg Int32.toInt (show G_10.1 0 11 = (G.1 0 11) from ((hq_11.i9 0 11 rfl rfl).trans (hq_3.i9 0 11 rfl rfl))))
    have b_23 : 0 ≤ (G.1 3 7).toInt ∧ (G.1 3 7).toInt ≤ 4 := bd_3_7 hB_G
    have g_24 : (G_10.1 3 7).toInt = (G.1 3 7).toInt := (congrArg Int32.toInt (show G_10.1 3 7 = (G.1 3 7) from ((hq_11.i9 3 7 rfl rfl).trans (hq_3.i9 3 7 rfl rfl))))
    have b_25 : (-1) ≤ (G.1 3 8).toInt ∧ (G.1 3 8).toInt ≤ 1600 := bd_3_8 hB_G
    have g_26 : (G_10.1 3 8).toInt = (G.1 3 8).toInt := (congrArg Int32.toInt (show G_10.1 3 8 = (G.1 3 8) from ((hq_11.i9 3 8 rfl rfl).trans (hq_3.i9 3 8 rfl rfl))))
    have b_27 : 0 ≤ (G.1 30 4).toInt ∧ (G.1 30 4).toInt ≤ 40 := bd_30_4 hB_G
    have g_28 : (G_10.1 30 4).toInt = (G.1 30 4).toInt := (congrArg Int32.toInt (show G_10.1 30 4 = (G.1 30 4) from ((hq_11.i9 30 4 rfl rfl).trans (hq_3.i9 30 4 rfl rfl))))
    have b_29 : 0 ≤ (G.1 30 5).toInt ∧ (G.1 30 5).toInt ≤ 40 := bd_30_5 hB_G
    have g_30 : (G_10.1 30 5).toInt = (G.1 30 5).toInt := (congrArg Int32.toInt (show G_10.1 30 5 = (G.1 30 5) from ((hq_11.i9 30 5 rfl rfl).trans (hq_3.i9 30 5 rfl rfl))))
    have b_31 : 0 ≤ (G.1 31 6).toInt ∧ (G.1 31 6).toInt ≤ 100000 := bd_31_6 hB_G
    have g_32 : (G_10.1 31 6).toInt = (G.1 31 6).toInt := (congrArg Int32.toInt (show G_10.1 31 6 = (G.1 31 6) from ((hq_11.i9 31 6 rfl rfl).trans (hq_3.i9 31 6 rfl rfl))))
    have b_33 : 0 ≤ (G.1 66 1).toInt ∧ (G.1 66 1).toInt ≤ 1600 := bd_66_1 hB_G
    have g_34 : (G_10.1 66 1).toInt = (G.1 66 1).toInt := (congrArg Int32.toInt (show G_10.1 66 1 = (G.1 66 1) from ((hq_11.i9 66 1 rfl rfl).trans (hq_3.i9 66 1 rfl rfl))))
    have b_35 : 0 ≤ (G.1 66 2).toInt ∧ (G.1 66 2).toInt ≤ 4 := bd_66_2 hB_G
    have g_36 : (G_10.1 66 2).toInt = (G.1 66 2).toInt := (congrArg Int32.toInt (show G_10.1 66 2 = (G.1 66 2) from ((hq_11.i9 66 2 rfl rfl).trans (hq_3.i9 66 2 rfl rfl))))
    have b_37 : (-1) ≤ (G.1 66 3).toInt ∧ (G.1 66 3).toInt ≤ 1600 := bd_66_3 hB_G
    have g_38 : (G_10.1 66 3).toInt = (G.1 66 3).toInt := (congrArg Int32.toInt (show G_10.1 66 3 = (G.1 66 3) from ((hq_11.i9 66 3 rfl rfl).trans (hq_3.i9 66 3 rfl rfl))))
    have b_39 : 0 ≤ (G.1 66 78).toInt ∧ (G.1 66 78).toInt ≤ 40 := bd_66_78 hB_G
    have g_40 : (G_10.1 66 78).toInt = (G.1 66 78).toInt := (congrArg Int32.toInt (show G_10.1 66 78 = (G.1 66 78) from ((hq_11.i9 66 78 rfl rfl).trans (hq_3.i9 66 78 rfl rfl))))
    have b_41 : 0 ≤ (G.1 66 79).toInt ∧ (G.1 66 79).toInt ≤ 40 := bd_66_79 hB_G
    have g_42 : (G_10.1 66 79).toInt = (G.1 66 79).toInt := (congrArg Int32.toInt (show G_10.1 66 79 = (G.1 66 79) from ((hq_11.i9 66 79 rfl rfl).trans (hq_3.i9 66 79 rfl rfl))))
    have b_43 : 0 ≤ (G.1 66 86).toInt ∧ (G.1 66 86).toInt ≤ 100000 := bd_66_86 hB_G
    have g_44 : (G_10.1 66 86).toInt = (G.1 66 86).toInt := (congrArg Int32.toInt (show G_10.1 66 86 = (G.1 66 86) from ((hq_11.i9 66 86 rfl rfl).trans (hq_3.i9 66 86 rfl rfl))))
    have b_45 : 0 ≤ (G.1 96 0).toInt ∧ (G.1 96 0).toInt ≤ 9 := bd_96_0 hB_G
    have g_46 : (G_10.1 96 0).toInt = (G.1 96 0).toInt := (congrArg Int32.toInt (show G_10.1 96 0 = (G.1 96 0) from ((hq_11.i9 96 0 rfl rfl).trans (hq_3.i9 96 0 rfl rfl))))
    have b_47 : 0 ≤ (G.1 96 1).toInt ∧ (G.1 96 1).toInt ≤ 9 := bd_96_1 hB_G
    have g_48 : (G_10.1 96 1).toInt = (G.1 96 1).toInt := (congrArg Int32.toInt (show G_10.1 96 1 = (G.1 96 1) from ((hq_11.i9 96 1 rfl rfl).trans (hq_3.i9 96 1 rfl rfl))))
    have b_49 : 0 ≤ (G.1 96 2).toInt ∧ (G.1 96 2).toInt ≤ 9 := bd_96_2 hB_G
    have g_50 : (G_10.1 96 2).toInt = (G.1 96 2).toInt := (congrArg Int32.toInt (show G_10.1 96 2 = (G.1 96 2) from ((hq_11.i9 96 2 rfl rfl).trans (hq_3.i9 96 2 rfl rfl))))
    exact K G_10 _ _ _ (Or.inl ⟨((((hq_11.r9 0 0 rfl rfl).trans (hq_3.r9 0 0 rfl rfl))).trans (hv_0_0)), ((((hq_11.r9 0 1 rfl rfl).trans (hq_3.r9 0 1 rfl rfl))).trans (hv_0_1)), ((((hq_11.r9 6 4 rfl rfl).trans (hq_3.r9 6 4 rfl rfl))).trans (hv_6_4)), by omega, by omega, by omega, by omega, by omega, by omega, by omega, by omega, by omega, by omega, by omega, by omega, by omega⟩) hB_G_10 hW hS (lv_sub hl [0, 1, 2, 3] rfl)
  · skip
    obtain ⟨p0, hp0⟩ : ∃ y, y = xs (i0 + 1).toNatClampNeg := ⟨_, rfl⟩
    obtain ⟨p1, hp1⟩ : ∃ y, y = xs (i0 + 2).toNatClampNeg := ⟨_, rfl⟩
    obtain ⟨p2, hp2⟩ : ∃ y, y = xs (i0 + 3).toNatClampNeg := ⟨_, rfl⟩
    obtain ⟨p3, hp3⟩ : ∃ y, y = xs (i0 + 4).toNatClampNeg := ⟨_, rfl⟩
    obtain ⟨p4, hp4⟩ : ∃ y, y = xs (i0 + 5).toNatClampNeg := ⟨_, rfl⟩
    refine lv_aload_n hx hb dL_law_1417 rfl (lv_at hl 1 rfl) ?_
    refine ld_1 hL hi0 hi6 hx hb hX hbl hbA hS hl dL_law_1418 dL_law_1419 dL_law_1420 dL_law_1421 dL_law_1422 hp0 ?_
    refine ld_2 hL hi0 hi6 hx hb hX hbl hbA hS hl dL_law_1423 dL_law_1424 dL_law_1425 dL_law_1426 dL_law_1427 hp1 ?_
    refine ld_3 hL hi0 hi6 hx hb hX hbl hbA hS hl dL_law_1428 dL_law_1429 dL_law_1430 dL_law_1431 dL_law_1432 hp2 ?_
    refine S_calli (va_runV (As := [.int p0, .int p1, .int p2]) (rest := []) ⟨hx, hb, hml, hown, hts⟩ (k_Wsight_2 l D k A a z G p0 p1 p2 hv_0_0 hv_0_1 hv_6_4) (cwV 3 hts (gd_V hgd m1242 m1243 m1244 m117 m1245) rfl rfl rfl hd_X11_sight ⟨Nat.le_of_ble_eq_true rfl, Nat.le_of_ble_eq_true rfl⟩) (pre_W hW hB_G hK hZ hS kd_0 rfl) rfl rfl hl.1 rfl (lv_room (Nat.le_of_ble_eq_true rfl)) dL_law_1433 ⟨Nat.le_of_ble_eq_true rfl, Nat.le_of_ble_eq_true rfl⟩) hS (fun r_1 G_2 H locs hpo hW hS => ?_)
    have hX_5 : P_Wsight_2 p0 p1 p2 G r_1 G_2 := hpo
    obtain ⟨hB_G_2, hq_3, -⟩ := hpo
    refine lv_pop hx hb dL_law_1436 rfl ?_
    refine lv_aload_n hx hb dL_law_1437 rfl (lv_at hl 2 rfl) ?_
    refine ld_1 hL hi0 hi6 hx hb hX hbl hbA hS hl dL_law_1438 dL_law_1439 dL_law_1440 dL_law_1441 dL_law_1442 hp0 ?_
    refine ld_2 hL hi0 hi6 hx hb hX hbl hbA hS hl dL_law_1443 dL_law_1444 dL_law_1445 dL_law_1446 dL_law_1447 hp1 ?_
    refine ld_3 hL hi0 hi6 hx hb hX hbl hbA hS hl dL_law_1448 dL_law_1449 dL_law_1450 dL_law_1451 dL_law_1452 hp2 ?_
    have fr_6 : Fr [61, 62, 63, 64, 65] [(31, 5)] G G_2 := (Fr.call9 (rs := [61, 62, 63, 64, 65]) (fs := [(31, 5)]) Fr.rf hq_3 rfl rfl)
    have g_7 : gW G_2 = gW G := gW_fr fr_6 (gr_q rfl) (gf_q rfl)
    have g_8 : gS G_2 = gS G := gS_fr fr_6 (gr_q rfl) (gf_q rfl)
    refine S_calli (va_runV (As := [.int p0, .int p1, .int p2]) (rest := []) ⟨hx, hb, hml, hown, hts⟩ (n_sight l D k A a z G_2 p0 p1 p2 (by omega) (by omega)) (cwV 3 hts (gd_V hgd m2039 m2040 m2041 m131 m2042) rfl rfl rfl hd_X12_sight ⟨Nat.le_of_ble_eq_true rfl, Nat.le_of_ble_eq_true rfl⟩) (pre_W hW hB_G_2 hK hZ hS kd_66 rfl) rfl rfl hl.1 rfl (lv_room (Nat.le_of_ble_eq_true rfl)) dL_law_1453 ⟨Nat.le_of_ble_eq_true rfl, Nat.le_of_ble_eq_true rfl⟩) hS (fun r_9 G_10 H locs hpo hW hS => ?_)
    have hX_13 : Q_sight p0 p1 p2 G_2 r_9 G_10 := hpo
    obtain ⟨hB_G_10, hq_11, hp_12, -⟩ := hpo
    obtain ⟨u_14, u_15⟩ := L_sight_2 hX_5 hX_13 rfl rfl rfl (by omega) hB_G (by omega)
    refine lv_pop hx hb dL_law_1456 rfl ?_
    refine lv_goto (tgt := 1641) hx hb dL_law_1457 rfl ?_
    have fr_16 : Fr [112, 113, 114, 115, 116, 61, 62, 63, 64, 65] [(31, 5), (66, 85)] G G_10 := (Fr.call9 (rs := [112, 113, 114, 115, 116, 61, 62, 63, 64, 65]) (fs := [(31, 5), (66, 85)]) (Fr.call9 (rs := [112, 113, 114, 115, 116, 61, 62, 63, 64, 65]) (fs := [(31, 5), (66, 85)]) Fr.rf hq_3 rfl rfl) hq_11 rfl rfl)
    have g_17 : gO G_10 = gO G := gO_fr fr_16 (gr_q rfl) (gf_q rfl)
    have g_18 : gP G_10 = gP G := gP_fr fr_16 (gr_q rfl) (gf_q rfl)
    have g_19 : gTE G_10 = gTE G := gTE_fr fr_16 (gr_q rfl) (gf_q rfl)
    have g_20 : gW G_10 = gW G := gW_fr fr_16 (gr_q rfl) (gf_q rfl)
    have b_21 : 0 ≤ (G.1 0 11).toInt ∧ (G.1 0 11).toInt ≤ 1600 := bd_0_11 hB_G
    have g_22 : (G_10.1 0 11).toInt = (G.1 0 11).toInt := (congrArg Int32.toInt (show G_10.1 0 11 = (G.1 0 11) from ((hq_11.i9 0 11 rfl rfl).trans (hq_3.i9 0 11 rfl rfl))))
    have b_23 : 0 ≤ (G.1 3 7).toInt ∧ (G.1 3 7).toInt ≤ 4 := bd_3_7 hB_G
    have g_24 : (G_10.1 3 7).toInt = (G.1 3 7).toInt := (congrArg Int32.toInt (show G_10.1 3 7 = (G.1 3 7) from ((hq_11.i9 3 7 rfl rfl).trans (hq_3.i9 3 7 rfl rfl))))
    have b_25 : (-1) ≤ (G.1 3 8).toInt ∧ (G.1 3 8).toInt ≤ 1600 := bd_3_8 hB_G
    have g_26 : (G_10.1 3 8).toInt = (G.1 3 8).toInt := (congrArg Int32.toInt (show G_10.1 3 8 = (G.1 3 8) from ((hq_11.i9 3 8 rfl rfl).trans (hq_3.i9 3 8 rfl rfl))))
    have b_27 : 0 ≤ (G.1 30 4).toInt ∧ (G.1 30 4).toInt ≤ 40 := bd_30_4 hB_G
    have g_28 : (G_10.1 30 4).toInt = (G.1 30 4).toInt := (congrArg Int32.toInt (show G_10.1 30 4 = (G.1 30 4) from ((hq_11.i9 30 4 rfl rfl).trans (hq_3.i9 30 4 rfl rfl))))
    have b_29 : 0 ≤ (G.1 30 5).toInt ∧ (G.1 30 5).toInt ≤ 40 := bd_30_5 hB_G
    have g_30 : (G_10.1 30 5).toInt = (G.1 30 5).toInt := (congrArg Int32.toInt (show G_10.1 30 5 = (G.1 30 5) from ((hq_11.i9 30 5 rfl rfl).trans (hq_3.i9 30 5 rfl rfl))))
    have b_31 : 0 ≤ (G.1 31 6).toInt ∧ (G.1 31 6).toInt ≤ 100000 := bd_31_6 hB_G
    have g_32 : (G_10.1 31 6).toInt = (G.1 31 6).toInt := (congrArg Int32.toInt (show G_10.1 31 6 = (G.1 31 6) from ((hq_11.i9 31 6 rfl rfl).trans (hq_3.i9 31 6 rfl rfl))))
    have b_33 : 0 ≤ (G.1 66 1).toInt ∧ (G.1 66 1).toInt ≤ 1600 := bd_66_1 hB_G
    have g_34 : (G_10.1 66 1).toInt = (G.1 66 1).toInt := (congrArg Int32.toInt (show G_10.1 66 1 = (G.1 66 1) from ((hq_11.i9 66 1 rfl rfl).trans (hq_3.i9 66 1 rfl rfl))))
    have b_35 : 0 ≤ (G.1 66 2).toInt ∧ (G.1 66 2).toInt ≤ 4 := bd_66_2 hB_G
    have g_36 : (G_10.1 66 2).toInt = (G.1 66 2).toInt := (congrArg Int32.toInt (show G_10.1 66 2 = (G.1 66 2) from ((hq_11.i9 66 2 rfl rfl).trans (hq_3.i9 66 2 rfl rfl))))
    have b_37 : (-1) ≤ (G.1 66 3).toInt ∧ (G.1 66 3).toInt ≤ 1600 := bd_66_3 hB_G
    have g_38 : (G_10.1 66 3).toInt = (G.1 66 3).toInt := (congrArg Int32.toInt (show G_10.1 66 3 = (G.1 66 3) from ((hq_11.i9 66 3 rfl rfl).trans (hq_3.i9 66 3 rfl rfl))))
    have b_39 : 0 ≤ (G.1 66 78).toInt ∧ (G.1 66 78).toInt ≤ 40 := bd_66_78 hB_G
    have g_40 : (G_10.1 66 78).toInt = (G.1 66 78).toInt := (congrArg Int32.toInt (show G_10.1 66 78 = (G.1 66 78) from ((hq_11.i9 66 78 rfl rfl).trans (hq_3.i9 66 78 rfl rfl))))
    have b_41 : 0 ≤ (G.1 66 79).toInt ∧ (G.1 66 79).toInt ≤ 40 := bd_66_79 hB_G
    have g_42 : (G_10.1 66 79).toInt = (G.1 66 79).toInt := (congrArg Int32.toInt (show G_10.1 66 79 = (G.1 66 79) from ((hq_11.i9 66 79 rfl rfl).trans (hq_3.i9 66 79 rfl rfl))))
    have b_43 : 0 ≤ (G.1 66 86).toInt ∧ (G.1 66 86).toInt ≤ 100000 := bd_66_86 hB_G
    have g_44 : (G_10.1 66 86).toInt = (G.1 66 86).toInt := (congrArg Int32.toInt (show G_10.1 66 86 = (G.1 66 86) from ((hq_11.i9 66 86 rfl rfl).trans (hq_3.i9 66 86 rfl rfl))))
    have b_45 : 0 ≤ (G.1 96 0).toInt ∧ (G.1 96 0).toInt ≤ 9 := bd_96_0 hB_G
    have g_46 : (G_10.1 96 0).toInt = (G.1 96 0).toInt := (congrArg Int32.toInt (show G_10.1 96 0 = (G.1 96 0) from ((hq_11.i9 96 0 rfl rfl).trans (hq_3.i9 96 0 rfl rfl))))
    have b_47 : 0 ≤ (G.1 96 1).toInt ∧ (G.1 96 1).toInt ≤ 9 := bd_96_1 hB_G
    have g_48 : (G_10.1 96 1).toInt = (G.1 96 1).toInt := (congrArg Int32.toInt (show G_10.1 96 1 = (G.1 96 1) from ((hq_11.i9 96 1 rfl rfl).trans (hq_3.i9 96 1 rfl rfl))))
    have b_49 : 0 ≤ (G.1 96 2).toInt ∧ (G.1 96 2).toInt ≤ 9 := bd_96_2 hB_G
    have g_50 : (G_10.1 96 2).toInt = (G.1 96 2).toInt := (congrArg Int32.toInt (show G_10.1 96 2 = (G.1 96 2) from ((hq_11.i9 96 2 rfl rfl).trans (hq_3.i9 96 2 rfl rfl))))
    exact K G_10 _ _ _ (Or.inr ⟨((((hq_11.r9 0 0 rfl rfl).trans (hq_3.r9 0 0 rfl rfl))).trans (hv_0_0)), ((((hq_11.r9 0 1 rfl rfl).trans (hq_3.r9 0 1 rfl rfl))).trans (hv_0_1)), ((((hq_11.r9 6 4 rfl rfl).trans (hq_3.r9 6 4 rfl rfl))).trans (hv_6_4)), by omega, by omega, by omega, by omega, by omega, by omega, by omega, by omega, by omega, by omega, by omega, by omega, by omega⟩) hB_G_10 hW hS (lv_sub hl [0, 1, 2, 3] rfl)
