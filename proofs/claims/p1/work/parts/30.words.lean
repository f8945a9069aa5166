set_option maxRecDepth 20000 in
theorem m48 : Cond.selects RX12 yX12_four yX12_four ∈ gd := gd_mem 48 (by decide +kernel) (by decide +kernel)
set_option maxRecDepth 20000 in
theorem m49 : Cond.selects RX12 yX12_readAll yX12_readAll ∈ gd := gd_mem 49 (by decide +kernel) (by decide +kernel)
set_option maxRecDepth 20000 in
theorem m50 : Cond.selects RX12 yX12_token yX12_token ∈ gd := gd_mem 50 (by decide +kernel) (by decide +kernel)
set_option maxRecDepth 20000 in
theorem m51 : Cond.selects RX12 yX12_here yX12_here ∈ gd := gd_mem 51 (by decide +kernel) (by decide +kernel)
set_option maxRecDepth 20000 in
theorem m83 : Cond.selects RX12 yX12_isStreet yX12_isStreet ∈ gd := gd_mem 83 (by decide +kernel) (by decide +kernel)
set_option maxRecDepth 20000 in
theorem m89 : Cond.selects RX12 yX12_isAsked yX12_isAsked ∈ gd := gd_mem 89 (by decide +kernel) (by decide +kernel)
set_option maxRecDepth 20000 in
theorem m90 : Cond.selects RX12 yX12_isWalker yX12_isWalker ∈ gd := gd_mem 90 (by decide +kernel) (by decide +kernel)
set_option maxRecDepth 20000 in
theorem m103 : Cond.selects RX12 yX12_layBold yX12_layBold ∈ gd := gd_mem 103 (by decide +kernel) (by decide +kernel)
set_option maxRecDepth 20000 in
theorem m106 : Cond.selects RX12 yX12_allSlips yX12_allSlips ∈ gd := gd_mem 106 (by decide +kernel) (by decide +kernel)
set_option maxRecDepth 20000 in
theorem m111 : Cond.selects RX12 yX12_act yX12_act ∈ gd := gd_mem 111 (by decide +kernel) (by decide +kernel)
set_option maxRecDepth 20000 in
theorem m113 : Cond.selects RX12 yX12_isRule yX12_isRule ∈ gd := gd_mem 113 (by decide +kernel) (by decide +kernel)
set_option maxRecDepth 20000 in
theorem m131 : Cond.initialized RX12 ∈ gd := gd_mem 131 (by decide +kernel) (by decide +kernel)
set_option maxRecDepth 20000 in
theorem m1313 : Cond.methodLink RX12 1 objectInit ∈ gd := gd_mem 1313 (by decide +kernel) (by decide +kernel)
set_option maxRecDepth 20000 in
theorem m1314 : Cond.fieldLink RX12 7 "SlabWalkModel" "tape" "[I" ∈ gd := gd_mem 1314 (by decide +kernel) (by decide +kernel)
set_option maxRecDepth 20000 in
theorem m1315 : Cond.fieldLink RX12 178 "SlabWalkModel" "taped" "I" ∈ gd := gd_mem 1315 (by decide +kernel) (by decide +kernel)
set_option maxRecDepth 20000 in
theorem m1316 : Cond.fieldLink RX12 218 "SlabWalkModel" "fault" "I" ∈ gd := gd_mem 1316 (by decide +kernel) (by decide +kernel)
set_option maxRecDepth 20000 in
theorem m1317 : Cond.fieldLink RX12 13 "SlabWalkModel" "faultPlace" "I" ∈ gd := gd_mem 1317 (by decide +kernel) (by decide +kernel)
set_option maxRecDepth 20000 in
theorem m1318 : Cond.fieldLink RX12 185 "SlabWalkModel" "at" "I" ∈ gd := gd_mem 1318 (by decide +kernel) (by decide +kernel)
set_option maxRecDepth 20000 in
theorem m1319 : Cond.fieldLink RX12 188 "SlabWalkModel" "size" "I" ∈ gd := gd_mem 1319 (by decide +kernel) (by decide +kernel)
set_option maxRecDepth 20000 in
theorem m1320 : Cond.fieldLink RX12 205 "SlabWalkModel" "sort" "I" ∈ gd := gd_mem 1320 (by decide +kernel) (by decide +kernel)
set_option maxRecDepth 20000 in
theorem m1321 : Cond.fieldLink RX12 195 "SlabWalkModel" "place" "I" ∈ gd := gd_mem 1321 (by decide +kernel) (by decide +kernel)
set_option maxRecDepth 20000 in
theorem m1322 : Cond.fieldLink RX12 202 "SlabWalkModel" "number" "I" ∈ gd := gd_mem 1322 (by decide +kernel) (by decide +kernel)
set_option maxRecDepth 20000 in
theorem m1323 : Cond.fieldLink RX12 198 "SlabWalkModel" "word" "J" ∈ gd := gd_mem 1323 (by decide +kernel) (by decide +kernel)
set_option maxRecDepth 20000 in
theorem m1324 : Cond.fieldLink RX12 17 "SlabWalkModel" "nName" "[J" ∈ gd := gd_mem 1324 (by decide +kernel) (by decide +kernel)
set_option maxRecDepth 20000 in
theorem m1325 : Cond.fieldLink RX12 21 "SlabWalkModel" "nStep" "[I" ∈ gd := gd_mem 1325 (by decide +kernel) (by decide +kernel)
set_option maxRecDepth 20000 in
theorem m1326 : Cond.fieldLink RX12 24 "SlabWalkModel" "nArg" "[I" ∈ gd := gd_mem 1326 (by decide +kernel) (by decide +kernel)
set_option maxRecDepth 20000 in
theorem m1327 : Cond.fieldLink RX12 27 "SlabWalkModel" "nMany" "[I" ∈ gd := gd_mem 1327 (by decide +kernel) (by decide +kernel)
set_option maxRecDepth 20000 in
theorem m1328 : Cond.fieldLink RX12 30 "SlabWalkModel" "step" "[I" ∈ gd := gd_mem 1328 (by decide +kernel) (by decide +kernel)
set_option maxRecDepth 20000 in
theorem m1329 : Cond.fieldLink RX12 33 "SlabWalkModel" "arg" "[I" ∈ gd := gd_mem 1329 (by decide +kernel) (by decide +kernel)
set_option maxRecDepth 20000 in
theorem m1330 : Cond.fieldLink RX12 36 "SlabWalkModel" "many" "[I" ∈ gd := gd_mem 1330 (by decide +kernel) (by decide +kernel)
set_option maxRecDepth 20000 in
theorem m1331 : Cond.fieldLink RX12 39 "SlabWalkModel" "open" "[I" ∈ gd := gd_mem 1331 (by decide +kernel) (by decide +kernel)
set_option maxRecDepth 20000 in
theorem m1332 : Cond.fieldLink RX12 42 "SlabWalkModel" "values" "[I" ∈ gd := gd_mem 1332 (by decide +kernel) (by decide +kernel)
set_option maxRecDepth 20000 in
theorem m1335 : Cond.fieldLink RX12 312 "SlabWalkModel" "nUnits" "I" ∈ gd := gd_mem 1335 (by decide +kernel) (by decide +kernel)
set_option maxRecDepth 20000 in
theorem m1336 : Cond.fieldLink RX12 434 "SlabWalkModel" "units" "I" ∈ gd := gd_mem 1336 (by decide +kernel) (by decide +kernel)
set_option maxRecDepth 20000 in
theorem m1339 : Cond.fieldLink RX12 45 "SlabWalkModel" "nMarks" "[I" ∈ gd := gd_mem 1339 (by decide +kernel) (by decide +kernel)
set_option maxRecDepth 20000 in
theorem m1340 : Cond.fieldLink RX12 48 "SlabWalkModel" "nNths" "[I" ∈ gd := gd_mem 1340 (by decide +kernel) (by decide +kernel)
set_option maxRecDepth 20000 in
theorem m1341 : Cond.fieldLink RX12 51 "SlabWalkModel" "nInches" "[I" ∈ gd := gd_mem 1341 (by decide +kernel) (by decide +kernel)
set_option maxRecDepth 20000 in
theorem m1342 : Cond.fieldLink RX12 54 "SlabWalkModel" "nLongs" "[I" ∈ gd := gd_mem 1342 (by decide +kernel) (by decide +kernel)
set_option maxRecDepth 20000 in
theorem m1343 : Cond.fieldLink RX12 57 "SlabWalkModel" "nLength" "[I" ∈ gd := gd_mem 1343 (by decide +kernel) (by decide +kernel)
set_option maxRecDepth 20000 in
theorem m1344 : Cond.fieldLink RX12 60 "SlabWalkModel" "nFoot" "[I" ∈ gd := gd_mem 1344 (by decide +kernel) (by decide +kernel)
set_option maxRecDepth 20000 in
theorem m1345 : Cond.fieldLink RX12 63 "SlabWalkModel" "nLeast" "[I" ∈ gd := gd_mem 1345 (by decide +kernel) (by decide +kernel)
set_option maxRecDepth 20000 in
theorem m1346 : Cond.fieldLink RX12 66 "SlabWalkModel" "nMost" "[I" ∈ gd := gd_mem 1346 (by decide +kernel) (by decide +kernel)
set_option maxRecDepth 20000 in
theorem m1347 : Cond.fieldLink RX12 69 "SlabWalkModel" "nLeap" "[I" ∈ gd := gd_mem 1347 (by decide +kernel) (by decide +kernel)
set_option maxRecDepth 20000 in
theorem m1348 : Cond.fieldLink RX12 72 "SlabWalkModel" "nSlips" "[I" ∈ gd := gd_mem 1348 (by decide +kernel) (by decide +kernel)
set_option maxRecDepth 20000 in
theorem m1349 : Cond.fieldLink RX12 75 "SlabWalkModel" "marks" "[I" ∈ gd := gd_mem 1349 (by decide +kernel) (by decide +kernel)
set_option maxRecDepth 20000 in
theorem m1350 : Cond.fieldLink RX12 78 "SlabWalkModel" "nths" "[I" ∈ gd := gd_mem 1350 (by decide +kernel) (by decide +kernel)
set_option maxRecDepth 20000 in
theorem m1351 : Cond.fieldLink RX12 81 "SlabWalkModel" "inches" "[I" ∈ gd := gd_mem 1351 (by decide +kernel) (by decide +kernel)
set_option maxRecDepth 20000 in
theorem m1352 : Cond.fieldLink RX12 84 "SlabWalkModel" "longs" "[I" ∈ gd := gd_mem 1352 (by decide +kernel) (by decide +kernel)
set_option maxRecDepth 20000 in
theorem m1353 : Cond.fieldLink RX12 87 "SlabWalkModel" "lengths" "[I" ∈ gd := gd_mem 1353 (by decide +kernel) (by decide +kernel)
set_option maxRecDepth 20000 in
theorem m1354 : Cond.fieldLink RX12 90 "SlabWalkModel" "foots" "[I" ∈ gd := gd_mem 1354 (by decide +kernel) (by decide +kernel)
set_option maxRecDepth 20000 in
theorem m1355 : Cond.fieldLink RX12 93 "SlabWalkModel" "leasts" "[I" ∈ gd := gd_mem 1355 (by decide +kernel) (by decide +kernel)
set_option maxRecDepth 20000 in
theorem m1356 : Cond.fieldLink RX12 96 "SlabWalkModel" "mosts" "[I" ∈ gd := gd_mem 1356 (by decide +kernel) (by decide +kernel)
set_option maxRecDepth 20000 in
theorem m1357 : Cond.fieldLink RX12 99 "SlabWalkModel" "leaps" "[I" ∈ gd := gd_mem 1357 (by decide +kernel) (by decide +kernel)
set_option maxRecDepth 20000 in
theorem m1358 : Cond.fieldLink RX12 102 "SlabWalkModel" "slips" "[I" ∈ gd := gd_mem 1358 (by decide +kernel) (by decide +kernel)
set_option maxRecDepth 20000 in
theorem m1359 : Cond.fieldLink RX12 359 "SlabWalkModel" "nStreets" "I" ∈ gd := gd_mem 1359 (by decide +kernel) (by decide +kernel)
set_option maxRecDepth 20000 in
theorem m1360 : Cond.fieldLink RX12 379 "SlabWalkModel" "nWalkers" "I" ∈ gd := gd_mem 1360 (by decide +kernel) (by decide +kernel)
set_option maxRecDepth 20000 in
theorem m1361 : Cond.fieldLink RX12 385 "SlabWalkModel" "nRules" "I" ∈ gd := gd_mem 1361 (by decide +kernel) (by decide +kernel)
set_option maxRecDepth 20000 in
theorem m1362 : Cond.fieldLink RX12 410 "SlabWalkModel" "nHand" "I" ∈ gd := gd_mem 1362 (by decide +kernel) (by decide +kernel)
set_option maxRecDepth 20000 in
theorem m1363 : Cond.fieldLink RX12 413 "SlabWalkModel" "nSlack" "I" ∈ gd := gd_mem 1363 (by decide +kernel) (by decide +kernel)
set_option maxRecDepth 20000 in
theorem m1364 : Cond.fieldLink RX12 416 "SlabWalkModel" "nDraw" "I" ∈ gd := gd_mem 1364 (by decide +kernel) (by decide +kernel)
set_option maxRecDepth 20000 in
theorem m1365 : Cond.fieldLink RX12 391 "SlabWalkModel" "nOnce" "I" ∈ gd := gd_mem 1365 (by decide +kernel) (by decide +kernel)
set_option maxRecDepth 20000 in
theorem m1366 : Cond.fieldLink RX12 425 "SlabWalkModel" "streets" "I" ∈ gd := gd_mem 1366 (by decide +kernel) (by decide +kernel)
set_option maxRecDepth 20000 in
theorem m1367 : Cond.fieldLink RX12 428 "SlabWalkModel" "walkers" "I" ∈ gd := gd_mem 1367 (by decide +kernel) (by decide +kernel)
set_option maxRecDepth 20000 in
theorem m1368 : Cond.fieldLink RX12 431 "SlabWalkModel" "rules" "I" ∈ gd := gd_mem 1368 (by decide +kernel) (by decide +kernel)
set_option maxRecDepth 20000 in
theorem m1369 : Cond.fieldLink RX12 105 "SlabWalkModel" "hand" "I" ∈ gd := gd_mem 1369 (by decide +kernel) (by decide +kernel)
set_option maxRecDepth 20000 in
theorem m1370 : Cond.fieldLink RX12 108 "SlabWalkModel" "slack" "I" ∈ gd := gd_mem 1370 (by decide +kernel) (by decide +kernel)
set_option maxRecDepth 20000 in
theorem m1371 : Cond.fieldLink RX12 111 "SlabWalkModel" "lines" "[Z" ∈ gd := gd_mem 1371 (by decide +kernel) (by decide +kernel)
set_option maxRecDepth 20000 in
theorem m1372 : Cond.fieldLink RX12 115 "SlabWalkModel" "lawful" "[Z" ∈ gd := gd_mem 1372 (by decide +kernel) (by decide +kernel)
set_option maxRecDepth 20000 in
theorem m1378 : Cond.fieldLink RX12 118 "SlabWalkModel" "need" "[I" ∈ gd := gd_mem 1378 (by decide +kernel) (by decide +kernel)
set_option maxRecDepth 20000 in
theorem m1379 : Cond.fieldLink RX12 121 "SlabWalkModel" "lies" "[I" ∈ gd := gd_mem 1379 (by decide +kernel) (by decide +kernel)
set_option maxRecDepth 20000 in
theorem m1380 : Cond.fieldLink RX12 446 "SlabWalkModel" "lain" "I" ∈ gd := gd_mem 1380 (by decide +kernel) (by decide +kernel)
set_option maxRecDepth 20000 in
theorem m1381 : Cond.fieldLink RX12 124 "SlabWalkModel" "ways" "[J" ∈ gd := gd_mem 1381 (by decide +kernel) (by decide +kernel)
set_option maxRecDepth 20000 in
theorem m1382 : Cond.fieldLink RX12 127 "SlabWalkModel" "next" "[J" ∈ gd := gd_mem 1382 (by decide +kernel) (by decide +kernel)
set_option maxRecDepth 20000 in
theorem m1383 : Cond.fieldLink RX12 130 "SlabWalkModel" "comes" "[Z" ∈ gd := gd_mem 1383 (by decide +kernel) (by decide +kernel)
set_option maxRecDepth 20000 in
theorem m1384 : Cond.fieldLink RX12 133 "SlabWalkModel" "leapt" "[I" ∈ gd := gd_mem 1384 (by decide +kernel) (by decide +kernel)
set_option maxRecDepth 20000 in
theorem m1385 : Cond.fieldLink RX12 136 "SlabWalkModel" "leaptNext" "[I" ∈ gd := gd_mem 1385 (by decide +kernel) (by decide +kernel)
set_option maxRecDepth 20000 in
theorem m1386 : Cond.fieldLink RX12 139 "SlabWalkModel" "odds" "[J" ∈ gd := gd_mem 1386 (by decide +kernel) (by decide +kernel)
set_option maxRecDepth 20000 in
theorem m1387 : Cond.fieldLink RX12 142 "SlabWalkModel" "hasWays" "[Z" ∈ gd := gd_mem 1387 (by decide +kernel) (by decide +kernel)
set_option maxRecDepth 20000 in
theorem m1388 : Cond.fieldLink RX12 145 "SlabWalkModel" "wins" "[Z" ∈ gd := gd_mem 1388 (by decide +kernel) (by decide +kernel)
set_option maxRecDepth 20000 in
theorem m1389 : Cond.fieldLink RX12 148 "SlabWalkModel" "winsBy" "[I" ∈ gd := gd_mem 1389 (by decide +kernel) (by decide +kernel)
set_option maxRecDepth 20000 in
theorem m1390 : Cond.fieldLink RX12 151 "SlabWalkModel" "now" "[I" ∈ gd := gd_mem 1390 (by decide +kernel) (by decide +kernel)
set_option maxRecDepth 20000 in
theorem m1391 : Cond.fieldLink RX12 154 "SlabWalkModel" "were" "[I" ∈ gd := gd_mem 1391 (by decide +kernel) (by decide +kernel)
set_option maxRecDepth 20000 in
theorem m1392 : Cond.fieldLink RX12 437 "SlabWalkModel" "acts" "I" ∈ gd := gd_mem 1392 (by decide +kernel) (by decide +kernel)
set_option maxRecDepth 20000 in
theorem m1393 : Cond.fieldLink RX12 440 "SlabWalkModel" "undone" "I" ∈ gd := gd_mem 1393 (by decide +kernel) (by decide +kernel)
set_option maxRecDepth 20000 in
theorem m1394 : Cond.fieldLink RX12 157 "SlabWalkModel" "sightWho" "[I" ∈ gd := gd_mem 1394 (by decide +kernel) (by decide +kernel)
set_option maxRecDepth 20000 in
theorem m1395 : Cond.fieldLink RX12 160 "SlabWalkModel" "sightWhere" "[I" ∈ gd := gd_mem 1395 (by decide +kernel) (by decide +kernel)
set_option maxRecDepth 20000 in
theorem m1396 : Cond.fieldLink RX12 163 "SlabWalkModel" "sightHeel" "[I" ∈ gd := gd_mem 1396 (by decide +kernel) (by decide +kernel)
set_option maxRecDepth 20000 in
theorem m1397 : Cond.fieldLink RX12 166 "SlabWalkModel" "sightTold" "[I" ∈ gd := gd_mem 1397 (by decide +kernel) (by decide +kernel)
set_option maxRecDepth 20000 in
theorem m1398 : Cond.fieldLink RX12 169 "SlabWalkModel" "sightUntold" "[I" ∈ gd := gd_mem 1398 (by decide +kernel) (by decide +kernel)
set_option maxRecDepth 20000 in
theorem m1399 : Cond.fieldLink RX12 443 "SlabWalkModel" "sights" "I" ∈ gd := gd_mem 1399 (by decide +kernel) (by decide +kernel)
set_option maxRecDepth 20000 in
theorem m1400 : Cond.fieldLink RX12 593 "SlabWalkModel" "time" "I" ∈ gd := gd_mem 1400 (by decide +kernel) (by decide +kernel)
set_option maxRecDepth 20000 in
theorem m1401 : Cond.fieldLink RX12 172 "SlabWalkModel" "hasBox" "[Z" ∈ gd := gd_mem 1401 (by decide +kernel) (by decide +kernel)
set_option maxRecDepth 20000 in
theorem m1402 : Cond.fieldLink RX12 175 "SlabWalkModel" "boxes" "[I" ∈ gd := gd_mem 1402 (by decide +kernel) (by decide +kernel)
set_option maxRecDepth 20000 in
theorem m1586 : Cond.methodLink RX12 181 yX12_four ∈ gd := gd_mem 1586 (by decide +kernel) (by decide +kernel)
set_option maxRecDepth 20000 in
theorem m1588 : Cond.instanceMethod yX12_four ∈ gd := gd_mem 1588 (by decide +kernel) (by decide +kernel)
set_option maxRecDepth 20000 in
theorem m1589 : Cond.code yX12_four cX12_four 3 none ∈ gd := gd_mem 1589 (by decide +kernel) (by decide +kernel)
set_option maxRecDepth 20000 in
theorem m1598 : Cond.methodLink RX12 422 yX12_readAll ∈ gd := gd_mem 1598 (by decide +kernel) (by decide +kernel)
set_option maxRecDepth 20000 in
theorem m1600 : Cond.instanceMethod yX12_readAll ∈ gd := gd_mem 1600 (by decide +kernel) (by decide +kernel)
set_option maxRecDepth 20000 in
theorem m1601 : Cond.code yX12_readAll cX12_readAll 1 none ∈ gd := gd_mem 1601 (by decide +kernel) (by decide +kernel)
set_option maxRecDepth 20000 in
theorem m1602 : Cond.methodLink RX12 279 yX12_token ∈ gd := gd_mem 1602 (by decide +kernel) (by decide +kernel)
set_option maxRecDepth 20000 in
theorem m1604 : Cond.instanceMethod yX12_token ∈ gd := gd_mem 1604 (by decide +kernel) (by decide +kernel)
set_option maxRecDepth 20000 in
theorem m1605 : Cond.code yX12_token cX12_token 3 none ∈ gd := gd_mem 1605 (by decide +kernel) (by decide +kernel)
set_option maxRecDepth 20000 in
theorem m1606 : Cond.methodLink RX12 191 yX12_here ∈ gd := gd_mem 1606 (by decide +kernel) (by decide +kernel)
set_option maxRecDepth 20000 in
theorem m1608 : Cond.instanceMethod yX12_here ∈ gd := gd_mem 1608 (by decide +kernel) (by decide +kernel)
set_option maxRecDepth 20000 in
theorem m1609 : Cond.code yX12_here cX12_here 2 (some .int) ∈ gd := gd_mem 1609 (by decide +kernel) (by decide +kernel)
set_option maxRecDepth 20000 in
theorem m1777 : Cond.methodLink RX12 453 yX12_isStreet ∈ gd := gd_mem 1777 (by decide +kernel) (by decide +kernel)
set_option maxRecDepth 20000 in
theorem m1779 : Cond.instanceMethod yX12_isStreet ∈ gd := gd_mem 1779 (by decide +kernel) (by decide +kernel)
set_option maxRecDepth 20000 in
theorem m1780 : Cond.code yX12_isStreet cX12_isStreet 2 (some .boolean) ∈ gd := gd_mem 1780 (by decide +kernel) (by decide +kernel)
set_option maxRecDepth 20000 in
theorem m1781 : Cond.methodLink RX12 449 yX12_isIn ∈ gd := gd_mem 1781 (by decide +kernel) (by decide +kernel)
set_option maxRecDepth 20000 in
theorem m1782 : Cond.static yX12_isIn ∈ gd := gd_mem 1782 (by decide +kernel) (by decide +kernel)
set_option maxRecDepth 20000 in
theorem m1783 : Cond.code yX12_isIn cX12_isIn 3 (some .boolean) ∈ gd := gd_mem 1783 (by decide +kernel) (by decide +kernel)
set_option maxRecDepth 20000 in
theorem m1826 : Cond.methodLink RX12 490 yX12_isAsked ∈ gd := gd_mem 1826 (by decide +kernel) (by decide +kernel)
set_option maxRecDepth 20000 in
theorem m1828 : Cond.instanceMethod yX12_isAsked ∈ gd := gd_mem 1828 (by decide +kernel) (by decide +kernel)
set_option maxRecDepth 20000 in
theorem m1829 : Cond.code yX12_isAsked cX12_isAsked 4 (some .boolean) ∈ gd := gd_mem 1829 (by decide +kernel) (by decide +kernel)
set_option maxRecDepth 20000 in
theorem m1830 : Cond.methodLink RX12 487 yX12_isWalker ∈ gd := gd_mem 1830 (by decide +kernel) (by decide +kernel)
set_option maxRecDepth 20000 in
theorem m1832 : Cond.instanceMethod yX12_isWalker ∈ gd := gd_mem 1832 (by decide +kernel) (by decide +kernel)
set_option maxRecDepth 20000 in
theorem m1833 : Cond.code yX12_isWalker cX12_isWalker 2 (some .boolean) ∈ gd := gd_mem 1833 (by decide +kernel) (by decide +kernel)
set_option maxRecDepth 20000 in
theorem m1858 : Cond.constant RX12 502 100000 ∈ gd := gd_mem 1858 (by decide +kernel) (by decide +kernel)
set_option maxRecDepth 20000 in
theorem m1874 : Cond.constantLong RX12 517 (-1) ∈ gd := gd_mem 1874 (by decide +kernel) (by decide +kernel)
set_option maxRecDepth 20000 in
theorem m1943 : Cond.methodLink RX12 568 yX12_layBold ∈ gd := gd_mem 1943 (by decide +kernel) (by decide +kernel)
set_option maxRecDepth 20000 in
theorem m1945 : Cond.instanceMethod yX12_layBold ∈ gd := gd_mem 1945 (by decide +kernel) (by decide +kernel)
set_option maxRecDepth 20000 in
theorem m1946 : Cond.code yX12_layBold cX12_layBold 8 (some .boolean) ∈ gd := gd_mem 1946 (by decide +kernel) (by decide +kernel)
set_option maxRecDepth 20000 in
theorem m1955 : Cond.methodLink RX12 553 yX12_allSlips ∈ gd := gd_mem 1955 (by decide +kernel) (by decide +kernel)
set_option maxRecDepth 20000 in
theorem m1957 : Cond.instanceMethod yX12_allSlips ∈ gd := gd_mem 1957 (by decide +kernel) (by decide +kernel)
set_option maxRecDepth 20000 in
theorem m1958 : Cond.code yX12_allSlips cX12_allSlips 1 (some .int) ∈ gd := gd_mem 1958 (by decide +kernel) (by decide +kernel)
set_option maxRecDepth 20000 in
theorem m1991 : Cond.methodLink RX12 581 yX12_act ∈ gd := gd_mem 1991 (by decide +kernel) (by decide +kernel)
set_option maxRecDepth 20000 in
theorem m1993 : Cond.instanceMethod yX12_act ∈ gd := gd_mem 1993 (by decide +kernel) (by decide +kernel)
set_option maxRecDepth 20000 in
theorem m1994 : Cond.code yX12_act cX12_act 2 none ∈ gd := gd_mem 1994 (by decide +kernel) (by decide +kernel)
set_option maxRecDepth 20000 in
theorem m2007 : Cond.methodLink RX12 587 yX12_isRule ∈ gd := gd_mem 2007 (by decide +kernel) (by decide +kernel)
set_option maxRecDepth 20000 in
theorem m2009 : Cond.instanceMethod yX12_isRule ∈ gd := gd_mem 2009 (by decide +kernel) (by decide +kernel)
set_option maxRecDepth 20000 in
theorem m2010 : Cond.code yX12_isRule cX12_isRule 2 (some .boolean) ∈ gd := gd_mem 2010 (by decide +kernel) (by decide +kernel)
set_option maxRecDepth 20000 in
theorem m2070 : Cond.methodLink RX12 603 yX12_isBox ∈ gd := gd_mem 2070 (by decide +kernel) (by decide +kernel)
set_option maxRecDepth 20000 in
theorem m2071 : Cond.static yX12_isBox ∈ gd := gd_mem 2071 (by decide +kernel) (by decide +kernel)
set_option maxRecDepth 20000 in
theorem m2072 : Cond.code yX12_isBox cX12_isBox 1 (some .boolean) ∈ gd := gd_mem 2072 (by decide +kernel) (by decide +kernel)
