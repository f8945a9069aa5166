theorem m1218 : Cond.methodLink RL 130 yX11_undo ∈ gd := gd_mem 1218 (by decide +kernel) (by decide +kernel)
theorem m1219 : Cond.instanceMethod yX11_undo ∈ gd := gd_mem 1219 (by decide +kernel) (by decide +kernel)
theorem m1220 : Cond.selects RX11 yX11_undo yX11_undo ∈ gd := gd_mem 1220 (by decide +kernel) (by decide +kernel)
theorem m1221 : Cond.code yX11_undo cX11_undo 1 (some .boolean) ∈ gd := gd_mem 1221 (by decide +kernel) (by decide +kernel)
theorem m1226 : Cond.methodLink RL 134 yX11_redo ∈ gd := gd_mem 1226 (by decide +kernel) (by decide +kernel)
theorem m1227 : Cond.instanceMethod yX11_redo ∈ gd := gd_mem 1227 (by decide +kernel) (by decide +kernel)
theorem m1228 : Cond.selects RX11 yX11_redo yX11_redo ∈ gd := gd_mem 1228 (by decide +kernel) (by decide +kernel)
theorem m1229 : Cond.code yX11_redo cX11_redo 1 (some .boolean) ∈ gd := gd_mem 1229 (by decide +kernel) (by decide +kernel)
theorem m1234 : Cond.methodLink RL 138 yX11_walker ∈ gd := gd_mem 1234 (by decide +kernel) (by decide +kernel)
theorem m1235 : Cond.instanceMethod yX11_walker ∈ gd := gd_mem 1235 (by decide +kernel) (by decide +kernel)
theorem m1236 : Cond.selects RX11 yX11_walker yX11_walker ∈ gd := gd_mem 1236 (by decide +kernel) (by decide +kernel)
theorem m1237 : Cond.code yX11_walker cX11_walker 2 (some .int) ∈ gd := gd_mem 1237 (by decide +kernel) (by decide +kernel)
theorem m1238 : Cond.methodLink RL 142 yX11_lies ∈ gd := gd_mem 1238 (by decide +kernel) (by decide +kernel)
theorem m1239 : Cond.instanceMethod yX11_lies ∈ gd := gd_mem 1239 (by decide +kernel) (by decide +kernel)
theorem m1240 : Cond.selects RX11 yX11_lies yX11_lies ∈ gd := gd_mem 1240 (by decide +kernel) (by decide +kernel)
theorem m1241 : Cond.code yX11_lies cX11_lies 2 (some .int) ∈ gd := gd_mem 1241 (by decide +kernel) (by decide +kernel)
theorem m1242 : Cond.methodLink RL 146 yX11_sight ∈ gd := gd_mem 1242 (by decide +kernel) (by decide +kernel)
theorem m1243 : Cond.instanceMethod yX11_sight ∈ gd := gd_mem 1243 (by decide +kernel) (by decide +kernel)
theorem m1244 : Cond.selects RX11 yX11_sight yX11_sight ∈ gd := gd_mem 1244 (by decide +kernel) (by decide +kernel)
theorem m1245 : Cond.code yX11_sight cX11_sight 4 (some .int) ∈ gd := gd_mem 1245 (by decide +kernel) (by decide +kernel)
theorem m2019 : Cond.methodLink RL 133 yX12_undo ∈ gd := gd_mem 2019 (by decide +kernel) (by decide +kernel)
theorem m2020 : Cond.instanceMethod yX12_undo ∈ gd := gd_mem 2020 (by decide +kernel) (by decide +kernel)
theorem m2021 : Cond.selects RX12 yX12_undo yX12_undo ∈ gd := gd_mem 2021 (by decide +kernel) (by decide +kernel)
theorem m2022 : Cond.code yX12_undo cX12_undo 1 (some .boolean) ∈ gd := gd_mem 2022 (by decide +kernel) (by decide +kernel)
theorem m2027 : Cond.methodLink RL 137 yX12_redo ∈ gd := gd_mem 2027 (by decide +kernel) (by decide +kernel)
theorem m2028 : Cond.instanceMethod yX12_redo ∈ gd := gd_mem 2028 (by decide +kernel) (by decide +kernel)
theorem m2029 : Cond.selects RX12 yX12_redo yX12_redo ∈ gd := gd_mem 2029 (by decide +kernel) (by decide +kernel)
theorem m2030 : Cond.code yX12_redo cX12_redo 1 (some .boolean) ∈ gd := gd_mem 2030 (by decide +kernel) (by decide +kernel)
theorem m2031 : Cond.methodLink RL 141 yX12_walker ∈ gd := gd_mem 2031 (by decide +kernel) (by decide +kernel)
theorem m2032 : Cond.instanceMethod yX12_walker ∈ gd := gd_mem 2032 (by decide +kernel) (by decide +kernel)
theorem m2033 : Cond.selects RX12 yX12_walker yX12_walker ∈ gd := gd_mem 2033 (by decide +kernel) (by decide +kernel)
theorem m2034 : Cond.code yX12_walker cX12_walker 2 (some .int) ∈ gd := gd_mem 2034 (by decide +kernel) (by decide +kernel)
theorem m2035 : Cond.methodLink RL 145 yX12_lies ∈ gd := gd_mem 2035 (by decide +kernel) (by decide +kernel)
theorem m2036 : Cond.instanceMethod yX12_lies ∈ gd := gd_mem 2036 (by decide +kernel) (by decide +kernel)
theorem m2037 : Cond.selects RX12 yX12_lies yX12_lies ∈ gd := gd_mem 2037 (by decide +kernel) (by decide +kernel)
theorem m2038 : Cond.code yX12_lies cX12_lies 2 (some .int) ∈ gd := gd_mem 2038 (by decide +kernel) (by decide +kernel)
theorem m2039 : Cond.methodLink RL 149 yX12_sight ∈ gd := gd_mem 2039 (by decide +kernel) (by decide +kernel)
theorem m2040 : Cond.instanceMethod yX12_sight ∈ gd := gd_mem 2040 (by decide +kernel) (by decide +kernel)
theorem m2041 : Cond.selects RX12 yX12_sight yX12_sight ∈ gd := gd_mem 2041 (by decide +kernel) (by decide +kernel)
theorem m2042 : Cond.code yX12_sight cX12_sight 4 (some .int) ∈ gd := gd_mem 2042 (by decide +kernel) (by decide +kernel)
theorem dL_law_1345 : decode cL_law 1345 = .ok (.aload_n 1, 1) := by decide +kernel
theorem dL_law_1346 : decode cL_law 1346 = .ok (.invokevirtual 130, 3) := by decide +kernel
theorem dL_law_1349 : decode cL_law 1349 = .ok (.pop, 1) := by decide +kernel
theorem dL_law_1350 : decode cL_law 1350 = .ok (.aload_n 2, 1) := by decide +kernel
theorem dL_law_1351 : decode cL_law 1351 = .ok (.invokevirtual 133, 3) := by decide +kernel
theorem dL_law_1354 : decode cL_law 1354 = .ok (.pop, 1) := by decide +kernel
theorem dL_law_1355 : decode cL_law 1355 = .ok (.goto 286, 3) := by decide +kernel
theorem dL_law_1358 : decode cL_law 1358 = .ok (.aload_n 1, 1) := by decide +kernel
theorem dL_law_1359 : decode cL_law 1359 = .ok (.invokevirtual 134, 3) := by decide +kernel
theorem dL_law_1362 : decode cL_law 1362 = .ok (.pop, 1) := by decide +kernel
theorem dL_law_1363 : decode cL_law 1363 = .ok (.aload_n 2, 1) := by decide +kernel
theorem dL_law_1364 : decode cL_law 1364 = .ok (.invokevirtual 137, 3) := by decide +kernel
theorem dL_law_1367 : decode cL_law 1367 = .ok (.pop, 1) := by decide +kernel
theorem dL_law_1368 : decode cL_law 1368 = .ok (.goto 273, 3) := by decide +kernel
theorem dL_law_1371 : decode cL_law 1371 = .ok (.aload_n 1, 1) := by decide +kernel
theorem dL_law_1372 : decode cL_law 1372 = .ok (.aload_n 0, 1) := by decide +kernel
theorem dL_law_1373 : decode cL_law 1373 = .ok (.iload_n 3, 1) := by decide +kernel
theorem dL_law_1374 : decode cL_law 1374 = .ok (.iconst 1, 1) := by decide +kernel
theorem dL_law_1375 : decode cL_law 1375 = .ok (.iadd, 1) := by decide +kernel
theorem dL_law_1376 : decode cL_law 1376 = .ok (.iaload, 1) := by decide +kernel
theorem dL_law_1377 : decode cL_law 1377 = .ok (.invokevirtual 138, 3) := by decide +kernel
theorem dL_law_1380 : decode cL_law 1380 = .ok (.pop, 1) := by decide +kernel
theorem dL_law_1381 : decode cL_law 1381 = .ok (.aload_n 2, 1) := by decide +kernel
theorem dL_law_1382 : decode cL_law 1382 = .ok (.aload_n 0, 1) := by decide +kernel
theorem dL_law_1383 : decode cL_law 1383 = .ok (.iload_n 3, 1) := by decide +kernel
theorem dL_law_1384 : decode cL_law 1384 = .ok (.iconst 1, 1) := by decide +kernel
theorem dL_law_1385 : decode cL_law 1385 = .ok (.iadd, 1) := by decide +kernel
theorem dL_law_1386 : decode cL_law 1386 = .ok (.iaload, 1) := by decide +kernel
theorem dL_law_1387 : decode cL_law 1387 = .ok (.invokevirtual 141, 3) := by decide +kernel
theorem dL_law_1390 : decode cL_law 1390 = .ok (.pop, 1) := by decide +kernel
theorem dL_law_1391 : decode cL_law 1391 = .ok (.goto 250, 3) := by decide +kernel
theorem dL_law_1394 : decode cL_law 1394 = .ok (.aload_n 1, 1) := by decide +kernel
theorem dL_law_1395 : decode cL_law 1395 = .ok (.aload_n 0, 1) := by decide +kernel
theorem dL_law_1396 : decode cL_law 1396 = .ok (.iload_n 3, 1) := by decide +kernel
theorem dL_law_1397 : decode cL_law 1397 = .ok (.iconst 1, 1) := by decide +kernel
theorem dL_law_1398 : decode cL_law 1398 = .ok (.iadd, 1) := by decide +kernel
theorem dL_law_1399 : decode cL_law 1399 = .ok (.iaload, 1) := by decide +kernel
theorem dL_law_1400 : decode cL_law 1400 = .ok (.invokevirtual 142, 3) := by decide +kernel
theorem dL_law_1403 : decode cL_law 1403 = .ok (.pop, 1) := by decide +kernel
theorem dL_law_1404 : decode cL_law 1404 = .ok (.aload_n 2, 1) := by decide +kernel
theorem dL_law_1405 : decode cL_law 1405 = .ok (.aload_n 0, 1) := by decide +kernel
theorem dL_law_1406 : decode cL_law 1406 = .ok (.iload_n 3, 1) := by decide +kernel
theorem dL_law_1407 : decode cL_law 1407 = .ok (.iconst 1, 1) := by decide +kernel
theorem dL_law_1408 : decode cL_law 1408 = .ok (.iadd, 1) := by decide +kernel
theorem dL_law_1409 : decode cL_law 1409 = .ok (.iaload, 1) := by decide +kernel
theorem dL_law_1410 : decode cL_law 1410 = .ok (.invokevirtual 145, 3) := by decide +kernel
theorem dL_law_1413 : decode cL_law 1413 = .ok (.pop, 1) := by decide +kernel
theorem dL_law_1414 : decode cL_law 1414 = .ok (.goto 227, 3) := by decide +kernel
theorem dL_law_1417 : decode cL_law 1417 = .ok (.aload_n 1, 1) := by decide +kernel
theorem dL_law_1418 : decode cL_law 1418 = .ok (.aload_n 0, 1) := by decide +kernel
theorem dL_law_1419 : decode cL_law 1419 = .ok (.iload_n 3, 1) := by decide +kernel
theorem dL_law_1420 : decode cL_law 1420 = .ok (.iconst 1, 1) := by decide +kernel
theorem dL_law_1421 : decode cL_law 1421 = .ok (.iadd, 1) := by decide +kernel
theorem dL_law_1422 : decode cL_law 1422 = .ok (.iaload, 1) := by decide +kernel
theorem dL_law_1423 : decode cL_law 1423 = .ok (.aload_n 0, 1) := by decide +kernel
theorem dL_law_1424 : decode cL_law 1424 = .ok (.iload_n 3, 1) := by decide +kernel
theorem dL_law_1425 : decode cL_law 1425 = .ok (.iconst 2, 1) := by decide +kernel
theorem dL_law_1426 : decode cL_law 1426 = .ok (.iadd, 1) := by decide +kernel
theorem dL_law_1427 : decode cL_law 1427 = .ok (.iaload, 1) := by decide +kernel
theorem dL_law_1428 : decode cL_law 1428 = .ok (.aload_n 0, 1) := by decide +kernel
theorem dL_law_1429 : decode cL_law 1429 = .ok (.iload_n 3, 1) := by decide +kernel
theorem dL_law_1430 : decode cL_law 1430 = .ok (.iconst 3, 1) := by decide +kernel
theorem dL_law_1431 : decode cL_law 1431 = .ok (.iadd, 1) := by decide +kernel
theorem dL_law_1432 : decode cL_law 1432 = .ok (.iaload, 1) := by decide +kernel
theorem dL_law_1433 : decode cL_law 1433 = .ok (.invokevirtual 146, 3) := by decide +kernel
theorem dL_law_1436 : decode cL_law 1436 = .ok (.pop, 1) := by decide +kernel
theorem dL_law_1437 : decode cL_law 1437 = .ok (.aload_n 2, 1) := by decide +kernel
theorem dL_law_1438 : decode cL_law 1438 = .ok (.aload_n 0, 1) := by decide +kernel
theorem dL_law_1439 : decode cL_law 1439 = .ok (.iload_n 3, 1) := by decide +kernel
theorem dL_law_1440 : decode cL_law 1440 = .ok (.iconst 1, 1) := by decide +kernel
theorem dL_law_1441 : decode cL_law 1441 = .ok (.iadd, 1) := by decide +kernel
theorem dL_law_1442 : decode cL_law 1442 = .ok (.iaload, 1) := by decide +kernel
theorem dL_law_1443 : decode cL_law 1443 = .ok (.aload_n 0, 1) := by decide +kernel
theorem dL_law_1444 : decode cL_law 1444 = .ok (.iload_n 3, 1) := by decide +kernel
theorem dL_law_1445 : decode cL_law 1445 = .ok (.iconst 2, 1) := by decide +kernel
theorem dL_law_1446 : decode cL_law 1446 = .ok (.iadd, 1) := by decide +kernel
theorem dL_law_1447 : decode cL_law 1447 = .ok (.iaload, 1) := by decide +kernel
theorem dL_law_1448 : decode cL_law 1448 = .ok (.aload_n 0, 1) := by decide +kernel
theorem dL_law_1449 : decode cL_law 1449 = .ok (.iload_n 3, 1) := by decide +kernel
theorem dL_law_1450 : decode cL_law 1450 = .ok (.iconst 3, 1) := by decide +kernel
theorem dL_law_1451 : decode cL_law 1451 = .ok (.iadd, 1) := by decide +kernel
theorem dL_law_1452 : decode cL_law 1452 = .ok (.iaload, 1) := by decide +kernel
theorem dL_law_1453 : decode cL_law 1453 = .ok (.invokevirtual 149, 3) := by decide +kernel
theorem dL_law_1456 : decode cL_law 1456 = .ok (.pop, 1) := by decide +kernel
theorem dL_law_1457 : decode cL_law 1457 = .ok (.goto 184, 3) := by decide +kernel
set_option maxHeartbeats 4000000 in
set_option maxRecDepth 100000 in
theorem law_27 {p : Program} {l : Launch} {e : Env} {s : State} {m : MethodId} {below : List Frame} {meth : Method} {c : Code} {D : va_G} {k : KT} {A : Nat → Prop} {a : Nat → Nat} {z : SK} {b L : Nat} {xs : Nat → Int32} (hL : L ≤ 3072) (C0 : lw_At p s m meth c b L xs) (hK : cK D k s) (hZ : Sx A z s) (hbA : ¬ A b) {G : GS} {i0 : Int32} (hi0 : 0 ≤ i0.toInt) (hi6 : i0.toInt + 6 ≤ L) (hI : LI G) (hB_G : Bd G) {H : Heap} {locs : List Loc} {ls : Array Slot} (hW : Wd D k A a G H) (hS : va_S A s.heap H locs) (hl : lv_has ls 4 [(0, .ref b), (1, .ref (a 0)), (2, .ref (a 66)), (3, .int i0)]) (K : ∀ (G1 : GS) (H1 : Heap) (locs1 : List Loc) (ls1 : Array Slot), LI G1 → Bd G1 → Wd D k A a G1 H1 → va_S A s.heap H1 locs1 → lv_has ls1 4 [(0, .ref b), (1, .ref (a 0)), (2, .ref (a 66)), (3, .int i0)] → W p l e room_1 s m #[Value.ref b] below meth c H1 locs1 119 46443 (lw_Z below #[Value.ref b] s) (F0 m 1641 ls1 [])) : W p l e room_1 s m #[Value.ref b] below meth c H locs 119 46443 (lw_Z below #[Value.ref b] s) (F0 m 1345 ls []) := by
  obtain ⟨hx, hb, hr, hml, hown, hts, hX, hbl, hlocks, hgv⟩ := id C0
  have hown : s.vm.findClass RL = some m.cls := hown
  have hgd : ∀ w ∈ gd, w ∈ lw_tbl := fun w h => (List.mem_filter.mp h).1
  have hg : ∀ w ∈ gd, w.before #[Value.ref b] s = true := fun w h => hts w (hgd w h)
  rcases hI with ⟨hv_0_0, hv_0_1, hv_6_4, hj0, hj1, hj2, hj3, hj4, hj5, hj6, hj7, hj8, hj9, hj10, hj11⟩ | ⟨hv_0_0, hv_0_1, hv_6_4, hj0, hj1, hj2, hj3, hj4, hj5, hj6, hj7, hj8, hj9, hj10, hj11⟩
  · skip
    refine lv_aload_n hx hb dL_law_1345 rfl (lv_at hl 1 rfl) ?_
    have b_1 : 0 ≤ (G.1 30 4).toInt ∧ (G.1 30 4).toInt ≤ 40 := hB_G.i 30 4 rfl rfl
    have b_2 : 0 ≤ (G.1 30 5).toInt ∧ (G.1 30 5).toInt ≤ 40 := hB_G.i 30 5 rfl rfl
    refine S_calli (va_runV (As := []) (rest := []) ⟨hx, hb, hml, hown, hts⟩ (k_Wundo l D k A a z G  (by omega)) (cwV 0 hts (gd_V hgd m1218 m1219 m1220 m117 m1221) rfl rfl rfl (by decide +kernel) ⟨Nat.le_of_ble_eq_true rfl, Nat.le_of_ble_eq_true rfl⟩) (pre_V hW hB_G hK hZ hS kd_0 rfl) rfl rfl hl.1 rfl (lv_room (Nat.le_of_ble_eq_true rfl)) dL_law_1346 ⟨Nat.le_of_ble_eq_true rfl, Nat.le_of_ble_eq_true rfl⟩) hS (fun r_3 G_4 H locs hpo hW hS => ?_)
    have hX_7 : P_Wundo G r_3 G_4 := hpo
    obtain ⟨hB_G_4, hq_5, f_8, hp_6, -⟩ := hpo
    refine lv_pop hx hb dL_law_1349 rfl ?_
    refine lv_aload_n hx hb dL_law_1350 rfl (lv_at hl 2 rfl) ?_
    have b_9 : 0 ≤ (G.1 66 78).toInt ∧ (G.1 66 78).toInt ≤ 40 := hB_G.i 66 78 rfl rfl
    have g_10 : (G_4.1 66 78).toInt = (G.1 66 78).toInt := by rw [show G_4.1 66 78 = (G.1 66 78) from (hq_5.i 66 78 (by decide) (by decide))]
    have b_11 : 0 ≤ (G.1 66 79).toInt ∧ (G.1 66 79).toInt ≤ 40 := hB_G.i 66 79 rfl rfl
    have g_12 : (G_4.1 66 79).toInt = (G.1 66 79).toInt := by rw [show G_4.1 66 79 = (G.1 66 79) from (hq_5.i 66 79 (by decide) (by decide))]
    refine S_calli (va_runV (As := []) (rest := []) ⟨hx, hb, hml, hown, hts⟩ (n_undo l D k A a z G_4  (by omega)) (cwV 0 hts (gd_V hgd m2019 m2020 m2021 m131 m2022) rfl rfl rfl (by decide +kernel) ⟨Nat.le_of_ble_eq_true rfl, Nat.le_of_ble_eq_true rfl⟩) (pre_V hW hB_G_4 hK hZ hS kd_66 rfl) rfl rfl hl.1 rfl (lv_room (Nat.le_of_ble_eq_true rfl)) dL_law_1351 ⟨Nat.le_of_ble_eq_true rfl, Nat.le_of_ble_eq_true rfl⟩) hS (fun r_13 G_14 H locs hpo hW hS => ?_)
    have hX_17 : Q_undo G_4 r_13 G_14 := hpo
    obtain ⟨hB_G_14, hq_15, f_18, hp_16, -⟩ := hpo
    obtain ⟨u_19, u_20⟩ := L_undo_1 hX_7 hX_17  (by omega)
    refine lv_pop hx hb dL_law_1354 rfl ?_
    refine lv_goto (tgt := 1641) hx hb dL_law_1355 (by decide) ?_
    have g_21 : gO G_14 = gO G := gO_fr (rs := [58, 110, 111]) (fs := [(30, 4), (30, 5), (66, 78), (66, 79)]) ((Fr.rf.call hq_5 (by decide) (by decide)).call hq_15 (by decide) (by decide)) (by decide) (by decide)
    have g_22 : gP G_14 = gP G := gP_fr (rs := [58, 110, 111]) (fs := [(30, 4), (30, 5), (66, 78), (66, 79)]) ((Fr.rf.call hq_5 (by decide) (by decide)).call hq_15 (by decide) (by decide)) (by decide) (by decide)
    have g_23 : gS G_14 = gS G := gS_fr (rs := [58, 110, 111]) (fs := [(30, 4), (30, 5), (66, 78), (66, 79)]) ((Fr.rf.call hq_5 (by decide) (by decide)).call hq_15 (by decide) (by decide)) (by decide) (by decide)
    have g_24 : gTE G_14 = gTE G := gTE_fr (rs := [58, 110, 111]) (fs := [(30, 4), (30, 5), (66, 78), (66, 79)]) ((Fr.rf.call hq_5 (by decide) (by decide)).call hq_15 (by decide) (by decide)) (by decide) (by decide)
    have g_25 : gW G_14 = gW G := gW_fr (rs := [58, 110, 111]) (fs := [(30, 4), (30, 5), (66, 78), (66, 79)]) ((Fr.rf.call hq_5 (by decide) (by decide)).call hq_15 (by decide) (by decide)) (by decide) (by decide)
    have b_26 : 0 ≤ (G.1 0 11).toInt ∧ (G.1 0 11).toInt ≤ 1600 := hB_G.i 0 11 rfl rfl
    have g_27 : (G_14.1 0 11).toInt = (G.1 0 11).toInt := by rw [show G_14.1 0 11 = (G.1 0 11) from ((hq_15.i 0 11 (by decide) (by decide)).trans (hq_5.i 0 11 (by decide) (by decide)))]
    have b_28 : 0 ≤ (G.1 3 7).toInt ∧ (G.1 3 7).toInt ≤ 4 := hB_G.i 3 7 rfl rfl
    have g_29 : (G_14.1 3 7).toInt = (G.1 3 7).toInt := by rw [show G_14.1 3 7 = (G.1 3 7) from ((hq_15.i 3 7 (by decide) (by decide)).trans (hq_5.i 3 7 (by decide) (by decide)))]
    have b_30 : (-1) ≤ (G.1 3 8).toInt ∧ (G.1 3 8).toInt ≤ 1600 := hB_G.i 3 8 rfl rfl
    have g_31 : (G_14.1 3 8).toInt = (G.1 3 8).toInt := by rw [show G_14.1 3 8 = (G.1 3 8) from ((hq_15.i 3 8 (by decide) (by decide)).trans (hq_5.i 3 8 (by decide) (by decide)))]
    have b_32 : 0 ≤ (G_4.1 30 4).toInt ∧ (G_4.1 30 4).toInt ≤ 40 := hB_G_4.i 30 4 rfl rfl
    have g_33 : (G_14.1 30 4).toInt = (G_4.1 30 4).toInt := by rw [show G_14.1 30 4 = (G_4.1 30 4) from (hq_15.i 30 4 (by decide) (by decide))]
    have b_34 : 0 ≤ (G_4.1 30 5).toInt ∧ (G_4.1 30 5).toInt ≤ 40 := hB_G_4.i 30 5 rfl rfl
    have g_35 : (G_14.1 30 5).toInt = (G_4.1 30 5).toInt := by rw [show G_14.1 30 5 = (G_4.1 30 5) from (hq_15.i 30 5 (by decide) (by decide))]
    have b_36 : 0 ≤ (G.1 31 6).toInt ∧ (G.1 31 6).toInt ≤ 100000 := hB_G.i 31 6 rfl rfl
    have g_37 : (G_14.1 31 6).toInt = (G.1 31 6).toInt := by rw [show G_14.1 31 6 = (G.1 31 6) from ((hq_15.i 31 6 (by decide) (by decide)).trans (hq_5.i 31 6 (by decide) (by decide)))]
    have b_38 : 0 ≤ (G.1 66 1).toInt ∧ (G.1 66 1).toInt ≤ 1600 := hB_G.i 66 1 rfl rfl
    have g_39 : (G_14.1 66 1).toInt = (G.1 66 1).toInt := by rw [show G_14.1 66 1 = (G.1 66 1) from ((hq_15.i 66 1 (by decide) (by decide)).trans (hq_5.i 66 1 (by decide) (by decide)))]
    have b_40 : 0 ≤ (G.1 66 2).toInt ∧ (G.1 66 2).toInt ≤ 4 := hB_G.i 66 2 rfl rfl
    have g_41 : (G_14.1 66 2).toInt = (G.1 66 2).toInt := by rw [show G_14.1 66 2 = (G.1 66 2) from ((hq_15.i 66 2 (by decide) (by decide)).trans (hq_5.i 66 2 (by decide) (by decide)))]
    have b_42 : (-1) ≤ (G.1 66 3).toInt ∧ (G.1 66 3).toInt ≤ 1600 := hB_G.i 66 3 rfl rfl
    have g_43 : (G_14.1 66 3).toInt = (G.1 66 3).toInt := by rw [show G_14.1 66 3 = (G.1 66 3) from ((hq_15.i 66 3 (by decide) (by decide)).trans (hq_5.i 66 3 (by decide) (by decide)))]
    have b_44 : 0 ≤ (G_14.1 66 78).toInt ∧ (G_14.1 66 78).toInt ≤ 40 := hB_G_14.i 66 78 rfl rfl
    have b_45 : 0 ≤ (G_14.1 66 79).toInt ∧ (G_14.1 66 79).toInt ≤ 40 := hB_G_14.i 66 79 rfl rfl
    have b_46 : 0 ≤ (G.1 66 86).toInt ∧ (G.1 66 86).toInt ≤ 100000 := hB_G.i 66 86 rfl rfl
    have g_47 : (G_14.1 66 86).toInt = (G.1 66 86).toInt := by rw [show G_14.1 66 86 = (G.1 66 86) from ((hq_15.i 66 86 (by decide) (by decide)).trans (hq_5.i 66 86 (by decide) (by decide)))]
    have b_48 : 0 ≤ (G.1 96 0).toInt ∧ (G.1 96 0).toInt ≤ 9 := hB_G.i 96 0 rfl rfl
    have g_49 : (G_14.1 96 0).toInt = (G.1 96 0).toInt := by rw [show G_14.1 96 0 = (G.1 96 0) from ((hq_15.i 96 0 (by decide) (by decide)).trans (hq_5.i 96 0 (by decide) (by decide)))]
    have b_50 : 0 ≤ (G.1 96 1).toInt ∧ (G.1 96 1).toInt ≤ 9 := hB_G.i 96 1 rfl rfl
    have g_51 : (G_14.1 96 1).toInt = (G.1 96 1).toInt := by rw [show G_14.1 96 1 = (G.1 96 1) from ((hq_15.i 96 1 (by decide) (by decide)).trans (hq_5.i 96 1 (by decide) (by decide)))]
    have b_52 : 0 ≤ (G.1 96 2).toInt ∧ (G.1 96 2).toInt ≤ 9 := hB_G.i 96 2 rfl rfl
    have g_53 : (G_14.1 96 2).toInt = (G.1 96 2).toInt := by rw [show G_14.1 96 2 = (G.1 96 2) from ((hq_15.i 96 2 (by decide) (by decide)).trans (hq_5.i 96 2 (by decide) (by decide)))]
    exact K G_14 _ _ _ (Or.inl ⟨((((hq_15.r 0 0 (by decide) (by decide)).trans (hq_5.r 0 0 (by decide) (by decide)))).trans (hv_0_0)), ((((hq_15.r 0 1 (by decide) (by decide)).trans (hq_5.r 0 1 (by decide) (by decide)))).trans (hv_0_1)), ((((hq_15.r 6 4 (by decide) (by decide)).trans (hq_5.r 6 4 (by decide) (by decide)))).trans (hv_6_4)), by omega, by omega, by omega, by omega, by omega, by omega, by omega, by omega, by omega, by omega, by omega, by omega, by omega⟩) hB_G_14 hW hS (lv_sub hl [0, 1, 2, 3] rfl)
  · skip
    refine lv_aload_n hx hb dL_law_1345 rfl (lv_at hl 1 rfl) ?_
    have b_1 : 0 ≤ (G.1 30 4).toInt ∧ (G.1 30 4).toInt ≤ 40 := hB_G.i 30 4 rfl rfl
    have b_2 : 0 ≤ (G.1 30 5).toInt ∧ (G.1 30 5).toInt ≤ 40 := hB_G.i 30 5 rfl rfl
    refine S_calli (va_runV (As := []) (rest := []) ⟨hx, hb, hml, hown, hts⟩ (k_Wundo l D k A a z G  (by omega)) (cwV 0 hts (gd_V hgd m1218 m1219 m1220 m117 m1221) rfl rfl rfl (by decide +kernel) ⟨Nat.le_of_ble_eq_true rfl, Nat.le_of_ble_eq_true rfl⟩) (pre_V hW hB_G hK hZ hS kd_0 rfl) rfl rfl hl.1 rfl (lv_room (Nat.le_of_ble_eq_true rfl)) dL_law_1346 ⟨Nat.le_of_ble_eq_true rfl, Nat.le_of_ble_eq_true rfl⟩) hS (fun r_3 G_4 H locs hpo hW hS => ?_)
    have hX_7 : P_Wundo G r_3 G_4 := hpo
    obtain ⟨hB_G_4, hq_5, f_8, hp_6, -⟩ := hpo
    refine lv_pop hx hb dL_law_1349 rfl ?_
    refine lv_aload_n hx hb dL_law_1350 rfl (lv_at hl 2 rfl) ?_
    have b_9 : 0 ≤ (G.1 66 78).toInt ∧ (G.1 66 78).toInt ≤ 40 := hB_G.i 66 78 rfl rfl
    have g_10 : (G_4.1 66 78).toInt = (G.1 66 78).toInt := by rw [show G_4.1 66 78 = (G.1 66 78) from (hq_5.i 66 78 (by decide) (by decide))]
    have b_11 : 0 ≤ (G.1 66 79).toInt ∧ (G.1 66 79).toInt ≤ 40 := hB_G.i 66 79 rfl rfl
    have g_12 : (G_4.1 66 79).toInt = (G.1 66 79).toInt := by rw [show G_4.1 66 79 = (G.1 66 79) from (hq_5.i 66 79 (by decide) (by decide))]
    refine S_calli (va_runV (As := []) (rest := []) ⟨hx, hb, hml, hown, hts⟩ (n_undo l D k A a z G_4  (by omega)) (cwV 0 hts (gd_V hgd m2019 m2020 m2021 m131 m2022) rfl rfl rfl (by decide +kernel) ⟨Nat.le_of_ble_eq_true rfl, Nat.le_of_ble_eq_true rfl⟩) (pre_V hW hB_G_4 hK hZ hS kd_66 rfl) rfl rfl hl.1 rfl (lv_room (Nat.le_of_ble_eq_true rfl)) dL_law_1351 ⟨Nat.le_of_ble_eq_true rfl, Nat.le_of_ble_eq_true rfl⟩) hS (fun r_13 G_14 H locs hpo hW hS => ?_)
    have hX_17 : Q_undo G_4 r_13 G_14 := hpo
    obtain ⟨hB_G_14, hq_15, f_18, hp_16, -⟩ := hpo
    obtain ⟨u_19, u_20⟩ := L_undo_2 hX_7 hX_17  (by omega)
    refine lv_pop hx hb dL_law_1354 rfl ?_
    refine lv_goto (tgt := 1641) hx hb dL_law_1355 (by decide) ?_
    have g_21 : gO G_14 = gO G := gO_fr (rs := [58, 110, 111]) (fs := [(30, 4), (30, 5), (66, 78), (66, 79)]) ((Fr.rf.call hq_5 (by decide) (by decide)).call hq_15 (by decide) (by decide)) (by decide) (by decide)
    have g_22 : gP G_14 = gP G := gP_fr (rs := [58, 110, 111]) (fs := [(30, 4), (30, 5), (66, 78), (66, 79)]) ((Fr.rf.call hq_5 (by decide) (by decide)).call hq_15 (by decide) (by decide)) (by decide) (by decide)
    have g_23 : gS G_14 = gS G := gS_fr (rs := [58, 110, 111]) (fs := [(30, 4), (30, 5), (66, 78), (66, 79)]) ((Fr.rf.call hq_5 (by decide) (by decide)).call hq_15 (by decide) (by decide)) (by decide) (by decide)
    have g_24 : gTE G_14 = gTE G := gTE_fr (rs := [58, 110, 111]) (fs := [(30, 4), (30, 5), (66, 78), (66, 79)]) ((Fr.rf.call hq_5 (by decide) (by decide)).call hq_15 (by decide) (by decide)) (by decide) (by decide)
    have g_25 : gW G_14 = gW G := gW_fr (rs := [58, 110, 111]) (fs := [(30, 4), (30, 5), (66, 78), (66, 79)]) ((Fr.rf.call hq_5 (by decide) (by decide)).call hq_15 (by decide) (by decide)) (by decide) (by decide)
    have b_26 : 0 ≤ (G.1 0 11).toInt ∧ (G.1 0 11).toInt ≤ 1600 := hB_G.i 0 11 rfl rfl
    have g_27 : (G_14.1 0 11).toInt = (G.1 0 11).toInt := by rw [show G_14.1 0 11 = (G.1 0 11) from ((hq_15.i 0 11 (by decide) (by decide)).trans (hq_5.i 0 11 (by decide) (by decide)))]
    have b_28 : 0 ≤ (G.1 3 7).toInt ∧ (G.1 3 7).toInt ≤ 4 := hB_G.i 3 7 rfl rfl
    have g_29 : (G_14.1 3 7).toInt = (G.1 3 7).toInt := by rw [show G_14.1 3 7 = (G.1 3 7) from ((hq_15.i 3 7 (by decide) (by decide)).trans (hq_5.i 3 7 (by decide) (by decide)))]
    have b_30 : (-1) ≤ (G.1 3 8).toInt ∧ (G.1 3 8).toInt ≤ 1600 := hB_G.i 3 8 rfl rfl
    have g_31 : (G_14.1 3 8).toInt = (G.1 3 8).toInt := by rw [show G_14.1 3 8 = (G.1 3 8) from ((hq_15.i 3 8 (by decide) (by decide)).trans (hq_5.i 3 8 (by decide) (by decide)))]
    have b_32 : 0 ≤ (G_4.1 30 4).toInt ∧ (G_4.1 30 4).toInt ≤ 40 := hB_G_4.i 30 4 rfl rfl
    have g_33 : (G_14.1 30 4).toInt = (G_4.1 30 4).toInt := by rw [show G_14.1 30 4 = (G_4.1 30 4) from (hq_15.i 30 4 (by decide) (by decide))]
    have b_34 : 0 ≤ (G_4.1 30 5).toInt ∧ (G_4.1 30 5).toInt ≤ 40 := hB_G_4.i 30 5 rfl rfl
    have g_35 : (G_14.1 30 5).toInt = (G_4.1 30 5).toInt := by rw [show G_14.1 30 5 = (G_4.1 30 5) from (hq_15.i 30 5 (by decide) (by decide))]
    have b_36 : 0 ≤ (G.1 31 6).toInt ∧ (G.1 31 6).toInt ≤ 100000 := hB_G.i 31 6 rfl rfl
    have g_37 : (G_14.1 31 6).toInt = (G.1 31 6).toInt := by rw [show G_14.1 31 6 = (G.1 31 6) from ((hq_15.i 31 6 (by decide) (by decide)).trans (hq_5.i 31 6 (by decide) (by decide)))]
    have b_38 : 0 ≤ (G.1 66 1).toInt ∧ (G.1 66 1).toInt ≤ 1600 := hB_G.i 66 1 rfl rfl
    have g_39 : (G_14.1 66 1).toInt = (G.1 66 1).toInt := by rw [show G_14.1 66 1 = (G.1 66 1) from ((hq_15.i 66 1 (by decide) (by decide)).trans (hq_5.i 66 1 (by decide) (by decide)))]
    have b_40 : 0 ≤ (G.1 66 2).toInt ∧ (G.1 66 2).toInt ≤ 4 := hB_G.i 66 2 rfl rfl
    have g_41 : (G_14.1 66 2).toInt = (G.1 66 2).toInt := by rw [show G_14.1 66 2 = (G.1 66 2) from ((hq_15.i 66 2 (by decide) (by decide)).trans (hq_5.i 66 2 (by decide) (by decide)))]
    have b_42 : (-1) ≤ (G.1 66 3).toInt ∧ (G.1 66 3).toInt ≤ 1600 := hB_G.i 66 3 rfl rfl
    have g_43 : (G_14.1 66 3).toInt = (G.1 66 3).toInt := by rw [show G_14.1 66 3 = (G.1 66 3) from ((hq_15.i 66 3 (by decide) (by decide)).trans (hq_5.i 66 3 (by decide) (by decide)))]
    have b_44 : 0 ≤ (G_14.1 66 78).toInt ∧ (G_14.1 66 78).toInt ≤ 40 := hB_G_14.i 66 78 rfl rfl
    have b_45 : 0 ≤ (G_14.1 66 79).toInt ∧ (G_14.1 66 79).toInt ≤ 40 := hB_G_14.i 66 79 rfl rfl
    have b_46 : 0 ≤ (G.1 66 86).toInt ∧ (G.1 66 86).toInt ≤ 100000 := hB_G.i 66 86 rfl rfl
    have g_47 : (G_14.1 66 86).toInt = (G.1 66 86).toInt := by rw [show G_14.1 66 86 = (G.1 66 86) from ((hq_15.i 66 86 (by decide) (by decide)).trans (hq_5.i 66 86 (by decide) (by decide)))]
    have b_48 : 0 ≤ (G.1 96 0).toInt ∧ (G.1 96 0).toInt ≤ 9 := hB_G.i 96 0 rfl rfl
    have g_49 : (G_14.1 96 0).toInt = (G.1 96 0).toInt := by rw [show G_14.1 96 0 = (G.1 96 0) from ((hq_15.i 96 0 (by decide) (by decide)).trans (hq_5.i 96 0 (by decide) (by decide)))]
    have b_50 : 0 ≤ (G.1 96 1).toInt ∧ (G.1 96 1).toInt ≤ 9 := hB_G.i 96 1 rfl rfl
    have g_51 : (G_14.1 96 1).toInt = (G.1 96 1).toInt := by rw [show G_14.1 96 1 = (G.1 96 1) from ((hq_15.i 96 1 (by decide) (by decide)).trans (hq_5.i 96 1 (by decide) (by decide)))]
    have b_52 : 0 ≤ (G.1 96 2).toInt ∧ (G.1 96 2).toInt ≤ 9 := hB_G.i 96 2 rfl rfl
    have g_53 : (G_14.1 96 2).toInt = (G.1 96 2).toInt := by rw [show G_14.1 96 2 = (G.1 96 2) from ((hq_15.i 96 2 (by decide) (by decide)).trans (hq_5.i 96 2 (by decide) (by decide)))]
    exact K G_14 _ _ _ (Or.inr ⟨((((hq_15.r 0 0 (by decide) (by decide)).trans (hq_5.r 0 0 (by decide) (by decide)))).trans (hv_0_0)), ((((hq_15.r 0 1 (by decide) (by decide)).trans (hq_5.r 0 1 (by decide) (by decide)))).trans (hv_0_1)), ((((hq_15.r 6 4 (by decide) (by decide)).trans (hq_5.r 6 4 (by decide) (by decide)))).trans (hv_6_4)), by omega, by omega, by omega, by omega, by omega, by omega, by omega, by omega, by omega, by omega, by omega, by omega, by omega⟩) hB_G_14 hW hS (lv_sub hl [0, 1, 2, 3] rfl)

set_option maxHeartbeats 4000000 in
set_option maxRecDepth 100000 in
theorem law_28 {p : Program} {l : Launch} {e : Env} {s : State} {m : MethodId} {below : List Frame} {meth : Method} {c : Code} {D : va_G} {k : KT} {A : Nat → Prop} {a : Nat → Nat} {z : SK} {b L : Nat} {xs : Nat → Int32} (hL : L ≤ 3072) (C0 : lw_At p s m meth c b L xs) (hK : cK D k s) (hZ : Sx A z s) (hbA : ¬ A b) {G : GS} {i0 : Int32} (hi0 : 0 ≤ i0.toInt) (hi6 : i0.toInt + 6 ≤ L) (hI : LI G) (hB_G : Bd G) {H : Heap} {locs : List Loc} {ls : Array Slot} (hW : Wd D k A a G H) (hS : va_S A s.heap H locs) (hl : lv_has ls 4 [(0, .ref b), (1, .ref (a 0)), (2, .ref (a 66)), (3, .int i0)]) (K : ∀ (G1 : GS) (H1 : Heap) (locs1 : List Loc) (ls1 : Array Slot), LI G1 → Bd G1 → Wd D k A a G1 H1 → va_S A s.heap H1 locs1 → lv_has ls1 4 [(0, .ref b), (1, .ref (a 0)), (2, .ref (a 66)), (3, .int i0)] → W p l e room_1 s m #[Value.ref b] below meth c H1 locs1 119 46443 (lw_Z below #[Value.ref b] s) (F0 m 1641 ls1 [])) : W p l e room_1 s m #[Value.ref b] below meth c H locs 119 46443 (lw_Z below #[Value.ref b] s) (F0 m 1358 ls []) := by
  obtain ⟨hx, hb, hr, hml, hown, hts, hX, hbl, hlocks, hgv⟩ := id C0
  have hown : s.vm.findClass RL = some m.cls := hown
  have hgd : ∀ w ∈ gd, w ∈ lw_tbl := fun w h => (List.mem_filter.mp h).1
  have hg : ∀ w ∈ gd, w.before #[Value.ref b] s = true := fun w h => hts w (hgd w h)
  rcases hI with ⟨hv_0_0, hv_0_1, hv_6_4, hj0, hj1, hj2, hj3, hj4, hj5, hj6, hj7, hj8, hj9, hj10, hj11⟩ | ⟨hv_0_0, hv_0_1, hv_6_4, hj0, hj1, hj2, hj3, hj4, hj5, hj6, hj7, hj8, hj9, hj10, hj11⟩
  · skip
    refine lv_aload_n hx hb dL_law_1358 rfl (lv_at hl 1 rfl) ?_
    have b_1 : 0 ≤ (G.1 30 4).toInt ∧ (G.1 30 4).toInt ≤ 40 := hB_G.i 30 4 rfl rfl
    have b_2 : 0 ≤ (G.1 30 5).toInt ∧ (G.1 30 5).toInt ≤ 40 := hB_G.i 30 5 rfl rfl
    refine S_calli (va_runV (As := []) (rest := []) ⟨hx, hb, hml, hown, hts⟩ (k_Wredo l D k A a z G  (by omega)) (cwV 0 hts (gd_V hgd m1226 m1227 m1228 m117 m1229) rfl rfl rfl (by decide +kernel) ⟨Nat.le_of_ble_eq_true rfl, Nat.le_of_ble_eq_true rfl⟩) (pre_V hW hB_G hK hZ hS kd_0 rfl) rfl rfl hl.1 rfl (lv_room (Nat.le_of_ble_eq_true rfl)) dL_law_1359 ⟨Nat.le_of_ble_eq_true rfl, Nat.le_of_ble_eq_true rfl⟩) hS (fun r_3 G_4 H locs hpo hW hS => ?_)
    have hX_7 : P_Wredo G r_3 G_4 := hpo
    obtain ⟨hB_G_4, hq_5, f_8, hp_6, -⟩ := hpo
    refine lv_pop hx hb dL_law_1362 rfl ?_
    refine lv_aload_n hx hb dL_law_1363 rfl (lv_at hl 2 rfl) ?_
    have b_9 : 0 ≤ (G.1 66 78).toInt ∧ (G.1 66 78).toInt ≤ 40 := hB_G.i 66 78 rfl rfl
    have g_10 : (G_4.1 66 78).toInt = (G.1 66 78).toInt := by rw [show G_4.1 66 78 = (G.1 66 78) from (hq_5.i 66 78 (by decide) (by decide))]
    have b_11 : 0 ≤ (G.1 66 79).toInt ∧ (G.1 66 79).toInt ≤ 40 := hB_G.i 66 79 rfl rfl
    have g_12 : (G_4.1 66 79).toInt = (G.1 66 79).toInt := by rw [show G_4.1 66 79 = (G.1 66 79) from (hq_5.i 66 79 (by decide) (by decide))]
    refine S_calli (va_runV (As := []) (rest := []) ⟨hx, hb, hml, hown, hts⟩ (n_redo l D k A a z G_4  (by omega)) (cwV 0 hts (gd_V hgd m2027 m2028 m2029 m131 m2030) rfl rfl rfl (by decide +kernel) ⟨Nat.le_of_ble_eq_true rfl, Nat.le_of_ble_eq_true rfl⟩) (pre_V hW hB_G_4 hK hZ hS kd_66 rfl) rfl rfl hl.1 rfl (lv_room (Nat.le_of_ble_eq_true rfl)) dL_law_1364 ⟨Nat.le_of_ble_eq_true rfl, Nat.le_of_ble_eq_true rfl⟩) hS (fun r_13 G_14 H locs hpo hW hS => ?_)
    have hX_17 : Q_redo G_4 r_13 G_14 := hpo
    obtain ⟨hB_G_14, hq_15, f_18, hp_16, -⟩ := hpo
    obtain ⟨u_19, u_20⟩ := L_redo_1 hX_7 hX_17  (by omega)
    refine lv_pop hx hb dL_law_1367 rfl ?_
    refine lv_goto (tgt := 1641) hx hb dL_law_1368 (by decide) ?_
    have g_21 : gO G_14 = gO G := gO_fr (rs := [58, 110, 111]) (fs := [(30, 4), (30, 5), (66, 78), (66, 79)]) ((Fr.rf.call hq_5 (by decide) (by decide)).call hq_15 (by decide) (by decide)) (by decide) (by decide)
    have g_22 : gP G_14 = gP G := gP_fr (rs := [58, 110, 111]) (fs := [(30, 4), (30, 5), (66, 78), (66, 79)]) ((Fr.rf.call hq_5 (by decide) (by decide)).call hq_15 (by decide) (by decide)) (by decide) (by decide)
    have g_23 : gS G_14 = gS G := gS_fr (rs := [58, 110, 111]) (fs := [(30, 4), (30, 5), (66, 78), (66, 79)]) ((Fr.rf.call hq_5 (by decide) (by decide)).call hq_15 (by decide) (by decide)) (by decide) (by decide)
    have g_24 : gTE G_14 = gTE G := gTE_fr (rs := [58, 110, 111]) (fs := [(30, 4), (30, 5), (66, 78), (66, 79)]) ((Fr.rf.call hq_5 (by decide) (by decide)).call hq_15 (by decide) (by decide)) (by decide) (by decide)
    have g_25 : gW G_14 = gW G := gW_fr (rs := [58, 110, 111]) (fs := [(30, 4), (30, 5), (66, 78), (66, 79)]) ((Fr.rf.call hq_5 (by decide) (by decide)).call hq_15 (by decide) (by decide)) (by decide) (by decide)
    have b_26 : 0 ≤ (G.1 0 11).toInt ∧ (G.1 0 11).toInt ≤ 1600 := hB_G.i 0 11 rfl rfl
    have g_27 : (G_14.1 0 11).toInt = (G.1 0 11).toInt := by rw [show G_14.1 0 11 = (G.1 0 11) from ((hq_15.i 0 11 (by decide) (by decide)).trans (hq_5.i 0 11 (by decide) (by decide)))]
    have b_28 : 0 ≤ (G.1 3 7).toInt ∧ (G.1 3 7).toInt ≤ 4 := hB_G.i 3 7 rfl rfl
    have g_29 : (G_14.1 3 7).toInt = (G.1 3 7).toInt := by rw [show G_14.1 3 7 = (G.1 3 7) from ((hq_15.i 3 7 (by decide) (by decide)).trans (hq_5.i 3 7 (by decide) (by decide)))]
    have b_30 : (-1) ≤ (G.1 3 8).toInt ∧ (G.1 3 8).toInt ≤ 1600 := hB_G.i 3 8 rfl rfl
    have g_31 : (G_14.1 3 8).toInt = (G.1 3 8).toInt := by rw [show G_14.1 3 8 = (G.1 3 8) from ((hq_15.i 3 8 (by decide) (by decide)).trans (hq_5.i 3 8 (by decide) (by decide)))]
    have b_32 : 0 ≤ (G_4.1 30 4).toInt ∧ (G_4.1 30 4).toInt ≤ 40 := hB_G_4.i 30 4 rfl rfl
    have g_33 : (G_14.1 30 4).toInt = (G_4.1 30 4).toInt := by rw [show G_14.1 30 4 = (G_4.1 30 4) from (hq_15.i 30 4 (by decide) (by decide))]
    have b_34 : 0 ≤ (G_4.1 30 5).toInt ∧ (G_4.1 30 5).toInt ≤ 40 := hB_G_4.i 30 5 rfl rfl
    have g_35 : (G_14.1 30 5).toInt = (G_4.1 30 5).toInt := by rw [show G_14.1 30 5 = (G_4.1 30 5) from (hq_15.i 30 5 (by decide) (by decide))]
    have b_36 : 0 ≤ (G.1 31 6).toInt ∧ (G.1 31 6).toInt ≤ 100000 := hB_G.i 31 6 rfl rfl
    have g_37 : (G_14.1 31 6).toInt = (G.1 31 6).toInt := by rw [show G_14.1 31 6 = (G.1 31 6) from ((hq_15.i 31 6 (by decide) (by decide)).trans (hq_5.i 31 6 (by decide) (by decide)))]
    have b_38 : 0 ≤ (G.1 66 1).toInt ∧ (G.1 66 1).toInt ≤ 1600 := hB_G.i 66 1 rfl rfl
    have g_39 : (G_14.1 66 1).toInt = (G.1 66 1).toInt := by rw [show G_14.1 66 1 = (G.1 66 1) from ((hq_15.i 66 1 (by decide) (by decide)).trans (hq_5.i 66 1 (by decide) (by decide)))]
    have b_40 : 0 ≤ (G.1 66 2).toInt ∧ (G.1 66 2).toInt ≤ 4 := hB_G.i 66 2 rfl rfl
    have g_41 : (G_14.1 66 2).toInt = (G.1 66 2).toInt := by rw [show G_14.1 66 2 = (G.1 66 2) from ((hq_15.i 66 2 (by decide) (by decide)).trans (hq_5.i 66 2 (by decide) (by decide)))]
    have b_42 : (-1) ≤ (G.1 66 3).toInt ∧ (G.1 66 3).toInt ≤ 1600 := hB_G.i 66 3 rfl rfl
    have g_43 : (G_14.1 66 3).toInt = (G.1 66 3).toInt := by rw [show G_14.1 66 3 = (G.1 66 3) from ((hq_15.i 66 3 (by decide) (by decide)).trans (hq_5.i 66 3 (by decide) (by decide)))]
    have b_44 : 0 ≤ (G_14.1 66 78).toInt ∧ (G_14.1 66 78).toInt ≤ 40 := hB_G_14.i 66 78 rfl rfl
    have b_45 : 0 ≤ (G_14.1 66 79).toInt ∧ (G_14.1 66 79).toInt ≤ 40 := hB_G_14.i 66 79 rfl rfl
    have b_46 : 0 ≤ (G.1 66 86).toInt ∧ (G.1 66 86).toInt ≤ 100000 := hB_G.i 66 86 rfl rfl
    have g_47 : (G_14.1 66 86).toInt = (G.1 66 86).toInt := by rw [show G_14.1 66 86 = (G.1 66 86) from ((hq_15.i 66 86 (by decide) (by decide)).trans (hq_5.i 66 86 (by decide) (by decide)))]
    have b_48 : 0 ≤ (G.1 96 0).toInt ∧ (G.1 96 0).toInt ≤ 9 := hB_G.i 96 0 rfl rfl
    have g_49 : (G_14.1 96 0).toInt = (G.1 96 0).toInt := by rw [show G_14.1 96 0 = (G.1 96 0) from ((hq_15.i 96 0 (by decide) (by decide)).trans (hq_5.i 96 0 (by decide) (by decide)))]
    have b_50 : 0 ≤ (G.1 96 1).toInt ∧ (G.1 96 1).toInt ≤ 9 := hB_G.i 96 1 rfl rfl
    have g_51 : (G_14.1 96 1).toInt = (G.1 96 1).toInt := by rw [show G_14.1 96 1 = (G.1 96 1) from ((hq_15.i 96 1 (by decide) (by decide)).trans (hq_5.i 96 1 (by decide) (by decide)))]
    have b_52 : 0 ≤ (G.1 96 2).toInt ∧ (G.1 96 2).toInt ≤ 9 := hB_G.i 96 2 rfl rfl
    have g_53 : (G_14.1 96 2).toInt = (G.1 96 2).toInt := by rw [show G_14.1 96 2 = (G.1 96 2) from ((hq_15.i 96 2 (by decide) (by decide)).trans (hq_5.i 96 2 (by decide) (by decide)))]
    exact K G_14 _ _ _ (Or.inl ⟨((((hq_15.r 0 0 (by decide) (by decide)).trans (hq_5.r 0 0 (by decide) (by decide)))).trans (hv_0_0)), ((((hq_15.r 0 1 (by decide) (by decide)).trans (hq_5.r 0 1 (by decide) (by decide)))).trans (hv_0_1)), ((((hq_15.r 6 4 (by decide) (by decide)).trans (hq_5.r 6 4 (by decide) (by decide)))).trans (hv_6_4)), by omega, by omega, by omega, by omega, by omega, by omega, by omega, by omega, by omega, by omega, by omega, by omega, by omega⟩) hB_G_14 hW hS (lv_sub hl [0, 1, 2, 3] rfl)
  · skip
    refine lv_aload_n hx hb dL_law_1358 rfl (lv_at hl 1 rfl) ?_
    have b_1 : 0 ≤ (G.1 30 4).toInt ∧ (G.1 30 4).toInt ≤ 40 := hB_G.i 30 4 rfl rfl
    have b_2 : 0 ≤ (G.1 30 5).toInt ∧ (G.1 30 5).toInt ≤ 40 := hB_G.i 30 5 rfl rfl
    refine S_calli (va_runV (As := []) (rest := []) ⟨hx, hb, hml, hown, hts⟩ (k_Wredo l D k A a z G  (by omega)) (cwV 0 hts (gd_V hgd m1226 m1227 m1228 m117 m1229) rfl rfl rfl (by decide +kernel) ⟨Nat.le_of_ble_eq_true rfl, Nat.le_of_ble_eq_true rfl⟩) (pre_V hW hB_G hK hZ hS kd_0 rfl) rfl rfl hl.1 rfl (lv_room (Nat.le_of_ble_eq_true rfl)) dL_law_1359 ⟨Nat.le_of_ble_eq_true rfl, Nat.le_of_ble_eq_true rfl⟩) hS (fun r_3 G_4 H locs hpo hW hS => ?_)
    have hX_7 : P_Wredo G r_3 G_4 := hpo
    obtain ⟨hB_G_4, hq_5, f_8, hp_6, -⟩ := hpo
    refine lv_pop hx hb dL_law_1362 rfl ?_
    refine lv_aload_n hx hb dL_law_1363 rfl (lv_at hl 2 rfl) ?_
    have b_9 : 0 ≤ (G.1 66 78).toInt ∧ (G.1 66 78).toInt ≤ 40 := hB_G.i 66 78 rfl rfl
    have g_10 : (G_4.1 66 78).toInt = (G.1 66 78).toInt := by rw [show G_4.1 66 78 = (G.1 66 78) from (hq_5.i 66 78 (by decide) (by decide))]
    have b_11 : 0 ≤ (G.1 66 79).toInt ∧ (G.1 66 79).toInt ≤ 40 := hB_G.i 66 79 rfl rfl
    have g_12 : (G_4.1 66 79).toInt = (G.1 66 79).toInt := by rw [show G_4.1 66 79 = (G.1 66 79) from (hq_5.i 66 79 (by decide) (by decide))]
    refine S_calli (va_runV (As := []) (rest := []) ⟨hx, hb, hml, hown, hts⟩ (n_redo l D k A a z G_4  (by omega)) (cwV 0 hts (gd_V hgd m2027 m2028 m2029 m131 m2030) rfl rfl rfl (by decide +kernel) ⟨Nat.le_of_ble_eq_true rfl, Nat.le_of_ble_eq_true rfl⟩) (pre_V hW hB_G_4 hK hZ hS kd_66 rfl) rfl rfl hl.1 rfl (lv_room (Nat.le_of_ble_eq_true rfl)) dL_law_1364 ⟨Nat.le_of_ble_eq_true rfl, Nat.le_of_ble_eq_true rfl⟩) hS (fun r_13 G_14 H locs hpo hW hS => ?_)
    have hX_17 : Q_redo G_4 r_13 G_14 := hpo
    obtain ⟨hB_G_14, hq_15, f_18, hp_16, -⟩ := hpo
    obtain ⟨u_19, u_20⟩ := L_redo_2 hX_7 hX_17  (by omega)
    refine lv_pop hx hb dL_law_1367 rfl ?_
    refine lv_goto (tgt := 1641) hx hb dL_law_1368 (by decide) ?_
    have g_21 : gO G_14 = gO G := gO_fr (rs := [58, 110, 111]) (fs := [(30, 4), (30, 5), (66, 78), (66, 79)]) ((Fr.rf.call hq_5 (by decide) (by decide)).call hq_15 (by decide) (by decide)) (by decide) (by decide)
    have g_22 : gP G_14 = gP G := gP_fr (rs := [58, 110, 111]) (fs := [(30, 4), (30, 5), (66, 78), (66, 79)]) ((Fr.rf.call hq_5 (by decide) (by decide)).call hq_15 (by decide) (by decide)) (by decide) (by decide)
    have g_23 : gS G_14 = gS G := gS_fr (rs := [58, 110, 111]) (fs := [(30, 4), (30, 5), (66, 78), (66, 79)]) ((Fr.rf.call hq_5 (by decide) (by decide)).call hq_15 (by decide) (by decide)) (by decide) (by decide)
    have g_24 : gTE G_14 = gTE G := gTE_fr (rs := [58, 110, 111]) (fs := [(30, 4), (30, 5), (66, 78), (66, 79)]) ((Fr.rf.call hq_5 (by decide) (by decide)).call hq_15 (by decide) (by decide)) (by decide) (by decide)
    have g_25 : gW G_14 = gW G := gW_fr (rs := [58, 110, 111]) (fs := [(30, 4), (30, 5), (66, 78), (66, 79)]) ((Fr.rf.call hq_5 (by decide) (by decide)).call hq_15 (by decide) (by decide)) (by decide) (by decide)
    have b_26 : 0 ≤ (G.1 0 11).toInt ∧ (G.1 0 11).toInt ≤ 1600 := hB_G.i 0 11 rfl rfl
    have g_27 : (G_14.1 0 11).toInt = (G.1 0 11).toInt := by rw [show G_14.1 0 11 = (G.1 0 11) from ((hq_15.i 0 11 (by decide) (by decide)).trans (hq_5.i 0 11 (by decide) (by decide)))]
    have b_28 : 0 ≤ (G.1 3 7).toInt ∧ (G.1 3 7).toInt ≤ 4 := hB_G.i 3 7 rfl rfl
    have g_29 : (G_14.1 3 7).toInt = (G.1 3 7).toInt := by rw [show G_14.1 3 7 = (G.1 3 7) from ((hq_15.i 3 7 (by decide) (by decide)).trans (hq_5.i 3 7 (by decide) (by decide)))]
    have b_30 : (-1) ≤ (G.1 3 8).toInt ∧ (G.1 3 8).toInt ≤ 1600 := hB_G.i 3 8 rfl rfl
    have g_31 : (G_14.1 3 8).toInt = (G.1 3 8).toInt := by rw [show G_14.1 3 8 = (G.1 3 8) from ((hq_15.i 3 8 (by decide) (by decide)).trans (hq_5.i 3 8 (by decide) (by decide)))]
    have b_32 : 0 ≤ (G_4.1 30 4).toInt ∧ (G_4.1 30 4).toInt ≤ 40 := hB_G_4.i 30 4 rfl rfl
    have g_33 : (G_14.1 30 4).toInt = (G_4.1 30 4).toInt := by rw [show G_14.1 30 4 = (G_4.1 30 4) from (hq_15.i 30 4 (by decide) (by decide))]
    have b_34 : 0 ≤ (G_4.1 30 5).toInt ∧ (G_4.1 30 5).toInt ≤ 40 := hB_G_4.i 30 5 rfl rfl
    have g_35 : (G_14.1 30 5).toInt = (G_4.1 30 5).toInt := by rw [show G_14.1 30 5 = (G_4.1 30 5) from (hq_15.i 30 5 (by decide) (by decide))]
    have b_36 : 0 ≤ (G.1 31 6).toInt ∧ (G.1 31 6).toInt ≤ 100000 := hB_G.i 31 6 rfl rfl
    have g_37 : (G_14.1 31 6).toInt = (G.1 31 6).toInt := by rw [show G_14.1 31 6 = (G.1 31 6) from ((hq_15.i 31 6 (by decide) (by decide)).trans (hq_5.i 31 6 (by decide) (by decide)))]
    have b_38 : 0 ≤ (G.1 66 1).toInt ∧ (G.1 66 1).toInt ≤ 1600 := hB_G.i 66 1 rfl rfl
    have g_39 : (G_14.1 66 1).toInt = (G.1 66 1).toInt := by rw [show G_14.1 66 1 = (G.1 66 1) from ((hq_15.i 66 1 (by decide) (by decide)).trans (hq_5.i 66 1 (by decide) (by decide)))]
    have b_40 : 0 ≤ (G.1 66 2).toInt ∧ (G.1 66 2).toInt ≤ 4 := hB_G.i 66 2 rfl rfl
    have g_41 : (G_14.1 66 2).toInt = (G.1 66 2).toInt := by rw [show G_14.1 66 2 = (G.1 66 2) from ((hq_15.i 66 2 (by decide) (by decide)).trans (hq_5.i 66 2 (by decide) (by decide)))]
    have b_42 : (-1) ≤ (G.1 66 3).toInt ∧ (G.1 66 3).toInt ≤ 1600 := hB_G.i 66 3 rfl rfl
    have g_43 : (G_14.1 66 3).toInt = (G.1 66 3).toInt := by rw [show G_14.1 66 3 = (G.1 66 3) from ((hq_15.i 66 3 (by decide) (by decide)).trans (hq_5.i 66 3 (by decide) (by decide)))]
    have b_44 : 0 ≤ (G_14.1 66 78).toInt ∧ (G_14.1 66 78).toInt ≤ 40 := hB_G_14.i 66 78 rfl rfl
    have b_45 : 0 ≤ (G_14.1 66 79).toInt ∧ (G_14.1 66 79).toInt ≤ 40 := hB_G_14.i 66 79 rfl rfl
    have b_46 : 0 ≤ (G.1 66 86).toInt ∧ (G.1 66 86).toInt ≤ 100000 := hB_G.i 66 86 rfl rfl
    have g_47 : (G_14.1 66 86).toInt = (G.1 66 86).toInt := by rw [show G_14.1 66 86 = (G.1 66 86) from ((hq_15.i 66 86 (by decide) (by decide)).trans (hq_5.i 66 86 (by decide) (by decide)))]
    have b_48 : 0 ≤ (G.1 96 0).toInt ∧ (G.1 96 0).toInt ≤ 9 := hB_G.i 96 0 rfl rfl
    have g_49 : (G_14.1 96 0).toInt = (G.1 96 0).toInt := by rw [show G_14.1 96 0 = (G.1 96 0) from ((hq_15.i 96 0 (by decide) (by decide)).trans (hq_5.i 96 0 (by decide) (by decide)))]
    have b_50 : 0 ≤ (G.1 96 1).toInt ∧ (G.1 96 1).toInt ≤ 9 := hB_G.i 96 1 rfl rfl
    have g_51 : (G_14.1 96 1).toInt = (G.1 96 1).toInt := by rw [show G_14.1 96 1 = (G.1 96 1) from ((hq_15.i 96 1 (by decide) (by decide)).trans (hq_5.i 96 1 (by decide) (by decide)))]
    have b_52 : 0 ≤ (G.1 96 2).toInt ∧ (G.1 96 2).toInt ≤ 9 := hB_G.i 96 2 rfl rfl
    have g_53 : (G_14.1 96 2).toInt = (G.1 96 2).toInt := by rw [show G_14.1 96 2 = (G.1 96 2) from ((hq_15.i 96 2 (by decide) (by decide)).trans (hq_5.i 96 2 (by decide) (by decide)))]
    exact K G_14 _ _ _ (Or.inr ⟨((((hq_15.r 0 0 (by decide) (by decide)).trans (hq_5.r 0 0 (by decide) (by decide)))).trans (hv_0_0)), ((((hq_15.r 0 1 (by decide) (by decide)).trans (hq_5.r 0 1 (by decide) (by decide)))).trans (hv_0_1)), ((((hq_15.r 6 4 (by decide) (by decide)).trans (hq_5.r 6 4 (by decide) (by decide)))).trans (hv_6_4)), by omega, by omega, by omega, by omega, by omega, by omega, by omega, by omega, by omega, by omega, by omega, by omega, by omega⟩) hB_G_14 hW hS (lv_sub hl [0, 1, 2, 3] rfl)

set_option maxHeartbeats 4000000 in
set_option maxRecDepth 100000 in
theorem law_29 {p : Program} {l : Launch} {e : Env} {s : State} {m : MethodId} {below : List Frame} {meth : Method} {c : Code} {D : va_G} {k : KT} {A : Nat → Prop} {a : Nat → Nat} {z : SK} {b L : Nat} {xs : Nat → Int32} (hL : L ≤ 3072) (C0 : lw_At p s m meth c b L xs) (hK : cK D k s) (hZ : Sx A z s) (hbA : ¬ A b) {G : GS} {i0 : Int32} (hi0 : 0 ≤ i0.toInt) (hi6 : i0.toInt + 6 ≤ L) (hI : LI G) (hB_G : Bd G) {H : Heap} {locs : List Loc} {ls : Array Slot} (hW : Wd D k A a G H) (hS : va_S A s.heap H locs) (hl : lv_has ls 4 [(0, .ref b), (1, .ref (a 0)), (2, .ref (a 66)), (3, .int i0)]) (K : ∀ (G1 : GS) (H1 : Heap) (locs1 : List Loc) (ls1 : Array Slot), LI G1 → Bd G1 → Wd D k A a G1 H1 → va_S A s.heap H1 locs1 → lv_has ls1 4 [(0, .ref b), (1, .ref (a 0)), (2, .ref (a 66)), (3, .int i0)] → W p l e room_1 s m #[Value.ref b] below meth c H1 locs1 119 46443 (lw_Z below #[Value.ref b] s) (F0 m 1641 ls1 [])) : W p l e room_1 s m #[Value.ref b] below meth c H locs 119 46443 (lw_Z below #[Value.ref b] s) (F0 m 1371 ls []) := by
  obtain ⟨hx, hb, hr, hml, hown, hts, hX, hbl, hlocks, hgv⟩ := id C0
  have hown : s.vm.findClass RL = some m.cls := hown
  have hgd : ∀ w ∈ gd, w ∈ lw_tbl := fun w h => (List.mem_filter.mp h).1
  have hg : ∀ w ∈ gd, w.before #[Value.ref b] s = true := fun w h => hts w (hgd w h)
  rcases hI with ⟨hv_0_0, hv_0_1, hv_6_4, hj0, hj1, hj2, hj3, hj4, hj5, hj6, hj7, hj8, hj9, hj10, hj11⟩ | ⟨hv_0_0, hv_0_1, hv_6_4, hj0, hj1, hj2, hj3, hj4, hj5, hj6, hj7, hj8, hj9, hj10, hj11⟩
  · skip
    refine lv_aload_n hx hb dL_law_1371 rfl (lv_at hl 1 rfl) ?_
    refine lv_aload_n hx hb dL_law_1372 rfl (lv_at hl 0 rfl) ?_
    refine lv_iload_n hx hb dL_law_1373 rfl (lv_at hl 3 rfl) ?_
    refine lv_iconst (v := 1) hx hb dL_law_1374 (by decide) ?_
    refine lv_iadd hx hb dL_law_1375 ?_
    refine lv_topi (fun y_1 ey_1 => ?_)
    have ty_1 : y_1.toInt = i0.toInt + 1 := xI_add rfl rfl ey_1 (by omega) (by omega)
    refine va_sld hx hb hX hbl hbA hS (vin (by omega) (by omega)) dL_law_1376 ?_
    refine lv_topi (fun y_2 ey_2 => ?_)
    have u_3 : y_2.toInt = (xs (i0 + 1).toNatClampNeg).toInt := by rw [ey_2, ey_1]
    refine S_calli (va_runV (As := [.int y_2]) (rest := []) ⟨hx, hb, hml, hown, hts⟩ (k_Wwalker l D k A a z G y_2 ) (cwV 1 hts (gd_V hgd m1234 m1235 m1236 m117 m1237) rfl rfl rfl (by decide +kernel) ⟨Nat.le_of_ble_eq_true rfl, Nat.le_of_ble_eq_true rfl⟩) (pre_V hW hB_G hK hZ hS kd_0 rfl) rfl rfl hl.1 rfl (lv_room (Nat.le_of_ble_eq_true rfl)) dL_law_1377 ⟨Nat.le_of_ble_eq_true rfl, Nat.le_of_ble_eq_true rfl⟩) hS (fun r_4 G_5 H locs hpo hW hS => ?_)
    have hX_8 : P_Wwalker y_2 G r_4 G_5 := hpo
    obtain ⟨hB_G_5, hq_6, -⟩ := hpo
    refine lv_pop hx hb dL_law_1380 rfl ?_
    refine lv_aload_n hx hb dL_law_1381 rfl (lv_at hl 2 rfl) ?_
    refine lv_aload_n hx hb dL_law_1382 rfl (lv_at hl 0 rfl) ?_
    refine lv_iload_n hx hb dL_law_1383 rfl (lv_at hl 3 rfl) ?_
    refine lv_iconst (v := 1) hx hb dL_law_1384 (by decide) ?_
    refine lv_iadd hx hb dL_law_1385 ?_
    refine lv_topi (fun y_9 ey_9 => ?_)
    have ty_9 : y_9.toInt = i0.toInt + 1 := xI_add rfl rfl ey_9 (by omega) (by omega)
    refine va_sld hx hb hX hbl hbA hS (vin (by omega) (by omega)) dL_law_1386 ?_
    refine lv_topi (fun y_10 ey_10 => ?_)
    have u_11 : y_10.toInt = (xs (i0 + 1).toNatClampNeg).toInt := by rw [ey_10, ey_9]
    refine S_calli (va_runV (As := [.int y_10]) (rest := []) ⟨hx, hb, hml, hown, hts⟩ (n_walker l D k A a z G_5 y_10 ) (cwV 1 hts (gd_V hgd m2031 m2032 m2033 m131 m2034) rfl rfl rfl (by decide +kernel) ⟨Nat.le_of_ble_eq_true rfl, Nat.le_of_ble_eq_true rfl⟩) (pre_V hW hB_G_5 hK hZ hS kd_66 rfl) rfl rfl hl.1 rfl (lv_room (Nat.le_of_ble_eq_true rfl)) dL_law_1387 ⟨Nat.le_of_ble_eq_true rfl, Nat.le_of_ble_eq_true rfl⟩) hS (fun r_12 G_13 H locs hpo hW hS => ?_)
    have hX_16 : Q_walker y_10 G_5 r_12 G_13 := hpo
    obtain ⟨hB_G_13, hq_14, -⟩ := hpo
    have u_17 := L_walker_1 hX_8 hX_16 (by omega) (by omega)
    refine lv_pop hx hb dL_law_1390 rfl ?_
    refine lv_goto (tgt := 1641) hx hb dL_law_1391 (by decide) ?_
    have g_18 : gIA G_13 = gIA G := gIA_fr (rs := []) (fs := []) ((Fr.rf.call hq_6 (by decide) (by decide)).call hq_14 (by decide) (by decide)) (by decide) (by decide)
    have g_19 : gO G_13 = gO G := gO_fr (rs := []) (fs := []) ((Fr.rf.call hq_6 (by decide) (by decide)).call hq_14 (by decide) (by decide)) (by decide) (by decide)
    have g_20 : gP G_13 = gP G := gP_fr (rs := []) (fs := []) ((Fr.rf.call hq_6 (by decide) (by decide)).call hq_14 (by decide) (by decide)) (by decide) (by decide)
    have g_21 : gS G_13 = gS G := gS_fr (rs := []) (fs := []) ((Fr.rf.call hq_6 (by decide) (by decide)).call hq_14 (by decide) (by decide)) (by decide) (by decide)
    have g_22 : gTE G_13 = gTE G := gTE_fr (rs := []) (fs := []) ((Fr.rf.call hq_6 (by decide) (by decide)).call hq_14 (by decide) (by decide)) (by decide) (by decide)
    have g_23 : gW G_13 = gW G := gW_fr (rs := []) (fs := []) ((Fr.rf.call hq_6 (by decide) (by decide)).call hq_14 (by decide) (by decide)) (by decide) (by decide)
    have b_24 : 0 ≤ (G.1 0 11).toInt ∧ (G.1 0 11).toInt ≤ 1600 := hB_G.i 0 11 rfl rfl
    have g_25 : (G_13.1 0 11).toInt = (G.1 0 11).toInt := by rw [show G_13.1 0 11 = (G.1 0 11) from ((hq_14.i 0 11 (by decide) (by decide)).trans (hq_6.i 0 11 (by decide) (by decide)))]
    have b_26 : 0 ≤ (G.1 3 7).toInt ∧ (G.1 3 7).toInt ≤ 4 := hB_G.i 3 7 rfl rfl
    have g_27 : (G_13.1 3 7).toInt = (G.1 3 7).toInt := by rw [show G_13.1 3 7 = (G.1 3 7) from ((hq_14.i 3 7 (by decide) (by decide)).trans (hq_6.i 3 7 (by decide) (by decide)))]
    have b_28 : (-1) ≤ (G.1 3 8).toInt ∧ (G.1 3 8).toInt ≤ 1600 := hB_G.i 3 8 rfl rfl
    have g_29 : (G_13.1 3 8).toInt = (G.1 3 8).toInt := by rw [show G_13.1 3 8 = (G.1 3 8) from ((hq_14.i 3 8 (by decide) (by decide)).trans (hq_6.i 3 8 (by decide) (by decide)))]
    have b_30 : 0 ≤ (G.1 30 4).toInt ∧ (G.1 30 4).toInt ≤ 40 := hB_G.i 30 4 rfl rfl
    have g_31 : (G_13.1 30 4).toInt = (G.1 30 4).toInt := by rw [show G_13.1 30 4 = (G.1 30 4) from ((hq_14.i 30 4 (by decide) (by decide)).trans (hq_6.i 30 4 (by decide) (by decide)))]
    have b_32 : 0 ≤ (G.1 30 5).toInt ∧ (G.1 30 5).toInt ≤ 40 := hB_G.i 30 5 rfl rfl
    have g_33 : (G_13.1 30 5).toInt = (G.1 30 5).toInt := by rw [show G_13.1 30 5 = (G.1 30 5) from ((hq_14.i 30 5 (by decide) (by decide)).trans (hq_6.i 30 5 (by decide) (by decide)))]
    have b_34 : 0 ≤ (G.1 31 6).toInt ∧ (G.1 31 6).toInt ≤ 100000 := hB_G.i 31 6 rfl rfl
    have g_35 : (G_13.1 31 6).toInt = (G.1 31 6).toInt := by rw [show G_13.1 31 6 = (G.1 31 6) from ((hq_14.i 31 6 (by decide) (by decide)).trans (hq_6.i 31 6 (by decide) (by decide)))]
    have b_36 : 0 ≤ (G.1 66 1).toInt ∧ (G.1 66 1).toInt ≤ 1600 := hB_G.i 66 1 rfl rfl
    have g_37 : (G_13.1 66 1).toInt = (G.1 66 1).toInt := by rw [show G_13.1 66 1 = (G.1 66 1) from ((hq_14.i 66 1 (by decide) (by decide)).trans (hq_6.i 66 1 (by decide) (by decide)))]
    have b_38 : 0 ≤ (G.1 66 2).toInt ∧ (G.1 66 2).toInt ≤ 4 := hB_G.i 66 2 rfl rfl
    have g_39 : (G_13.1 66 2).toInt = (G.1 66 2).toInt := by rw [show G_13.1 66 2 = (G.1 66 2) from ((hq_14.i 66 2 (by decide) (by decide)).trans (hq_6.i 66 2 (by decide) (by decide)))]
    have b_40 : (-1) ≤ (G.1 66 3).toInt ∧ (G.1 66 3).toInt ≤ 1600 := hB_G.i 66 3 rfl rfl
    have g_41 : (G_13.1 66 3).toInt = (G.1 66 3).toInt := by rw [show G_13.1 66 3 = (G.1 66 3) from ((hq_14.i 66 3 (by decide) (by decide)).trans (hq_6.i 66 3 (by decide) (by decide)))]
    have b_42 : 0 ≤ (G.1 66 78).toInt ∧ (G.1 66 78).toInt ≤ 40 := hB_G.i 66 78 rfl rfl
    have g_43 : (G_13.1 66 78).toInt = (G.1 66 78).toInt := by rw [show G_13.1 66 78 = (G.1 66 78) from ((hq_14.i 66 78 (by decide) (by decide)).trans (hq_6.i 66 78 (by decide) (by decide)))]
    have b_44 : 0 ≤ (G.1 66 79).toInt ∧ (G.1 66 79).toInt ≤ 40 := hB_G.i 66 79 rfl rfl
    have g_45 : (G_13.1 66 79).toInt = (G.1 66 79).toInt := by rw [show G_13.1 66 79 = (G.1 66 79) from ((hq_14.i 66 79 (by decide) (by decide)).trans (hq_6.i 66 79 (by decide) (by decide)))]
    have b_46 : 0 ≤ (G.1 66 86).toInt ∧ (G.1 66 86).toInt ≤ 100000 := hB_G.i 66 86 rfl rfl
    have g_47 : (G_13.1 66 86).toInt = (G.1 66 86).toInt := by rw [show G_13.1 66 86 = (G.1 66 86) from ((hq_14.i 66 86 (by decide) (by decide)).trans (hq_6.i 66 86 (by decide) (by decide)))]
    have b_48 : 0 ≤ (G.1 96 0).toInt ∧ (G.1 96 0).toInt ≤ 9 := hB_G.i 96 0 rfl rfl
    have g_49 : (G_13.1 96 0).toInt = (G.1 96 0).toInt := by rw [show G_13.1 96 0 = (G.1 96 0) from ((hq_14.i 96 0 (by decide) (by decide)).trans (hq_6.i 96 0 (by decide) (by decide)))]
    have b_50 : 0 ≤ (G.1 96 1).toInt ∧ (G.1 96 1).toInt ≤ 9 := hB_G.i 96 1 rfl rfl
    have g_51 : (G_13.1 96 1).toInt = (G.1 96 1).toInt := by rw [show G_13.1 96 1 = (G.1 96 1) from ((hq_14.i 96 1 (by decide) (by decide)).trans (hq_6.i 96 1 (by decide) (by decide)))]
    have b_52 : 0 ≤ (G.1 96 2).toInt ∧ (G.1 96 2).toInt ≤ 9 := hB_G.i 96 2 rfl rfl
    have g_53 : (G_13.1 96 2).toInt = (G.1 96 2).toInt := by rw [show G_13.1 96 2 = (G.1 96 2) from ((hq_14.i 96 2 (by decide) (by decide)).trans (hq_6.i 96 2 (by decide) (by decide)))]
    exact K G_13 _ _ _ (Or.inl ⟨((((hq_14.r 0 0 (by decide) (by decide)).trans (hq_6.r 0 0 (by decide) (by decide)))).trans (hv_0_0)), ((((hq_14.r 0 1 (by decide) (by decide)).trans (hq_6.r 0 1 (by decide) (by decide)))).trans (hv_0_1)), ((((hq_14.r 6 4 (by decide) (by decide)).trans (hq_6.r 6 4 (by decide) (by decide)))).trans (hv_6_4)), by omega, by omega, by omega, by omega, by omega, by omega, by omega, by omega, by omega, by omega, by omega, by omega, by omega⟩) hB_G_13 hW hS (lv_sub hl [0, 1, 2, 3] rfl)
  · skip
    refine lv_aload_n hx hb dL_law_1371 rfl (lv_at hl 1 rfl) ?_
    refine lv_aload_n hx hb dL_law_1372 rfl (lv_at hl 0 rfl) ?_
    refine lv_iload_n hx hb dL_law_1373 rfl (lv_at hl 3 rfl) ?_
    refine lv_iconst (v := 1) hx hb dL_law_1374 (by decide) ?_
    refine lv_iadd hx hb dL_law_1375 ?_
    refine lv_topi (fun y_1 ey_1 => ?_)
    have ty_1 : y_1.toInt = i0.toInt + 1 := xI_add rfl rfl ey_1 (by omega) (by omega)
    refine va_sld hx hb hX hbl hbA hS (vin (by omega) (by omega)) dL_law_1376 ?_
    refine lv_topi (fun y_2 ey_2 => ?_)
    have u_3 : y_2.toInt = (xs (i0 + 1).toNatClampNeg).toInt := by rw [ey_2, ey_1]
    refine S_calli (va_runV (As := [.int y_2]) (rest := []) ⟨hx, hb, hml, hown, hts⟩ (k_Wwalker l D k A a z G y_2 ) (cwV 1 hts (gd_V hgd m1234 m1235 m1236 m117 m1237) rfl rfl rfl (by decide +kernel) ⟨Nat.le_of_ble_eq_true rfl, Nat.le_of_ble_eq_true rfl⟩) (pre_V hW hB_G hK hZ hS kd_0 rfl) rfl rfl hl.1 rfl (lv_room (Nat.le_of_ble_eq_true rfl)) dL_law_1377 ⟨Nat.le_of_ble_eq_true rfl, Nat.le_of_ble_eq_true rfl⟩) hS (fun r_4 G_5 H locs hpo hW hS => ?_)
    have hX_8 : P_Wwalker y_2 G r_4 G_5 := hpo
    obtain ⟨hB_G_5, hq_6, -⟩ := hpo
    refine lv_pop hx hb dL_law_1380 rfl ?_
    refine lv_aload_n hx hb dL_law_1381 rfl (lv_at hl 2 rfl) ?_
    refine lv_aload_n hx hb dL_law_1382 rfl (lv_at hl 0 rfl) ?_
    refine lv_iload_n hx hb dL_law_1383 rfl (lv_at hl 3 rfl) ?_
    refine lv_iconst (v := 1) hx hb dL_law_1384 (by decide) ?_
    refine lv_iadd hx hb dL_law_1385 ?_
    refine lv_topi (fun y_9 ey_9 => ?_)
    have ty_9 : y_9.toInt = i0.toInt + 1 := xI_add rfl rfl ey_9 (by omega) (by omega)
    refine va_sld hx hb hX hbl hbA hS (vin (by omega) (by omega)) dL_law_1386 ?_
    refine lv_topi (fun y_10 ey_10 => ?_)
    have u_11 : y_10.toInt = (xs (i0 + 1).toNatClampNeg).toInt := by rw [ey_10, ey_9]
    refine S_calli (va_runV (As := [.int y_10]) (rest := []) ⟨hx, hb, hml, hown, hts⟩ (n_walker l D k A a z G_5 y_10 ) (cwV 1 hts (gd_V hgd m2031 m2032 m2033 m131 m2034) rfl rfl rfl (by decide +kernel) ⟨Nat.le_of_ble_eq_true rfl, Nat.le_of_ble_eq_true rfl⟩) (pre_V hW hB_G_5 hK hZ hS kd_66 rfl) rfl rfl hl.1 rfl (lv_room (Nat.le_of_ble_eq_true rfl)) dL_law_1387 ⟨Nat.le_of_ble_eq_true rfl, Nat.le_of_ble_eq_true rfl⟩) hS (fun r_12 G_13 H locs hpo hW hS => ?_)
    have hX_16 : Q_walker y_10 G_5 r_12 G_13 := hpo
    obtain ⟨hB_G_13, hq_14, -⟩ := hpo
    have u_17 := L_walker_2 hX_8 hX_16 (by omega) (by omega)
    refine lv_pop hx hb dL_law_1390 rfl ?_
    refine lv_goto (tgt := 1641) hx hb dL_law_1391 (by decide) ?_
    have g_18 : gIB G_13 = gIB G := gIB_fr (rs := []) (fs := []) ((Fr.rf.call hq_6 (by decide) (by decide)).call hq_14 (by decide) (by decide)) (by decide) (by decide)
    have g_19 : gO G_13 = gO G := gO_fr (rs := []) (fs := []) ((Fr.rf.call hq_6 (by decide) (by decide)).call hq_14 (by decide) (by decide)) (by decide) (by decide)
    have g_20 : gP G_13 = gP G := gP_fr (rs := []) (fs := []) ((Fr.rf.call hq_6 (by decide) (by decide)).call hq_14 (by decide) (by decide)) (by decide) (by decide)
    have g_21 : gS G_13 = gS G := gS_fr (rs := []) (fs := []) ((Fr.rf.call hq_6 (by decide) (by decide)).call hq_14 (by decide) (by decide)) (by decide) (by decide)
    have g_22 : gTE G_13 = gTE G := gTE_fr (rs := []) (fs := []) ((Fr.rf.call hq_6 (by decide) (by decide)).call hq_14 (by decide) (by decide)) (by decide) (by decide)
    have g_23 : gW G_13 = gW G := gW_fr (rs := []) (fs := []) ((Fr.rf.call hq_6 (by decide) (by decide)).call hq_14 (by decide) (by decide)) (by decide) (by decide)
    have b_24 : 0 ≤ (G.1 0 11).toInt ∧ (G.1 0 11).toInt ≤ 1600 := hB_G.i 0 11 rfl rfl
    have g_25 : (G_13.1 0 11).toInt = (G.1 0 11).toInt := by rw [show G_13.1 0 11 = (G.1 0 11) from ((hq_14.i 0 11 (by decide) (by decide)).trans (hq_6.i 0 11 (by decide) (by decide)))]
    have b_26 : 0 ≤ (G.1 3 7).toInt ∧ (G.1 3 7).toInt ≤ 4 := hB_G.i 3 7 rfl rfl
    have g_27 : (G_13.1 3 7).toInt = (G.1 3 7).toInt := by rw [show G_13.1 3 7 = (G.1 3 7) from ((hq_14.i 3 7 (by decide) (by decide)).trans (hq_6.i 3 7 (by decide) (by decide)))]
    have b_28 : (-1) ≤ (G.1 3 8).toInt ∧ (G.1 3 8).toInt ≤ 1600 := hB_G.i 3 8 rfl rfl
    have g_29 : (G_13.1 3 8).toInt = (G.1 3 8).toInt := by rw [show G_13.1 3 8 = (G.1 3 8) from ((hq_14.i 3 8 (by decide) (by decide)).trans (hq_6.i 3 8 (by decide) (by decide)))]
    have b_30 : 0 ≤ (G.1 30 4).toInt ∧ (G.1 30 4).toInt ≤ 40 := hB_G.i 30 4 rfl rfl
    have g_31 : (G_13.1 30 4).toInt = (G.1 30 4).toInt := by rw [show G_13.1 30 4 = (G.1 30 4) from ((hq_14.i 30 4 (by decide) (by decide)).trans (hq_6.i 30 4 (by decide) (by decide)))]
    have b_32 : 0 ≤ (G.1 30 5).toInt ∧ (G.1 30 5).toInt ≤ 40 := hB_G.i 30 5 rfl rfl
    have g_33 : (G_13.1 30 5).toInt = (G.1 30 5).toInt := by rw [show G_13.1 30 5 = (G.1 30 5) from ((hq_14.i 30 5 (by decide) (by decide)).trans (hq_6.i 30 5 (by decide) (by decide)))]
    have b_34 : 0 ≤ (G.1 31 6).toInt ∧ (G.1 31 6).toInt ≤ 100000 := hB_G.i 31 6 rfl rfl
    have g_35 : (G_13.1 31 6).toInt = (G.1 31 6).toInt := by rw [show G_13.1 31 6 = (G.1 31 6) from ((hq_14.i 31 6 (by decide) (by decide)).trans (hq_6.i 31 6 (by decide) (by decide)))]
    have b_36 : 0 ≤ (G.1 66 1).toInt ∧ (G.1 66 1).toInt ≤ 1600 := hB_G.i 66 1 rfl rfl
    have g_37 : (G_13.1 66 1).toInt = (G.1 66 1).toInt := by rw [show G_13.1 66 1 = (G.1 66 1) from ((hq_14.i 66 1 (by decide) (by decide)).trans (hq_6.i 66 1 (by decide) (by decide)))]
    have b_38 : 0 ≤ (G.1 66 2).toInt ∧ (G.1 66 2).toInt ≤ 4 := hB_G.i 66 2 rfl rfl
    have g_39 : (G_13.1 66 2).toInt = (G.1 66 2).toInt := by rw [show G_13.1 66 2 = (G.1 66 2) from ((hq_14.i 66 2 (by decide) (by decide)).trans (hq_6.i 66 2 (by decide) (by decide)))]
    have b_40 : (-1) ≤ (G.1 66 3).toInt ∧ (G.1 66 3).toInt ≤ 1600 := hB_G.i 66 3 rfl rfl
    have g_41 : (G_13.1 66 3).toInt = (G.1 66 3).toInt := by rw [show G_13.1 66 3 = (G.1 66 3) from ((hq_14.i 66 3 (by decide) (by decide)).trans (hq_6.i 66 3 (by decide) (by decide)))]
    have b_42 : 0 ≤ (G.1 66 78).toInt ∧ (G.1 66 78).toInt ≤ 40 := hB_G.i 66 78 rfl rfl
    have g_43 : (G_13.1 66 78).toInt = (G.1 66 78).toInt := by rw [show G_13.1 66 78 = (G.1 66 78) from ((hq_14.i 66 78 (by decide) (by decide)).trans (hq_6.i 66 78 (by decide) (by decide)))]
    have b_44 : 0 ≤ (G.1 66 79).toInt ∧ (G.1 66 79).toInt ≤ 40 := hB_G.i 66 79 rfl rfl
    have g_45 : (G_13.1 66 79).toInt = (G.1 66 79).toInt := by rw [show G_13.1 66 79 = (G.1 66 79) from ((hq_14.i 66 79 (by decide) (by decide)).trans (hq_6.i 66 79 (by decide) (by decide)))]
    have b_46 : 0 ≤ (G.1 66 86).toInt ∧ (G.1 66 86).toInt ≤ 100000 := hB_G.i 66 86 rfl rfl
    have g_47 : (G_13.1 66 86).toInt = (G.1 66 86).toInt := by rw [show G_13.1 66 86 = (G.1 66 86) from ((hq_14.i 66 86 (by decide) (by decide)).trans (hq_6.i 66 86 (by decide) (by decide)))]
    have b_48 : 0 ≤ (G.1 96 0).toInt ∧ (G.1 96 0).toInt ≤ 9 := hB_G.i 96 0 rfl rfl
    have g_49 : (G_13.1 96 0).toInt = (G.1 96 0).toInt := by rw [show G_13.1 96 0 = (G.1 96 0) from ((hq_14.i 96 0 (by decide) (by decide)).trans (hq_6.i 96 0 (by decide) (by decide)))]
    have b_50 : 0 ≤ (G.1 96 1).toInt ∧ (G.1 96 1).toInt ≤ 9 := hB_G.i 96 1 rfl rfl
    have g_51 : (G_13.1 96 1).toInt = (G.1 96 1).toInt := by rw [show G_13.1 96 1 = (G.1 96 1) from ((hq_14.i 96 1 (by decide) (by decide)).trans (hq_6.i 96 1 (by decide) (by decide)))]
    have b_52 : 0 ≤ (G.1 96 2).toInt ∧ (G.1 96 2).toInt ≤ 9 := hB_G.i 96 2 rfl rfl
    have g_53 : (G_13.1 96 2).toInt = (G.1 96 2).toInt := by rw [show G_13.1 96 2 = (G.1 96 2) from ((hq_14.i 96 2 (by decide) (by decide)).trans (hq_6.i 96 2 (by decide) (by decide)))]
    exact K G_13 _ _ _ (Or.inr ⟨((((hq_14.r 0 0 (by decide) (by decide)).trans (hq_6.r 0 0 (by decide) (by decide)))).trans (hv_0_0)), ((((hq_14.r 0 1 (by decide) (by decide)).trans (hq_6.r 0 1 (by decide) (by decide)))).trans (hv_0_1)), ((((hq_14.r 6 4 (by decide) (by decide)).trans (hq_6.r 6 4 (by decide) (by decide)))).trans (hv_6_4)), by omega, by omega, by omega, by omega, by omega, by omega, by omega, by omega, by omega, by omega, by omega, by omega, by omega⟩) hB_G_13 hW hS (lv_sub hl [0, 1, 2, 3] rfl)

set_option maxHeartbeats 4000000 in
set_option maxRecDepth 100000 in
theorem law_30 {p : Program} {l : Launch} {e : Env} {s : State} {m : MethodId} {below : List Frame} {meth : Method} {c : Code} {D : va_G} {k : KT} {A : Nat → Prop} {a : Nat → Nat} {z : SK} {b L : Nat} {xs : Nat → Int32} (hL : L ≤ 3072) (C0 : lw_At p s m meth c b L xs) (hK : cK D k s) (hZ : Sx A z s) (hbA : ¬ A b) {G : GS} {i0 : Int32} (hi0 : 0 ≤ i0.toInt) (hi6 : i0.toInt + 6 ≤ L) (hI : LI G) (hB_G : Bd G) {H : Heap} {locs : List Loc} {ls : Array Slot} (hW : Wd D k A a G H) (hS : va_S A s.heap H locs) (hl : lv_has ls 4 [(0, .ref b), (1, .ref (a 0)), (2, .ref (a 66)), (3, .int i0)]) (K : ∀ (G1 : GS) (H1 : Heap) (locs1 : List Loc) (ls1 : Array Slot), LI G1 → Bd G1 → Wd D k A a G1 H1 → va_S A s.heap H1 locs1 → lv_has ls1 4 [(0, .ref b), (1, .ref (a 0)), (2, .ref (a 66)), (3, .int i0)] → W p l e room_1 s m #[Value.ref b] below meth c H1 locs1 119 46443 (lw_Z below #[Value.ref b] s) (F0 m 1641 ls1 [])) : W p l e room_1 s m #[Value.ref b] below meth c H locs 119 46443 (lw_Z below #[Value.ref b] s) (F0 m 1394 ls []) := by
  obtain ⟨hx, hb, hr, hml, hown, hts, hX, hbl, hlocks, hgv⟩ := id C0
  have hown : s.vm.findClass RL = some m.cls := hown
  have hgd : ∀ w ∈ gd, w ∈ lw_tbl := fun w h => (List.mem_filter.mp h).1
  have hg : ∀ w ∈ gd, w.before #[Value.ref b] s = true := fun w h => hts w (hgd w h)
  rcases hI with ⟨hv_0_0, hv_0_1, hv_6_4, hj0, hj1, hj2, hj3, hj4, hj5, hj6, hj7, hj8, hj9, hj10, hj11⟩ | ⟨hv_0_0, hv_0_1, hv_6_4, hj0, hj1, hj2, hj3, hj4, hj5, hj6, hj7, hj8, hj9, hj10, hj11⟩
  · skip
    refine lv_aload_n hx hb dL_law_1394 rfl (lv_at hl 1 rfl) ?_
    refine lv_aload_n hx hb dL_law_1395 rfl (lv_at hl 0 rfl) ?_
    refine lv_iload_n hx hb dL_law_1396 rfl (lv_at hl 3 rfl) ?_
    refine lv_iconst (v := 1) hx hb dL_law_1397 (by decide) ?_
    refine lv_iadd hx hb dL_law_1398 ?_
    refine lv_topi (fun y_1 ey_1 => ?_)
    have ty_1 : y_1.toInt = i0.toInt + 1 := xI_add rfl rfl ey_1 (by omega) (by omega)
    refine va_sld hx hb hX hbl hbA hS (vin (by omega) (by omega)) dL_law_1399 ?_
    refine lv_topi (fun y_2 ey_2 => ?_)
    have u_3 : y_2.toInt = (xs (i0 + 1).toNatClampNeg).toInt := by rw [ey_2, ey_1]
    refine S_calli (va_runV (As := [.int y_2]) (rest := []) ⟨hx, hb, hml, hown, hts⟩ (k_Wlies l D k A a z G y_2 ) (cwV 1 hts (gd_V hgd m1238 m1239 m1240 m117 m1241) rfl rfl rfl (by decide +kernel) ⟨Nat.le_of_ble_eq_true rfl, Nat.le_of_ble_eq_true rfl⟩) (pre_V hW hB_G hK hZ hS kd_0 rfl) rfl rfl hl.1 rfl (lv_room (Nat.le_of_ble_eq_true rfl)) dL_law_1400 ⟨Nat.le_of_ble_eq_true rfl, Nat.le_of_ble_eq_true rfl⟩) hS (fun r_4 G_5 H locs hpo hW hS => ?_)
    have hX_8 : P_Wlies y_2 G r_4 G_5 := hpo
    obtain ⟨hB_G_5, hq_6, -⟩ := hpo
    refine lv_pop hx hb dL_law_1403 rfl ?_
    refine lv_aload_n hx hb dL_law_1404 rfl (lv_at hl 2 rfl) ?_
    refine lv_aload_n hx hb dL_law_1405 rfl (lv_at hl 0 rfl) ?_
    refine lv_iload_n hx hb dL_law_1406 rfl (lv_at hl 3 rfl) ?_
    refine lv_iconst (v := 1) hx hb dL_law_1407 (by decide) ?_
    refine lv_iadd hx hb dL_law_1408 ?_
    refine lv_topi (fun y_9 ey_9 => ?_)
    have ty_9 : y_9.toInt = i0.toInt + 1 := xI_add rfl rfl ey_9 (by omega) (by omega)
    refine va_sld hx hb hX hbl hbA hS (vin (by omega) (by omega)) dL_law_1409 ?_
    refine lv_topi (fun y_10 ey_10 => ?_)
    have u_11 : y_10.toInt = (xs (i0 + 1).toNatClampNeg).toInt := by rw [ey_10, ey_9]
    refine S_calli (va_runV (As := [.int y_10]) (rest := []) ⟨hx, hb, hml, hown, hts⟩ (n_lies l D k A a z G_5 y_10 ) (cwV 1 hts (gd_V hgd m2035 m2036 m2037 m131 m2038) rfl rfl rfl (by decide +kernel) ⟨Nat.le_of_ble_eq_true rfl, Nat.le_of_ble_eq_true rfl⟩) (pre_V hW hB_G_5 hK hZ hS kd_66 rfl) rfl rfl hl.1 rfl (lv_room (Nat.le_of_ble_eq_true rfl)) dL_law_1410 ⟨Nat.le_of_ble_eq_true rfl, Nat.le_of_ble_eq_true rfl⟩) hS (fun r_12 G_13 H locs hpo hW hS => ?_)
    have hX_16 : Q_lies y_10 G_5 r_12 G_13 := hpo
    obtain ⟨hB_G_13, hq_14, -⟩ := hpo
    refine lv_pop hx hb dL_law_1413 rfl ?_
    refine lv_goto (tgt := 1641) hx hb dL_law_1414 (by decide) ?_
    have g_17 : gIA G_13 = gIA G := gIA_fr (rs := []) (fs := []) ((Fr.rf.call hq_6 (by decide) (by decide)).call hq_14 (by decide) (by decide)) (by decide) (by decide)
    have g_18 : gO G_13 = gO G := gO_fr (rs := []) (fs := []) ((Fr.rf.call hq_6 (by decide) (by decide)).call hq_14 (by decide) (by decide)) (by decide) (by decide)
    have g_19 : gP G_13 = gP G := gP_fr (rs := []) (fs := []) ((Fr.rf.call hq_6 (by decide) (by decide)).call hq_14 (by decide) (by decide)) (by decide) (by decide)
    have g_20 : gS G_13 = gS G := gS_fr (rs := []) (fs := []) ((Fr.rf.call hq_6 (by decide) (by decide)).call hq_14 (by decide) (by decide)) (by decide) (by decide)
    have g_21 : gTE G_13 = gTE G := gTE_fr (rs := []) (fs := []) ((Fr.rf.call hq_6 (by decide) (by decide)).call hq_14 (by decide) (by decide)) (by decide) (by decide)
    have g_22 : gW G_13 = gW G := gW_fr (rs := []) (fs := []) ((Fr.rf.call hq_6 (by decide) (by decide)).call hq_14 (by decide) (by decide)) (by decide) (by decide)
    have b_23 : 0 ≤ (G.1 0 11).toInt ∧ (G.1 0 11).toInt ≤ 1600 := hB_G.i 0 11 rfl rfl
    have g_24 : (G_13.1 0 11).toInt = (G.1 0 11).toInt := by rw [show G_13.1 0 11 = (G.1 0 11) from ((hq_14.i 0 11 (by decide) (by decide)).trans (hq_6.i 0 11 (by decide) (by decide)))]
    have b_25 : 0 ≤ (G.1 3 7).toInt ∧ (G.1 3 7).toInt ≤ 4 := hB_G.i 3 7 rfl rfl
    have g_26 : (G_13.1 3 7).toInt = (G.1 3 7).toInt := by rw [show G_13.1 3 7 = (G.1 3 7) from ((hq_14.i 3 7 (by decide) (by decide)).trans (hq_6.i 3 7 (by decide) (by decide)))]
    have b_27 : (-1) ≤ (G.1 3 8).toInt ∧ (G.1 3 8).toInt ≤ 1600 := hB_G.i 3 8 rfl rfl
    have g_28 : (G_13.1 3 8).toInt = (G.1 3 8).toInt := by rw [show G_13.1 3 8 = (G.1 3 8) from ((hq_14.i 3 8 (by decide) (by decide)).trans (hq_6.i 3 8 (by decide) (by decide)))]
    have b_29 : 0 ≤ (G.1 30 4).toInt ∧ (G.1 30 4).toInt ≤ 40 := hB_G.i 30 4 rfl rfl
    have g_30 : (G_13.1 30 4).toInt = (G.1 30 4).toInt := by rw [show G_13.1 30 4 = (G.1 30 4) from ((hq_14.i 30 4 (by decide) (by decide)).trans (hq_6.i 30 4 (by decide) (by decide)))]
    have b_31 : 0 ≤ (G.1 30 5).toInt ∧ (G.1 30 5).toInt ≤ 40 := hB_G.i 30 5 rfl rfl
    have g_32 : (G_13.1 30 5).toInt = (G.1 30 5).toInt := by rw [show G_13.1 30 5 = (G.1 30 5) from ((hq_14.i 30 5 (by decide) (by decide)).trans (hq_6.i 30 5 (by decide) (by decide)))]
    have b_33 : 0 ≤ (G.1 31 6).toInt ∧ (G.1 31 6).toInt ≤ 100000 := hB_G.i 31 6 rfl rfl
    have g_34 : (G_13.1 31 6).toInt = (G.1 31 6).toInt := by rw [show G_13.1 31 6 = (G.1 31 6) from ((hq_14.i 31 6 (by decide) (by decide)).trans (hq_6.i 31 6 (by decide) (by decide)))]
    have b_35 : 0 ≤ (G.1 66 1).toInt ∧ (G.1 66 1).toInt ≤ 1600 := hB_G.i 66 1 rfl rfl
    have g_36 : (G_13.1 66 1).toInt = (G.1 66 1).toInt := by rw [show G_13.1 66 1 = (G.1 66 1) from ((hq_14.i 66 1 (by decide) (by decide)).trans (hq_6.i 66 1 (by decide) (by decide)))]
    have b_37 : 0 ≤ (G.1 66 2).toInt ∧ (G.1 66 2).toInt ≤ 4 := hB_G.i 66 2 rfl rfl
    have g_38 : (G_13.1 66 2).toInt = (G.1 66 2).toInt := by rw [show G_13.1 66 2 = (G.1 66 2) from ((hq_14.i 66 2 (by decide) (by decide)).trans (hq_6.i 66 2 (by decide) (by decide)))]
    have b_39 : (-1) ≤ (G.1 66 3).toInt ∧ (G.1 66 3).toInt ≤ 1600 := hB_G.i 66 3 rfl rfl
    have g_40 : (G_13.1 66 3).toInt = (G.1 66 3).toInt := by rw [show G_13.1 66 3 = (G.1 66 3) from ((hq_14.i 66 3 (by decide) (by decide)).trans (hq_6.i 66 3 (by decide) (by decide)))]
    have b_41 : 0 ≤ (G.1 66 78).toInt ∧ (G.1 66 78).toInt ≤ 40 := hB_G.i 66 78 rfl rfl
    have g_42 : (G_13.1 66 78).toInt = (G.1 66 78).toInt := by rw [show G_13.1 66 78 = (G.1 66 78) from ((hq_14.i 66 78 (by decide) (by decide)).trans (hq_6.i 66 78 (by decide) (by decide)))]
    have b_43 : 0 ≤ (G.1 66 79).toInt ∧ (G.1 66 79).toInt ≤ 40 := hB_G.i 66 79 rfl rfl
    have g_44 : (G_13.1 66 79).toInt = (G.1 66 79).toInt := by rw [show G_13.1 66 79 = (G.1 66 79) from ((hq_14.i 66 79 (by decide) (by decide)).trans (hq_6.i 66 79 (by decide) (by decide)))]
    have b_45 : 0 ≤ (G.1 66 86).toInt ∧ (G.1 66 86).toInt ≤ 100000 := hB_G.i 66 86 rfl rfl
    have g_46 : (G_13.1 66 86).toInt = (G.1 66 86).toInt := by rw [show G_13.1 66 86 = (G.1 66 86) from ((hq_14.i 66 86 (by decide) (by decide)).trans (hq_6.i 66 86 (by decide) (by decide)))]
    have b_47 : 0 ≤ (G.1 96 0).toInt ∧ (G.1 96 0).toInt ≤ 9 := hB_G.i 96 0 rfl rfl
    have g_48 : (G_13.1 96 0).toInt = (G.1 96 0).toInt := by rw [show G_13.1 96 0 = (G.1 96 0) from ((hq_14.i 96 0 (by decide) (by decide)).trans (hq_6.i 96 0 (by decide) (by decide)))]
    have b_49 : 0 ≤ (G.1 96 1).toInt ∧ (G.1 96 1).toInt ≤ 9 := hB_G.i 96 1 rfl rfl
    have g_50 : (G_13.1 96 1).toInt = (G.1 96 1).toInt := by rw [show G_13.1 96 1 = (G.1 96 1) from ((hq_14.i 96 1 (by decide) (by decide)).trans (hq_6.i 96 1 (by decide) (by decide)))]
    have b_51 : 0 ≤ (G.1 96 2).toInt ∧ (G.1 96 2).toInt ≤ 9 := hB_G.i 96 2 rfl rfl
    have g_52 : (G_13.1 96 2).toInt = (G.1 96 2).toInt := by rw [show G_13.1 96 2 = (G.1 96 2) from ((hq_14.i 96 2 (by decide) (by decide)).trans (hq_6.i 96 2 (by decide) (by decide)))]
    exact K G_13 _ _ _ (Or.inl ⟨((((hq_14.r 0 0 (by decide) (by decide)).trans (hq_6.r 0 0 (by decide) (by decide)))).trans (hv_0_0)), ((((hq_14.r 0 1 (by decide) (by decide)).trans (hq_6.r 0 1 (by decide) (by decide)))).trans (hv_0_1)), ((((hq_14.r 6 4 (by decide) (by decide)).trans (hq_6.r 6 4 (by decide) (by decide)))).trans (hv_6_4)), by omega, by omega, by omega, by omega, by omega, by omega, by omega, by omega, by omega, by omega, by omega, by omega, by omega⟩) hB_G_13 hW hS (lv_sub hl [0, 1, 2, 3] rfl)
  · skip
    refine lv_aload_n hx hb dL_law_1394 rfl (lv_at hl 1 rfl) ?_
    refine lv_aload_n hx hb dL_law_1395 rfl (lv_at hl 0 rfl) ?_
    refine lv_iload_n hx hb dL_law_1396 rfl (lv_at hl 3 rfl) ?_
    refine lv_iconst (v := 1) hx hb dL_law_1397 (by decide) ?_
    refine lv_iadd hx hb dL_law_1398 ?_
    refine lv_topi (fun y_1 ey_1 => ?_)
    have ty_1 : y_1.toInt = i0.toInt + 1 := xI_add rfl rfl ey_1 (by omega) (by omega)
    refine va_sld hx hb hX hbl hbA hS (vin (by omega) (by omega)) dL_law_1399 ?_
    refine lv_topi (fun y_2 ey_2 => ?_)
    have u_3 : y_2.toInt = (xs (i0 + 1).toNatClampNeg).toInt := by rw [ey_2, ey_1]
    refine S_calli (va_runV (As := [.int y_2]) (rest := []) ⟨hx, hb, hml, hown, hts⟩ (k_Wlies l D k A a z G y_2 ) (cwV 1 hts (gd_V hgd m1238 m1239 m1240 m117 m1241) rfl rfl rfl (by decide +kernel) ⟨Nat.le_of_ble_eq_true rfl, Nat.le_of_ble_eq_true rfl⟩) (pre_V hW hB_G hK hZ hS kd_0 rfl) rfl rfl hl.1 rfl (lv_room (Nat.le_of_ble_eq_true rfl)) dL_law_1400 ⟨Nat.le_of_ble_eq_true rfl, Nat.le_of_ble_eq_true rfl⟩) hS (fun r_4 G_5 H locs hpo hW hS => ?_)
    have hX_8 : P_Wlies y_2 G r_4 G_5 := hpo
    obtain ⟨hB_G_5, hq_6, -⟩ := hpo
    refine lv_pop hx hb dL_law_1403 rfl ?_
    refine lv_aload_n hx hb dL_law_1404 rfl (lv_at hl 2 rfl) ?_
    refine lv_aload_n hx hb dL_law_1405 rfl (lv_at hl 0 rfl) ?_
    refine lv_iload_n hx hb dL_law_1406 rfl (lv_at hl 3 rfl) ?_
    refine lv_iconst (v := 1) hx hb dL_law_1407 (by decide) ?_
    refine lv_iadd hx hb dL_law_1408 ?_
    refine lv_topi (fun y_9 ey_9 => ?_)
    have ty_9 : y_9.toInt = i0.toInt + 1 := xI_add rfl rfl ey_9 (by omega) (by omega)
    refine va_sld hx hb hX hbl hbA hS (vin (by omega) (by omega)) dL_law_1409 ?_
    refine lv_topi (fun y_10 ey_10 => ?_)
    have u_11 : y_10.toInt = (xs (i0 + 1).toNatClampNeg).toInt := by rw [ey_10, ey_9]
    refine S_calli (va_runV (As := [.int y_10]) (rest := []) ⟨hx, hb, hml, hown, hts⟩ (n_lies l D k A a z G_5 y_10 ) (cwV 1 hts (gd_V hgd m2035 m2036 m2037 m131 m2038) rfl rfl rfl (by decide +kernel) ⟨Nat.le_of_ble_eq_true rfl, Nat.le_of_ble_eq_true rfl⟩) (pre_V hW hB_G_5 hK hZ hS kd_66 rfl) rfl rfl hl.1 rfl (lv_room (Nat.le_of_ble_eq_true rfl)) dL_law_1410 ⟨Nat.le_of_ble_eq_true rfl, Nat.le_of_ble_eq_true rfl⟩) hS (fun r_12 G_13 H locs hpo hW hS => ?_)
    have hX_16 : Q_lies y_10 G_5 r_12 G_13 := hpo
    obtain ⟨hB_G_13, hq_14, -⟩ := hpo
    refine lv_pop hx hb dL_law_1413 rfl ?_
    refine lv_goto (tgt := 1641) hx hb dL_law_1414 (by decide) ?_
    have g_17 : gIB G_13 = gIB G := gIB_fr (rs := []) (fs := []) ((Fr.rf.call hq_6 (by decide) (by decide)).call hq_14 (by decide) (by decide)) (by decide) (by decide)
    have g_18 : gO G_13 = gO G := gO_fr (rs := []) (fs := []) ((Fr.rf.call hq_6 (by decide) (by decide)).call hq_14 (by decide) (by decide)) (by decide) (by decide)
    have g_19 : gP G_13 = gP G := gP_fr (rs := []) (fs := []) ((Fr.rf.call hq_6 (by decide) (by decide)).call hq_14 (by decide) (by decide)) (by decide) (by decide)
    have g_20 : gS G_13 = gS G := gS_fr (rs := []) (fs := []) ((Fr.rf.call hq_6 (by decide) (by decide)).call hq_14 (by decide) (by decide)) (by decide) (by decide)
    have g_21 : gTE G_13 = gTE G := gTE_fr (rs := []) (fs := []) ((Fr.rf.call hq_6 (by decide) (by decide)).call hq_14 (by decide) (by decide)) (by decide) (by decide)
    have g_22 : gW G_13 = gW G := gW_fr (rs := []) (fs := []) ((Fr.rf.call hq_6 (by decide) (by decide)).call hq_14 (by decide) (by decide)) (by decide) (by decide)
    have b_23 : 0 ≤ (G.1 0 11).toInt ∧ (G.1 0 11).toInt ≤ 1600 := hB_G.i 0 11 rfl rfl
    have g_24 : (G_13.1 0 11).toInt = (G.1 0 11).toInt := by rw [show G_13.1 0 11 = (G.1 0 11) from ((hq_14.i 0 11 (by decide) (by decide)).trans (hq_6.i 0 11 (by decide) (by decide)))]
    have b_25 : 0 ≤ (G.1 3 7).toInt ∧ (G.1 3 7).toInt ≤ 4 := hB_G.i 3 7 rfl rfl
    have g_26 : (G_13.1 3 7).toInt = (G.1 3 7).toInt := by rw [show G_13.1 3 7 = (G.1 3 7) from ((hq_14.i 3 7 (by decide) (by decide)).trans (hq_6.i 3 7 (by decide) (by decide)))]
    have b_27 : (-1) ≤ (G.1 3 8).toInt ∧ (G.1 3 8).toInt ≤ 1600 := hB_G.i 3 8 rfl rfl
    have g_28 : (G_13.1 3 8).toInt = (G.1 3 8).toInt := by rw [show G_13.1 3 8 = (G.1 3 8) from ((hq_14.i 3 8 (by decide) (by decide)).trans (hq_6.i 3 8 (by decide) (by decide)))]
    have b_29 : 0 ≤ (G.1 30 4).toInt ∧ (G.1 30 4).toInt ≤ 40 := hB_G.i 30 4 rfl rfl
    have g_30 : (G_13.1 30 4).toInt = (G.1 30 4).toInt := by rw [show G_13.1 30 4 = (G.1 30 4) from ((hq_14.i 30 4 (by decide) (by decide)).trans (hq_6.i 30 4 (by decide) (by decide)))]
    have b_31 : 0 ≤ (G.1 30 5).toInt ∧ (G.1 30 5).toInt ≤ 40 := hB_G.i 30 5 rfl rfl
    have g_32 : (G_13.1 30 5).toInt = (G.1 30 5).toInt := by rw [show G_13.1 30 5 = (G.1 30 5) from ((hq_14.i 30 5 (by decide) (by decide)).trans (hq_6.i 30 5 (by decide) (by decide)))]
    have b_33 : 0 ≤ (G.1 31 6).toInt ∧ (G.1 31 6).toInt ≤ 100000 := hB_G.i 31 6 rfl rfl
    have g_34 : (G_13.1 31 6).toInt = (G.1 31 6).toInt := by rw [show G_13.1 31 6 = (G.1 31 6) from ((hq_14.i 31 6 (by decide) (by decide)).trans (hq_6.i 31 6 (by decide) (by decide)))]
    have b_35 : 0 ≤ (G.1 66 1).toInt ∧ (G.1 66 1).toInt ≤ 1600 := hB_G.i 66 1 rfl rfl
    have g_36 : (G_13.1 66 1).toInt = (G.1 66 1).toInt := by rw [show G_13.1 66 1 = (G.1 66 1) from ((hq_14.i 66 1 (by decide) (by decide)).trans (hq_6.i 66 1 (by decide) (by decide)))]
    have b_37 : 0 ≤ (G.1 66 2).toInt ∧ (G.1 66 2).toInt ≤ 4 := hB_G.i 66 2 rfl rfl
    have g_38 : (G_13.1 66 2).toInt = (G.1 66 2).toInt := by rw [show G_13.1 66 2 = (G.1 66 2) from ((hq_14.i 66 2 (by decide) (by decide)).trans (hq_6.i 66 2 (by decide) (by decide)))]
    have b_39 : (-1) ≤ (G.1 66 3).toInt ∧ (G.1 66 3).toInt ≤ 1600 := hB_G.i 66 3 rfl rfl
    have g_40 : (G_13.1 66 3).toInt = (G.1 66 3).toInt := by rw [show G_13.1 66 3 = (G.1 66 3) from ((hq_14.i 66 3 (by decide) (by decide)).trans (hq_6.i 66 3 (by decide) (by decide)))]
    have b_41 : 0 ≤ (G.1 66 78).toInt ∧ (G.1 66 78).toInt ≤ 40 := hB_G.i 66 78 rfl rfl
    have g_42 : (G_13.1 66 78).toInt = (G.1 66 78).toInt := by rw [show G_13.1 66 78 = (G.1 66 78) from ((hq_14.i 66 78 (by decide) (by decide)).trans (hq_6.i 66 78 (by decide) (by decide)))]
    have b_43 : 0 ≤ (G.1 66 79).toInt ∧ (G.1 66 79).toInt ≤ 40 := hB_G.i 66 79 rfl rfl
    have g_44 : (G_13.1 66 79).toInt = (G.1 66 79).toInt := by rw [show G_13.1 66 79 = (G.1 66 79) from ((hq_14.i 66 79 (by decide) (by decide)).trans (hq_6.i 66 79 (by decide) (by decide)))]
    have b_45 : 0 ≤ (G.1 66 86).toInt ∧ (G.1 66 86).toInt ≤ 100000 := hB_G.i 66 86 rfl rfl
    have g_46 : (G_13.1 66 86).toInt = (G.1 66 86).toInt := by rw [show G_13.1 66 86 = (G.1 66 86) from ((hq_14.i 66 86 (by decide) (by decide)).trans (hq_6.i 66 86 (by decide) (by decide)))]
    have b_47 : 0 ≤ (G.1 96 0).toInt ∧ (G.1 96 0).toInt ≤ 9 := hB_G.i 96 0 rfl rfl
    have g_48 : (G_13.1 96 0).toInt = (G.1 96 0).toInt := by rw [show G_13.1 96 0 = (G.1 96 0) from ((hq_14.i 96 0 (by decide) (by decide)).trans (hq_6.i 96 0 (by decide) (by decide)))]
    have b_49 : 0 ≤ (G.1 96 1).toInt ∧ (G.1 96 1).toInt ≤ 9 := hB_G.i 96 1 rfl rfl
    have g_50 : (G_13.1 96 1).toInt = (G.1 96 1).toInt := by rw [show G_13.1 96 1 = (G.1 96 1) from ((hq_14.i 96 1 (by decide) (by decide)).trans (hq_6.i 96 1 (by decide) (by decide)))]
    have b_51 : 0 ≤ (G.1 96 2).toInt ∧ (G.1 96 2).toInt ≤ 9 := hB_G.i 96 2 rfl rfl
    have g_52 : (G_13.1 96 2).toInt = (G.1 96 2).toInt := by rw [show G_13.1 96 2 = (G.1 96 2) from ((hq_14.i 96 2 (by decide) (by decide)).trans (hq_6.i 96 2 (by decide) (by decide)))]
    exact K G_13 _ _ _ (Or.inr ⟨((((hq_14.r 0 0 (by decide) (by decide)).trans (hq_6.r 0 0 (by decide) (by decide)))).trans (hv_0_0)), ((((hq_14.r 0 1 (by decide) (by decide)).trans (hq_6.r 0 1 (by decide) (by decide)))).trans (hv_0_1)), ((((hq_14.r 6 4 (by decide) (by decide)).trans (hq_6.r 6 4 (by decide) (by decide)))).trans (hv_6_4)), by omega, by omega, by omega, by omega, by omega, by omega, by omega, by omega, by omega, by omega, by omega, by omega, by omega⟩) hB_G_13 hW hS (lv_sub hl [0, 1, 2, 3] rfl)

set_option maxHeartbeats 4000000 in
set_option maxRecDepth 100000 in
theorem law_31 {p : Program} {l : Launch} {e : Env} {s : State} {m : MethodId} {below : List Frame} {meth : Method} {c : Code} {D : va_G} {k : KT} {A : Nat → Prop} {a : Nat → Nat} {z : SK} {b L : Nat} {xs : Nat → Int32} (hL : L ≤ 3072) (C0 : lw_At p s m meth c b L xs) (hK : cK D k s) (hZ : Sx A z s) (hbA : ¬ A b) {G : GS} {i0 : Int32} (hi0 : 0 ≤ i0.toInt) (hi6 : i0.toInt + 6 ≤ L) (hI : LI G) (hB_G : Bd G) {H : Heap} {locs : List Loc} {ls : Array Slot} (hW : Wd D k A a G H) (hS : va_S A s.heap H locs) (hl : lv_has ls 4 [(0, .ref b), (1, .ref (a 0)), (2, .ref (a 66)), (3, .int i0)]) (K : ∀ (G1 : GS) (H1 : Heap) (locs1 : List Loc) (ls1 : Array Slot), LI G1 → Bd G1 → Wd D k A a G1 H1 → va_S A s.heap H1 locs1 → lv_has ls1 4 [(0, .ref b), (1, .ref (a 0)), (2, .ref (a 66)), (3, .int i0)] → W p l e room_1 s m #[Value.ref b] below meth c H1 locs1 119 46443 (lw_Z below #[Value.ref b] s) (F0 m 1641 ls1 [])) : W p l e room_1 s m #[Value.ref b] below meth c H locs 119 46443 (lw_Z below #[Value.ref b] s) (F0 m 1417 ls []) := by
  obtain ⟨hx, hb, hr, hml, hown, hts, hX, hbl, hlocks, hgv⟩ := id C0
  have hown : s.vm.findClass RL = some m.cls := hown
  have hgd : ∀ w ∈ gd, w ∈ lw_tbl := fun w h => (List.mem_filter.mp h).1
  have hg : ∀ w ∈ gd, w.before #[Value.ref b] s = true := fun w h => hts w (hgd w h)
  rcases hI with ⟨hv_0_0, hv_0_1, hv_6_4, hj0, hj1, hj2, hj3, hj4, hj5, hj6, hj7, hj8, hj9, hj10, hj11⟩ | ⟨hv_0_0, hv_0_1, hv_6_4, hj0, hj1, hj2, hj3, hj4, hj5, hj6, hj7, hj8, hj9, hj10, hj11⟩
  · skip
    refine lv_aload_n hx hb dL_law_1417 rfl (lv_at hl 1 rfl) ?_
    refine lv_aload_n hx hb dL_law_1418 rfl (lv_at hl 0 rfl) ?_
    refine lv_iload_n hx hb dL_law_1419 rfl (lv_at hl 3 rfl) ?_
    refine lv_iconst (v := 1) hx hb dL_law_1420 (by decide) ?_
    refine lv_iadd hx hb dL_law_1421 ?_
    refine lv_topi (fun y_1 ey_1 => ?_)
    have ty_1 : y_1.toInt = i0.toInt + 1 := xI_add rfl rfl ey_1 (by omega) (by omega)
    refine va_sld hx hb hX hbl hbA hS (vin (by omega) (by omega)) dL_law_1422 ?_
    refine lv_topi (fun y_2 ey_2 => ?_)
    have u_3 : y_2.toInt = (xs (i0 + 1).toNatClampNeg).toInt := by rw [ey_2, ey_1]
    refine lv_aload_n hx hb dL_law_1423 rfl (lv_at hl 0 rfl) ?_
    refine lv_iload_n hx hb dL_law_1424 rfl (lv_at hl 3 rfl) ?_
    refine lv_iconst (v := 2) hx hb dL_law_1425 (by decide) ?_
    refine lv_iadd hx hb dL_law_1426 ?_
    refine lv_topi (fun y_4 ey_4 => ?_)
    have ty_4 : y_4.toInt = i0.toInt + 2 := xI_add rfl rfl ey_4 (by omega) (by omega)
    refine va_sld hx hb hX hbl hbA hS (vin (by omega) (by omega)) dL_law_1427 ?_
    refine lv_topi (fun y_5 ey_5 => ?_)
    have u_6 : y_5.toInt = (xs (i0 + 2).toNatClampNeg).toInt := by rw [ey_5, ey_4]
    refine lv_aload_n hx hb dL_law_1428 rfl (lv_at hl 0 rfl) ?_
    refine lv_iload_n hx hb dL_law_1429 rfl (lv_at hl 3 rfl) ?_
    refine lv_iconst (v := 3) hx hb dL_law_1430 (by decide) ?_
    refine lv_iadd hx hb dL_law_1431 ?_
    refine lv_topi (fun y_7 ey_7 => ?_)
    have ty_7 : y_7.toInt = i0.toInt + 3 := xI_add rfl rfl ey_7 (by omega) (by omega)
    refine va_sld hx hb hX hbl hbA hS (vin (by omega) (by omega)) dL_law_1432 ?_
    refine lv_topi (fun y_8 ey_8 => ?_)
    have u_9 : y_8.toInt = (xs (i0 + 3).toNatClampNeg).toInt := by rw [ey_8, ey_7]
    refine S_calli (va_runV (As := [.int y_2, .int y_5, .int y_8]) (rest := []) ⟨hx, hb, hml, hown, hts⟩ (k_Wsight_1 l D k A a z G y_2 y_5 y_8 hv_0_0 hv_0_1 hv_6_4) (cwV 3 hts (gd_V hgd m1242 m1243 m1244 m117 m1245) rfl rfl rfl (by decide +kernel) ⟨Nat.le_of_ble_eq_true rfl, Nat.le_of_ble_eq_true rfl⟩) (pre_V hW hB_G hK hZ hS kd_0 rfl) rfl rfl hl.1 rfl (lv_room (Nat.le_of_ble_eq_true rfl)) dL_law_1433 ⟨Nat.le_of_ble_eq_true rfl, Nat.le_of_ble_eq_true rfl⟩) hS (fun r_10 G_11 H locs hpo hW hS => ?_)
    have hX_14 : P_Wsight_1 y_2 y_5 y_8 G r_10 G_11 := hpo
    obtain ⟨hB_G_11, hq_12, -⟩ := hpo
    refine lv_pop hx hb dL_law_1436 rfl ?_
    refine lv_aload_n hx hb dL_law_1437 rfl (lv_at hl 2 rfl) ?_
    refine lv_aload_n hx hb dL_law_1438 rfl (lv_at hl 0 rfl) ?_
    refine lv_iload_n hx hb dL_law_1439 rfl (lv_at hl 3 rfl) ?_
    refine lv_iconst (v := 1) hx hb dL_law_1440 (by decide) ?_
    refine lv_iadd hx hb dL_law_1441 ?_
    refine lv_topi (fun y_15 ey_15 => ?_)
    have ty_15 : y_15.toInt = i0.toInt + 1 := xI_add rfl rfl ey_15 (by omega) (by omega)
    refine va_sld hx hb hX hbl hbA hS (vin (by omega) (by omega)) dL_law_1442 ?_
    refine lv_topi (fun y_16 ey_16 => ?_)
    have u_17 : y_16.toInt = (xs (i0 + 1).toNatClampNeg).toInt := by rw [ey_16, ey_15]
    refine lv_aload_n hx hb dL_law_1443 rfl (lv_at hl 0 rfl) ?_
    refine lv_iload_n hx hb dL_law_1444 rfl (lv_at hl 3 rfl) ?_
    refine lv_iconst (v := 2) hx hb dL_law_1445 (by decide) ?_
    refine lv_iadd hx hb dL_law_1446 ?_
    refine lv_topi (fun y_18 ey_18 => ?_)
    have ty_18 : y_18.toInt = i0.toInt + 2 := xI_add rfl rfl ey_18 (by omega) (by omega)
    refine va_sld hx hb hX hbl hbA hS (vin (by omega) (by omega)) dL_law_1447 ?_
    refine lv_topi (fun y_19 ey_19 => ?_)
    have u_20 : y_19.toInt = (xs (i0 + 2).toNatClampNeg).toInt := by rw [ey_19, ey_18]
    refine lv_aload_n hx hb dL_law_1448 rfl (lv_at hl 0 rfl) ?_
    refine lv_iload_n hx hb dL_law_1449 rfl (lv_at hl 3 rfl) ?_
    refine lv_iconst (v := 3) hx hb dL_law_1450 (by decide) ?_
    refine lv_iadd hx hb dL_law_1451 ?_
    refine lv_topi (fun y_21 ey_21 => ?_)
    have ty_21 : y_21.toInt = i0.toInt + 3 := xI_add rfl rfl ey_21 (by omega) (by omega)
    refine va_sld hx hb hX hbl hbA hS (vin (by omega) (by omega)) dL_law_1452 ?_
    refine lv_topi (fun y_22 ey_22 => ?_)
    have u_23 : y_22.toInt = (xs (i0 + 3).toNatClampNeg).toInt := by rw [ey_22, ey_21]
    have g_24 : gW G_11 = gW G := gW_fr (rs := [61, 62, 63, 64, 65]) (fs := [(31, 5)]) (Fr.rf.call hq_12 (by decide) (by decide)) (by decide) (by decide)
    have g_25 : gS G_11 = gS G := gS_fr (rs := [61, 62, 63, 64, 65]) (fs := [(31, 5)]) (Fr.rf.call hq_12 (by decide) (by decide)) (by decide) (by decide)
    refine S_calli (va_runV (As := [.int y_16, .int y_19, .int y_22]) (rest := []) ⟨hx, hb, hml, hown, hts⟩ (n_sight l D k A a z G_11 y_16 y_19 y_22 (by omega) (by omega)) (cwV 3 hts (gd_V hgd m2039 m2040 m2041 m131 m2042) rfl rfl rfl (by decide +kernel) ⟨Nat.le_of_ble_eq_true rfl, Nat.le_of_ble_eq_true rfl⟩) (pre_V hW hB_G_11 hK hZ hS kd_66 rfl) rfl rfl hl.1 rfl (lv_room (Nat.le_of_ble_eq_true rfl)) dL_law_1453 ⟨Nat.le_of_ble_eq_true rfl, Nat.le_of_ble_eq_true rfl⟩) hS (fun r_26 G_27 H locs hpo hW hS => ?_)
    have hX_30 : Q_sight y_16 y_19 y_22 G_11 r_26 G_27 := hpo
    obtain ⟨hB_G_27, hq_28, hp_29, -⟩ := hpo
    obtain ⟨u_31, u_32⟩ := L_sight_1 hX_14 hX_30 (by omega) (by omega) (by omega) (by omega) hB_G (by omega)
    refine lv_pop hx hb dL_law_1456 rfl ?_
    refine lv_goto (tgt := 1641) hx hb dL_law_1457 (by decide) ?_
    have g_33 : gO G_27 = gO G := gO_fr (rs := [61, 62, 63, 64, 65, 112, 113, 114, 115, 116]) (fs := [(31, 5), (66, 85)]) ((Fr.rf.call hq_12 (by decide) (by decide)).call hq_28 (by decide) (by decide)) (by decide) (by decide)
    have g_34 : gP G_27 = gP G := gP_fr (rs := [61, 62, 63, 64, 65, 112, 113, 114, 115, 116]) (fs := [(31, 5), (66, 85)]) ((Fr.rf.call hq_12 (by decide) (by decide)).call hq_28 (by decide) (by decide)) (by decide) (by decide)
    have g_35 : gTE G_27 = gTE G := gTE_fr (rs := [61, 62, 63, 64, 65, 112, 113, 114, 115, 116]) (fs := [(31, 5), (66, 85)]) ((Fr.rf.call hq_12 (by decide) (by decide)).call hq_28 (by decide) (by decide)) (by decide) (by decide)
    have g_36 : gW G_27 = gW G := gW_fr (rs := [61, 62, 63, 64, 65, 112, 113, 114, 115, 116]) (fs := [(31, 5), (66, 85)]) ((Fr.rf.call hq_12 (by decide) (by decide)).call hq_28 (by decide) (by decide)) (by decide) (by decide)
    have b_37 : 0 ≤ (G.1 0 11).toInt ∧ (G.1 0 11).toInt ≤ 1600 := hB_G.i 0 11 rfl rfl
    have g_38 : (G_27.1 0 11).toInt = (G.1 0 11).toInt := by rw [show G_27.1 0 11 = (G.1 0 11) from ((hq_28.i 0 11 (by decide) (by decide)).trans (hq_12.i 0 11 (by decide) (by decide)))]
    have b_39 : 0 ≤ (G.1 3 7).toInt ∧ (G.1 3 7).toInt ≤ 4 := hB_G.i 3 7 rfl rfl
    have g_40 : (G_27.1 3 7).toInt = (G.1 3 7).toInt := by rw [show G_27.1 3 7 = (G.1 3 7) from ((hq_28.i 3 7 (by decide) (by decide)).trans (hq_12.i 3 7 (by decide) (by decide)))]
    have b_41 : (-1) ≤ (G.1 3 8).toInt ∧ (G.1 3 8).toInt ≤ 1600 := hB_G.i 3 8 rfl rfl
    have g_42 : (G_27.1 3 8).toInt = (G.1 3 8).toInt := by rw [show G_27.1 3 8 = (G.1 3 8) from ((hq_28.i 3 8 (by decide) (by decide)).trans (hq_12.i 3 8 (by decide) (by decide)))]
    have b_43 : 0 ≤ (G.1 30 4).toInt ∧ (G.1 30 4).toInt ≤ 40 := hB_G.i 30 4 rfl rfl
    have g_44 : (G_27.1 30 4).toInt = (G.1 30 4).toInt := by rw [show G_27.1 30 4 = (G.1 30 4) from ((hq_28.i 30 4 (by decide) (by decide)).trans (hq_12.i 30 4 (by decide) (by decide)))]
    have b_45 : 0 ≤ (G.1 30 5).toInt ∧ (G.1 30 5).toInt ≤ 40 := hB_G.i 30 5 rfl rfl
    have g_46 : (G_27.1 30 5).toInt = (G.1 30 5).toInt := by rw [show G_27.1 30 5 = (G.1 30 5) from ((hq_28.i 30 5 (by decide) (by decide)).trans (hq_12.i 30 5 (by decide) (by decide)))]
    have b_47 : 0 ≤ (G.1 31 6).toInt ∧ (G.1 31 6).toInt ≤ 100000 := hB_G.i 31 6 rfl rfl
    have g_48 : (G_27.1 31 6).toInt = (G.1 31 6).toInt := by rw [show G_27.1 31 6 = (G.1 31 6) from ((hq_28.i 31 6 (by decide) (by decide)).trans (hq_12.i 31 6 (by decide) (by decide)))]
    have b_49 : 0 ≤ (G.1 66 1).toInt ∧ (G.1 66 1).toInt ≤ 1600 := hB_G.i 66 1 rfl rfl
    have g_50 : (G_27.1 66 1).toInt = (G.1 66 1).toInt := by rw [show G_27.1 66 1 = (G.1 66 1) from ((hq_28.i 66 1 (by decide) (by decide)).trans (hq_12.i 66 1 (by decide) (by decide)))]
    have b_51 : 0 ≤ (G.1 66 2).toInt ∧ (G.1 66 2).toInt ≤ 4 := hB_G.i 66 2 rfl rfl
    have g_52 : (G_27.1 66 2).toInt = (G.1 66 2).toInt := by rw [show G_27.1 66 2 = (G.1 66 2) from ((hq_28.i 66 2 (by decide) (by decide)).trans (hq_12.i 66 2 (by decide) (by decide)))]
    have b_53 : (-1) ≤ (G.1 66 3).toInt ∧ (G.1 66 3).toInt ≤ 1600 := hB_G.i 66 3 rfl rfl
    have g_54 : (G_27.1 66 3).toInt = (G.1 66 3).toInt := by rw [show G_27.1 66 3 = (G.1 66 3) from ((hq_28.i 66 3 (by decide) (by decide)).trans (hq_12.i 66 3 (by decide) (by decide)))]
    have b_55 : 0 ≤ (G.1 66 78).toInt ∧ (G.1 66 78).toInt ≤ 40 := hB_G.i 66 78 rfl rfl
    have g_56 : (G_27.1 66 78).toInt = (G.1 66 78).toInt := by rw [show G_27.1 66 78 = (G.1 66 78) from ((hq_28.i 66 78 (by decide) (by decide)).trans (hq_12.i 66 78 (by decide) (by decide)))]
    have b_57 : 0 ≤ (G.1 66 79).toInt ∧ (G.1 66 79).toInt ≤ 40 := hB_G.i 66 79 rfl rfl
    have g_58 : (G_27.1 66 79).toInt = (G.1 66 79).toInt := by rw [show G_27.1 66 79 = (G.1 66 79) from ((hq_28.i 66 79 (by decide) (by decide)).trans (hq_12.i 66 79 (by decide) (by decide)))]
    have b_59 : 0 ≤ (G.1 66 86).toInt ∧ (G.1 66 86).toInt ≤ 100000 := hB_G.i 66 86 rfl rfl
    have g_60 : (G_27.1 66 86).toInt = (G.1 66 86).toInt := by rw [show G_27.1 66 86 = (G.1 66 86) from ((hq_28.i 66 86 (by decide) (by decide)).trans (hq_12.i 66 86 (by decide) (by decide)))]
    have b_61 : 0 ≤ (G.1 96 0).toInt ∧ (G.1 96 0).toInt ≤ 9 := hB_G.i 96 0 rfl rfl
    have g_62 : (G_27.1 96 0).toInt = (G.1 96 0).toInt := by rw [show G_27.1 96 0 = (G.1 96 0) from ((hq_28.i 96 0 (by decide) (by decide)).trans (hq_12.i 96 0 (by decide) (by decide)))]
    have b_63 : 0 ≤ (G.1 96 1).toInt ∧ (G.1 96 1).toInt ≤ 9 := hB_G.i 96 1 rfl rfl
    have g_64 : (G_27.1 96 1).toInt = (G.1 96 1).toInt := by rw [show G_27.1 96 1 = (G.1 96 1) from ((hq_28.i 96 1 (by decide) (by decide)).trans (hq_12.i 96 1 (by decide) (by decide)))]
    have b_65 : 0 ≤ (G.1 96 2).toInt ∧ (G.1 96 2).toInt ≤ 9 := hB_G.i 96 2 rfl rfl
    have g_66 : (G_27.1 96 2).toInt = (G.1 96 2).toInt := by rw [show G_27.1 96 2 = (G.1 96 2) from ((hq_28.i 96 2 (by decide) (by decide)).trans (hq_12.i 96 2 (by decide) (by decide)))]
    exact K G_27 _ _ _ (Or.inl ⟨((((hq_28.r 0 0 (by decide) (by decide)).trans (hq_12.r 0 0 (by decide) (by decide)))).trans (hv_0_0)), ((((hq_28.r 0 1 (by decide) (by decide)).trans (hq_12.r 0 1 (by decide) (by decide)))).trans (hv_0_1)), ((((hq_28.r 6 4 (by decide) (by decide)).trans (hq_12.r 6 4 (by decide) (by decide)))).trans (hv_6_4)), by omega, by omega, by omega, by omega, by omega, by omega, by omega, by omega, by omega, by omega, by omega, by omega, by omega⟩) hB_G_27 hW hS (lv_sub hl [0, 1, 2, 3] rfl)
  · skip
    refine lv_aload_n hx hb dL_law_1417 rfl (lv_at hl 1 rfl) ?_
    refine lv_aload_n hx hb dL_law_1418 rfl (lv_at hl 0 rfl) ?_
    refine lv_iload_n hx hb dL_law_1419 rfl (lv_at hl 3 rfl) ?_
    refine lv_iconst (v := 1) hx hb dL_law_1420 (by decide) ?_
    refine lv_iadd hx hb dL_law_1421 ?_
    refine lv_topi (fun y_1 ey_1 => ?_)
    have ty_1 : y_1.toInt = i0.toInt + 1 := xI_add rfl rfl ey_1 (by omega) (by omega)
    refine va_sld hx hb hX hbl hbA hS (vin (by omega) (by omega)) dL_law_1422 ?_
    refine lv_topi (fun y_2 ey_2 => ?_)
    have u_3 : y_2.toInt = (xs (i0 + 1).toNatClampNeg).toInt := by rw [ey_2, ey_1]
    refine lv_aload_n hx hb dL_law_1423 rfl (lv_at hl 0 rfl) ?_
    refine lv_iload_n hx hb dL_law_1424 rfl (lv_at hl 3 rfl) ?_
    refine lv_iconst (v := 2) hx hb dL_law_1425 (by decide) ?_
    refine lv_iadd hx hb dL_law_1426 ?_
    refine lv_topi (fun y_4 ey_4 => ?_)
    have ty_4 : y_4.toInt = i0.toInt + 2 := xI_add rfl rfl ey_4 (by omega) (by omega)
    refine va_sld hx hb hX hbl hbA hS (vin (by omega) (by omega)) dL_law_1427 ?_
    refine lv_topi (fun y_5 ey_5 => ?_)
    have u_6 : y_5.toInt = (xs (i0 + 2).toNatClampNeg).toInt := by rw [ey_5, ey_4]
    refine lv_aload_n hx hb dL_law_1428 rfl (lv_at hl 0 rfl) ?_
    refine lv_iload_n hx hb dL_law_1429 rfl (lv_at hl 3 rfl) ?_
    refine lv_iconst (v := 3) hx hb dL_law_1430 (by decide) ?_
    refine lv_iadd hx hb dL_law_1431 ?_
    refine lv_topi (fun y_7 ey_7 => ?_)
    have ty_7 : y_7.toInt = i0.toInt + 3 := xI_add rfl rfl ey_7 (by omega) (by omega)
    refine va_sld hx hb hX hbl hbA hS (vin (by omega) (by omega)) dL_law_1432 ?_
    refine lv_topi (fun y_8 ey_8 => ?_)
    have u_9 : y_8.toInt = (xs (i0 + 3).toNatClampNeg).toInt := by rw [ey_8, ey_7]
    refine S_calli (va_runV (As := [.int y_2, .int y_5, .int y_8]) (rest := []) ⟨hx, hb, hml, hown, hts⟩ (k_Wsight_2 l D k A a z G y_2 y_5 y_8 hv_0_0 hv_0_1 hv_6_4) (cwV 3 hts (gd_V hgd m1242 m1243 m1244 m117 m1245) rfl rfl rfl (by decide +kernel) ⟨Nat.le_of_ble_eq_true rfl, Nat.le_of_ble_eq_true rfl⟩) (pre_V hW hB_G hK hZ hS kd_0 rfl) rfl rfl hl.1 rfl (lv_room (Nat.le_of_ble_eq_true rfl)) dL_law_1433 ⟨Nat.le_of_ble_eq_true rfl, Nat.le_of_ble_eq_true rfl⟩) hS (fun r_10 G_11 H locs hpo hW hS => ?_)
    have hX_14 : P_Wsight_2 y_2 y_5 y_8 G r_10 G_11 := hpo
    obtain ⟨hB_G_11, hq_12, -⟩ := hpo
    refine lv_pop hx hb dL_law_1436 rfl ?_
    refine lv_aload_n hx hb dL_law_1437 rfl (lv_at hl 2 rfl) ?_
    refine lv_aload_n hx hb dL_law_1438 rfl (lv_at hl 0 rfl) ?_
    refine lv_iload_n hx hb dL_law_1439 rfl (lv_at hl 3 rfl) ?_
    refine lv_iconst (v := 1) hx hb dL_law_1440 (by decide) ?_
    refine lv_iadd hx hb dL_law_1441 ?_
    refine lv_topi (fun y_15 ey_15 => ?_)
    have ty_15 : y_15.toInt = i0.toInt + 1 := xI_add rfl rfl ey_15 (by omega) (by omega)
    refine va_sld hx hb hX hbl hbA hS (vin (by omega) (by omega)) dL_law_1442 ?_
    refine lv_topi (fun y_16 ey_16 => ?_)
    have u_17 : y_16.toInt = (xs (i0 + 1).toNatClampNeg).toInt := by rw [ey_16, ey_15]
    refine lv_aload_n hx hb dL_law_1443 rfl (lv_at hl 0 rfl) ?_
    refine lv_iload_n hx hb dL_law_1444 rfl (lv_at hl 3 rfl) ?_
    refine lv_iconst (v := 2) hx hb dL_law_1445 (by decide) ?_
    refine lv_iadd hx hb dL_law_1446 ?_
    refine lv_topi (fun y_18 ey_18 => ?_)
    have ty_18 : y_18.toInt = i0.toInt + 2 := xI_add rfl rfl ey_18 (by omega) (by omega)
    refine va_sld hx hb hX hbl hbA hS (vin (by omega) (by omega)) dL_law_1447 ?_
    refine lv_topi (fun y_19 ey_19 => ?_)
    have u_20 : y_19.toInt = (xs (i0 + 2).toNatClampNeg).toInt := by rw [ey_19, ey_18]
    refine lv_aload_n hx hb dL_law_1448 rfl (lv_at hl 0 rfl) ?_
    refine lv_iload_n hx hb dL_law_1449 rfl (lv_at hl 3 rfl) ?_
    refine lv_iconst (v := 3) hx hb dL_law_1450 (by decide) ?_
    refine lv_iadd hx hb dL_law_1451 ?_
    refine lv_topi (fun y_21 ey_21 => ?_)
    have ty_21 : y_21.toInt = i0.toInt + 3 := xI_add rfl rfl ey_21 (by omega) (by omega)
    refine va_sld hx hb hX hbl hbA hS (vin (by omega) (by omega)) dL_law_1452 ?_
    refine lv_topi (fun y_22 ey_22 => ?_)
    have u_23 : y_22.toInt = (xs (i0 + 3).toNatClampNeg).toInt := by rw [ey_22, ey_21]
    have g_24 : gW G_11 = gW G := gW_fr (rs := [61, 62, 63, 64, 65]) (fs := [(31, 5)]) (Fr.rf.call hq_12 (by decide) (by decide)) (by decide) (by decide)
    have g_25 : gS G_11 = gS G := gS_fr (rs := [61, 62, 63, 64, 65]) (fs := [(31, 5)]) (Fr.rf.call hq_12 (by decide) (by decide)) (by decide) (by decide)
    refine S_calli (va_runV (As := [.int y_16, .int y_19, .int y_22]) (rest := []) ⟨hx, hb, hml, hown, hts⟩ (n_sight l D k A a z G_11 y_16 y_19 y_22 (by omega) (by omega)) (cwV 3 hts (gd_V hgd m2039 m2040 m2041 m131 m2042) rfl rfl rfl (by decide +kernel) ⟨Nat.le_of_ble_eq_true rfl, Nat.le_of_ble_eq_true rfl⟩) (pre_V hW hB_G_11 hK hZ hS kd_66 rfl) rfl rfl hl.1 rfl (lv_room (Nat.le_of_ble_eq_true rfl)) dL_law_1453 ⟨Nat.le_of_ble_eq_true rfl, Nat.le_of_ble_eq_true rfl⟩) hS (fun r_26 G_27 H locs hpo hW hS => ?_)
    have hX_30 : Q_sight y_16 y_19 y_22 G_11 r_26 G_27 := hpo
    obtain ⟨hB_G_27, hq_28, hp_29, -⟩ := hpo
    obtain ⟨u_31, u_32⟩ := L_sight_2 hX_14 hX_30 (by omega) (by omega) (by omega) (by omega) hB_G (by omega)
    refine lv_pop hx hb dL_law_1456 rfl ?_
    refine lv_goto (tgt := 1641) hx hb dL_law_1457 (by decide) ?_
    have g_33 : gO G_27 = gO G := gO_fr (rs := [61, 62, 63, 64, 65, 112, 113, 114, 115, 116]) (fs := [(31, 5), (66, 85)]) ((Fr.rf.call hq_12 (by decide) (by decide)).call hq_28 (by decide) (by decide)) (by decide) (by decide)
    have g_34 : gP G_27 = gP G := gP_fr (rs := [61, 62, 63, 64, 65, 112, 113, 114, 115, 116]) (fs := [(31, 5), (66, 85)]) ((Fr.rf.call hq_12 (by decide) (by decide)).call hq_28 (by decide) (by decide)) (by decide) (by decide)
    have g_35 : gTE G_27 = gTE G := gTE_fr (rs := [61, 62, 63, 64, 65, 112, 113, 114, 115, 116]) (fs := [(31, 5), (66, 85)]) ((Fr.rf.call hq_12 (by decide) (by decide)).call hq_28 (by decide) (by decide)) (by decide) (by decide)
    have g_36 : gW G_27 = gW G := gW_fr (rs := [61, 62, 63, 64, 65, 112, 113, 114, 115, 116]) (fs := [(31, 5), (66, 85)]) ((Fr.rf.call hq_12 (by decide) (by decide)).call hq_28 (by decide) (by decide)) (by decide) (by decide)
    have b_37 : 0 ≤ (G.1 0 11).toInt ∧ (G.1 0 11).toInt ≤ 1600 := hB_G.i 0 11 rfl rfl
    have g_38 : (G_27.1 0 11).toInt = (G.1 0 11).toInt := by rw [show G_27.1 0 11 = (G.1 0 11) from ((hq_28.i 0 11 (by decide) (by decide)).trans (hq_12.i 0 11 (by decide) (by decide)))]
    have b_39 : 0 ≤ (G.1 3 7).toInt ∧ (G.1 3 7).toInt ≤ 4 := hB_G.i 3 7 rfl rfl
    have g_40 : (G_27.1 3 7).toInt = (G.1 3 7).toInt := by rw [show G_27.1 3 7 = (G.1 3 7) from ((hq_28.i 3 7 (by decide) (by decide)).trans (hq_12.i 3 7 (by decide) (by decide)))]
    have b_41 : (-1) ≤ (G.1 3 8).toInt ∧ (G.1 3 8).toInt ≤ 1600 := hB_G.i 3 8 rfl rfl
    have g_42 : (G_27.1 3 8).toInt = (G.1 3 8).toInt := by rw [show G_27.1 3 8 = (G.1 3 8) from ((hq_28.i 3 8 (by decide) (by decide)).trans (hq_12.i 3 8 (by decide) (by decide)))]
    have b_43 : 0 ≤ (G.1 30 4).toInt ∧ (G.1 30 4).toInt ≤ 40 := hB_G.i 30 4 rfl rfl
    have g_44 : (G_27.1 30 4).toInt = (G.1 30 4).toInt := by rw [show G_27.1 30 4 = (G.1 30 4) from ((hq_28.i 30 4 (by decide) (by decide)).trans (hq_12.i 30 4 (by decide) (by decide)))]
    have b_45 : 0 ≤ (G.1 30 5).toInt ∧ (G.1 30 5).toInt ≤ 40 := hB_G.i 30 5 rfl rfl
    have g_46 : (G_27.1 30 5).toInt = (G.1 30 5).toInt := by rw [show G_27.1 30 5 = (G.1 30 5) from ((hq_28.i 30 5 (by decide) (by decide)).trans (hq_12.i 30 5 (by decide) (by decide)))]
    have b_47 : 0 ≤ (G.1 31 6).toInt ∧ (G.1 31 6).toInt ≤ 100000 := hB_G.i 31 6 rfl rfl
    have g_48 : (G_27.1 31 6).toInt = (G.1 31 6).toInt := by rw [show G_27.1 31 6 = (G.1 31 6) from ((hq_28.i 31 6 (by decide) (by decide)).trans (hq_12.i 31 6 (by decide) (by decide)))]
    have b_49 : 0 ≤ (G.1 66 1).toInt ∧ (G.1 66 1).toInt ≤ 1600 := hB_G.i 66 1 rfl rfl
    have g_50 : (G_27.1 66 1).toInt = (G.1 66 1).toInt := by rw [show G_27.1 66 1 = (G.1 66 1) from ((hq_28.i 66 1 (by decide) (by decide)).trans (hq_12.i 66 1 (by decide) (by decide)))]
    have b_51 : 0 ≤ (G.1 66 2).toInt ∧ (G.1 66 2).toInt ≤ 4 := hB_G.i 66 2 rfl rfl
    have g_52 : (G_27.1 66 2).toInt = (G.1 66 2).toInt := by rw [show G_27.1 66 2 = (G.1 66 2) from ((hq_28.i 66 2 (by decide) (by decide)).trans (hq_12.i 66 2 (by decide) (by decide)))]
    have b_53 : (-1) ≤ (G.1 66 3).toInt ∧ (G.1 66 3).toInt ≤ 1600 := hB_G.i 66 3 rfl rfl
    have g_54 : (G_27.1 66 3).toInt = (G.1 66 3).toInt := by rw [show G_27.1 66 3 = (G.1 66 3) from ((hq_28.i 66 3 (by decide) (by decide)).trans (hq_12.i 66 3 (by decide) (by decide)))]
    have b_55 : 0 ≤ (G.1 66 78).toInt ∧ (G.1 66 78).toInt ≤ 40 := hB_G.i 66 78 rfl rfl
    have g_56 : (G_27.1 66 78).toInt = (G.1 66 78).toInt := by rw [show G_27.1 66 78 = (G.1 66 78) from ((hq_28.i 66 78 (by decide) (by decide)).trans (hq_12.i 66 78 (by decide) (by decide)))]
    have b_57 : 0 ≤ (G.1 66 79).toInt ∧ (G.1 66 79).toInt ≤ 40 := hB_G.i 66 79 rfl rfl
    have g_58 : (G_27.1 66 79).toInt = (G.1 66 79).toInt := by rw [show G_27.1 66 79 = (G.1 66 79) from ((hq_28.i 66 79 (by decide) (by decide)).trans (hq_12.i 66 79 (by decide) (by decide)))]
    have b_59 : 0 ≤ (G.1 66 86).toInt ∧ (G.1 66 86).toInt ≤ 100000 := hB_G.i 66 86 rfl rfl
    have g_60 : (G_27.1 66 86).toInt = (G.1 66 86).toInt := by rw [show G_27.1 66 86 = (G.1 66 86) from ((hq_28.i 66 86 (by decide) (by decide)).trans (hq_12.i 66 86 (by decide) (by decide)))]
    have b_61 : 0 ≤ (G.1 96 0).toInt ∧ (G.1 96 0).toInt ≤ 9 := hB_G.i 96 0 rfl rfl
    have g_62 : (G_27.1 96 0).toInt = (G.1 96 0).toInt := by rw [show G_27.1 96 0 = (G.1 96 0) from ((hq_28.i 96 0 (by decide) (by decide)).trans (hq_12.i 96 0 (by decide) (by decide)))]
    have b_63 : 0 ≤ (G.1 96 1).toInt ∧ (G.1 96 1).toInt ≤ 9 := hB_G.i 96 1 rfl rfl
    have g_64 : (G_27.1 96 1).toInt = (G.1 96 1).toInt := by rw [show G_27.1 96 1 = (G.1 96 1) from ((hq_28.i 96 1 (by decide) (by decide)).trans (hq_12.i 96 1 (by decide) (by decide)))]
    have b_65 : 0 ≤ (G.1 96 2).toInt ∧ (G.1 96 2).toInt ≤ 9 := hB_G.i 96 2 rfl rfl
    have g_66 : (G_27.1 96 2).toInt = (G.1 96 2).toInt := by rw [show G_27.1 96 2 = (G.1 96 2) from ((hq_28.i 96 2 (by decide) (by decide)).trans (hq_12.i 96 2 (by decide) (by decide)))]
    exact K G_27 _ _ _ (Or.inr ⟨((((hq_28.r 0 0 (by decide) (by decide)).trans (hq_12.r 0 0 (by decide) (by decide)))).trans (hv_0_0)), ((((hq_28.r 0 1 (by decide) (by decide)).trans (hq_12.r 0 1 (by decide) (by decide)))).trans (hv_0_1)), ((((hq_28.r 6 4 (by decide) (by decide)).trans (hq_12.r 6 4 (by decide) (by decide)))).trans (hv_6_4)), by omega, by omega, by omega, by omega, by omega, by omega, by omega, by omega, by omega, by omega, by omega, by omega, by omega⟩) hB_G_27 hW hS (lv_sub hl [0, 1, 2, 3] rfl)
