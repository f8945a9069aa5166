theorem m1210 : Cond.methodLink RL 121 yX11_rain ∈ gd := gd_mem 1210 (by decide +kernel) (by decide +kernel)
theorem m1211 : Cond.instanceMethod yX11_rain ∈ gd := gd_mem 1211 (by decide +kernel) (by decide +kernel)
theorem m1212 : Cond.selects RX11 yX11_rain yX11_rain ∈ gd := gd_mem 1212 (by decide +kernel) (by decide +kernel)
theorem m1213 : Cond.code yX11_rain cX11_rain 1 (some .boolean) ∈ gd := gd_mem 1213 (by decide +kernel) (by decide +kernel)
theorem m1214 : Cond.methodLink RL 126 yX11_day ∈ gd := gd_mem 1214 (by decide +kernel) (by decide +kernel)
theorem m1215 : Cond.instanceMethod yX11_day ∈ gd := gd_mem 1215 (by decide +kernel) (by decide +kernel)
theorem m1216 : Cond.selects RX11 yX11_day yX11_day ∈ gd := gd_mem 1216 (by decide +kernel) (by decide +kernel)
theorem m1217 : Cond.code yX11_day cX11_day 1 (some .int) ∈ gd := gd_mem 1217 (by decide +kernel) (by decide +kernel)
theorem m1218 : Cond.methodLink RL 130 yX11_undo ∈ gd := gd_mem 1218 (by decide +kernel) (by decide +kernel)
theorem m1219 : Cond.instanceMethod yX11_undo ∈ gd := gd_mem 1219 (by decide +kernel) (by decide +kernel)
theorem m1220 : Cond.selects RX11 yX11_undo yX11_undo ∈ gd := gd_mem 1220 (by decide +kernel) (by decide +kernel)
theorem m1221 : Cond.code yX11_undo cX11_undo 1 (some .boolean) ∈ gd := gd_mem 1221 (by decide +kernel) (by decide +kernel)
theorem m1226 : Cond.methodLink RL 134 yX11_redo ∈ gd := gd_mem 1226 (by decide +kernel) (by decide +kernel)
theorem m1227 : Cond.instanceMethod yX11_redo ∈ gd := gd_mem 1227 (by decide +kernel) (by decide +kernel)
theorem m1228 : Cond.selects RX11 yX11_redo yX11_redo ∈ gd := gd_mem 1228 (by decide +kernel) (by decide +kernel)
theorem m1229 : Cond.code yX11_redo cX11_redo 1 (some .boolean) ∈ gd := gd_mem 1229 (by decide +kernel) (by decide +kernel)
theorem m1234 : Cond.methodLink RL 138 yX11_walker ∈ gd := gd_mem 1234 (by decide +kernel) (by decide +kernel)
theorem m1235 : Cond.instanceMethod yX11_walker ∈ gd := gd_mem 1235 (by decide +kernel) (by decide +kernel)
theorem m1236 : Cond.selects RX11 yX11_walker yX11_walker ∈ gd := gd_mem 1236 (by decide +kernel) (by decide +kernel)
theorem m1237 : Cond.code yX11_walker cX11_walker 2 (some .int) ∈ gd := gd_mem 1237 (by decide +kernel) (by decide +kernel)
theorem m1238 : Cond.methodLink RL 142 yX11_lies ∈ gd := gd_mem 1238 (by decide +kernel) (by decide +kernel)
theorem m1239 : Cond.instanceMethod yX11_lies ∈ gd := gd_mem 1239 (by decide +kernel) (by decide +kernel)
theorem m1240 : Cond.selects RX11 yX11_lies yX11_lies ∈ gd := gd_mem 1240 (by decide +kernel) (by decide +kernel)
theorem m1241 : Cond.code yX11_lies cX11_lies 2 (some .int) ∈ gd := gd_mem 1241 (by decide +kernel) (by decide +kernel)
theorem m2011 : Cond.methodLink RL 125 yX12_rain ∈ gd := gd_mem 2011 (by decide +kernel) (by decide +kernel)
theorem m2012 : Cond.instanceMethod yX12_rain ∈ gd := gd_mem 2012 (by decide +kernel) (by decide +kernel)
theorem m2013 : Cond.selects RX12 yX12_rain yX12_rain ∈ gd := gd_mem 2013 (by decide +kernel) (by decide +kernel)
theorem m2014 : Cond.code yX12_rain cX12_rain 1 (some .boolean) ∈ gd := gd_mem 2014 (by decide +kernel) (by decide +kernel)
theorem m2015 : Cond.methodLink RL 129 yX12_day ∈ gd := gd_mem 2015 (by decide +kernel) (by decide +kernel)
theorem m2016 : Cond.instanceMethod yX12_day ∈ gd := gd_mem 2016 (by decide +kernel) (by decide +kernel)
theorem m2017 : Cond.selects RX12 yX12_day yX12_day ∈ gd := gd_mem 2017 (by decide +kernel) (by decide +kernel)
theorem m2018 : Cond.code yX12_day cX12_day 1 (some .int) ∈ gd := gd_mem 2018 (by decide +kernel) (by decide +kernel)
theorem m2019 : Cond.methodLink RL 133 yX12_undo ∈ gd := gd_mem 2019 (by decide +kernel) (by decide +kernel)
theorem m2020 : Cond.instanceMethod yX12_undo ∈ gd := gd_mem 2020 (by decide +kernel) (by decide +kernel)
theorem m2021 : Cond.selects RX12 yX12_undo yX12_undo ∈ gd := gd_mem 2021 (by decide +kernel) (by decide +kernel)
theorem m2022 : Cond.code yX12_undo cX12_undo 1 (some .boolean) ∈ gd := gd_mem 2022 (by decide +kernel) (by decide +kernel)
theorem m2027 : Cond.methodLink RL 137 yX12_redo ∈ gd := gd_mem 2027 (by decide +kernel) (by decide +kernel)
theorem m2028 : Cond.instanceMethod yX12_redo ∈ gd := gd_mem 2028 (by decide +kernel) (by decide +kernel)
theorem m2029 : Cond.selects RX12 yX12_redo yX12_redo ∈ gd := gd_mem 2029 (by decide +kernel) (by decide +kernel)
theorem m2030 : Cond.code yX12_redo cX12_redo 1 (some .boolean) ∈ gd := gd_mem 2030 (by decide +kernel) (by decide +kernel)
theorem m2031 : Cond.methodLink RL 141 yX12_walker ∈ gd := gd_mem 2031 (by decide +kernel) (by decide +kernel)
theorem m2032 : Cond.instanceMethod yX12_walker ∈ gd := gd_mem 2032 (by decide +kernel) (by decide +kernel)
theorem m2033 : Cond.selects RX12 yX12_walker yX12_walker ∈ gd := gd_mem 2033 (by decide +kernel) (by decide +kernel)
theorem m2034 : Cond.code yX12_walker cX12_walker 2 (some .int) ∈ gd := gd_mem 2034 (by decide +kernel) (by decide +kernel)
theorem m2035 : Cond.methodLink RL 145 yX12_lies ∈ gd := gd_mem 2035 (by decide +kernel) (by decide +kernel)
theorem m2036 : Cond.instanceMethod yX12_lies ∈ gd := gd_mem 2036 (by decide +kernel) (by decide +kernel)
theorem m2037 : Cond.selects RX12 yX12_lies yX12_lies ∈ gd := gd_mem 2037 (by decide +kernel) (by decide +kernel)
theorem m2038 : Cond.code yX12_lies cX12_lies 2 (some .int) ∈ gd := gd_mem 2038 (by decide +kernel) (by decide +kernel)
theorem dL_law_1320 : decode cL_law 1320 = .ok (.aload_n 1, 1) := by decide +kernel
theorem dL_law_1321 : decode cL_law 1321 = .ok (.invokevirtual 121, 3) := by decide +kernel
theorem dL_law_1324 : decode cL_law 1324 = .ok (.pop, 1) := by decide +kernel
theorem dL_law_1325 : decode cL_law 1325 = .ok (.aload_n 2, 1) := by decide +kernel
theorem dL_law_1326 : decode cL_law 1326 = .ok (.invokevirtual 125, 3) := by decide +kernel
theorem dL_law_1329 : decode cL_law 1329 = .ok (.pop, 1) := by decide +kernel
theorem dL_law_1330 : decode cL_law 1330 = .ok (.goto 312, 3) := by decide +kernel
theorem dL_law_1333 : decode cL_law 1333 = .ok (.aload_n 1, 1) := by decide +kernel
theorem dL_law_1334 : decode cL_law 1334 = .ok (.invokevirtual 126, 3) := by decide +kernel
theorem dL_law_1337 : decode cL_law 1337 = .ok (.pop, 1) := by decide +kernel
theorem dL_law_1338 : decode cL_law 1338 = .ok (.aload_n 2, 1) := by decide +kernel
theorem dL_law_1339 : decode cL_law 1339 = .ok (.invokevirtual 129, 3) := by decide +kernel
theorem dL_law_1342 : decode cL_law 1342 = .ok (.pop, 1) := by decide +kernel
theorem dL_law_1343 : decode cL_law 1343 = .ok (.goto 299, 3) := by decide +kernel
theorem dL_law_1346 : decode cL_law 1346 = .ok (.aload_n 1, 1) := by decide +kernel
theorem dL_law_1347 : decode cL_law 1347 = .ok (.invokevirtual 130, 3) := by decide +kernel
theorem dL_law_1350 : decode cL_law 1350 = .ok (.pop, 1) := by decide +kernel
theorem dL_law_1351 : decode cL_law 1351 = .ok (.aload_n 2, 1) := by decide +kernel
theorem dL_law_1352 : decode cL_law 1352 = .ok (.invokevirtual 133, 3) := by decide +kernel
theorem dL_law_1355 : decode cL_law 1355 = .ok (.pop, 1) := by decide +kernel
theorem dL_law_1356 : decode cL_law 1356 = .ok (.goto 286, 3) := by decide +kernel
theorem dL_law_1359 : decode cL_law 1359 = .ok (.aload_n 1, 1) := by decide +kernel
theorem dL_law_1360 : decode cL_law 1360 = .ok (.invokevirtual 134, 3) := by decide +kernel
theorem dL_law_1363 : decode cL_law 1363 = .ok (.pop, 1) := by decide +kernel
theorem dL_law_1364 : decode cL_law 1364 = .ok (.aload_n 2, 1) := by decide +kernel
theorem dL_law_1365 : decode cL_law 1365 = .ok (.invokevirtual 137, 3) := by decide +kernel
theorem dL_law_1368 : decode cL_law 1368 = .ok (.pop, 1) := by decide +kernel
theorem dL_law_1369 : decode cL_law 1369 = .ok (.goto 273, 3) := by decide +kernel
theorem dL_law_1372 : decode cL_law 1372 = .ok (.aload_n 1, 1) := by decide +kernel
theorem dL_law_1373 : decode cL_law 1373 = .ok (.aload_n 0, 1) := by decide +kernel
theorem dL_law_1374 : decode cL_law 1374 = .ok (.iload_n 3, 1) := by decide +kernel
theorem dL_law_1375 : decode cL_law 1375 = .ok (.iconst 1, 1) := by decide +kernel
theorem dL_law_1376 : decode cL_law 1376 = .ok (.iadd, 1) := by decide +kernel
theorem dL_law_1377 : decode cL_law 1377 = .ok (.iaload, 1) := by decide +kernel
theorem dL_law_1378 : decode cL_law 1378 = .ok (.invokevirtual 138, 3) := by decide +kernel
theorem dL_law_1381 : decode cL_law 1381 = .ok (.pop, 1) := by decide +kernel
theorem dL_law_1382 : decode cL_law 1382 = .ok (.aload_n 2, 1) := by decide +kernel
theorem dL_law_1383 : decode cL_law 1383 = .ok (.aload_n 0, 1) := by decide +kernel
theorem dL_law_1384 : decode cL_law 1384 = .ok (.iload_n 3, 1) := by decide +kernel
theorem dL_law_1385 : decode cL_law 1385 = .ok (.iconst 1, 1) := by decide +kernel
theorem dL_law_1386 : decode cL_law 1386 = .ok (.iadd, 1) := by decide +kernel
theorem dL_law_1387 : decode cL_law 1387 = .ok (.iaload, 1) := by decide +kernel
theorem dL_law_1388 : decode cL_law 1388 = .ok (.invokevirtual 141, 3) := by decide +kernel
theorem dL_law_1391 : decode cL_law 1391 = .ok (.pop, 1) := by decide +kernel
theorem dL_law_1392 : decode cL_law 1392 = .ok (.goto 250, 3) := by decide +kernel
theorem dL_law_1395 : decode cL_law 1395 = .ok (.aload_n 1, 1) := by decide +kernel
theorem dL_law_1396 : decode cL_law 1396 = .ok (.aload_n 0, 1) := by decide +kernel
theorem dL_law_1397 : decode cL_law 1397 = .ok (.iload_n 3, 1) := by decide +kernel
theorem dL_law_1398 : decode cL_law 1398 = .ok (.iconst 1, 1) := by decide +kernel
theorem dL_law_1399 : decode cL_law 1399 = .ok (.iadd, 1) := by decide +kernel
theorem dL_law_1400 : decode cL_law 1400 = .ok (.iaload, 1) := by decide +kernel
theorem dL_law_1401 : decode cL_law 1401 = .ok (.invokevirtual 142, 3) := by decide +kernel
theorem dL_law_1404 : decode cL_law 1404 = .ok (.pop, 1) := by decide +kernel
theorem dL_law_1405 : decode cL_law 1405 = .ok (.aload_n 2, 1) := by decide +kernel
theorem dL_law_1406 : decode cL_law 1406 = .ok (.aload_n 0, 1) := by decide +kernel
theorem dL_law_1407 : decode cL_law 1407 = .ok (.iload_n 3, 1) := by decide +kernel
theorem dL_law_1408 : decode cL_law 1408 = .ok (.iconst 1, 1) := by decide +kernel
theorem dL_law_1409 : decode cL_law 1409 = .ok (.iadd, 1) := by decide +kernel
theorem dL_law_1410 : decode cL_law 1410 = .ok (.iaload, 1) := by decide +kernel
theorem dL_law_1411 : decode cL_law 1411 = .ok (.invokevirtual 145, 3) := by decide +kernel
theorem dL_law_1414 : decode cL_law 1414 = .ok (.pop, 1) := by decide +kernel
theorem dL_law_1415 : decode cL_law 1415 = .ok (.goto 227, 3) := by decide +kernel
set_option maxHeartbeats 4000000 in
set_option maxRecDepth 100000 in
theorem law_25 {p : Program} {l : Launch} {e : Env} {s : State} {m : MethodId} {below : List Frame} {meth : Method} {c : Code} {D : va_G} {k : KT} {A : Nat → Prop} {a : Nat → Nat} {z : SK} {b L : Nat} {xs : Nat → Int32} (hL : L ≤ 3072) (C0 : lw_At p s m meth c b L xs) (hK : cK D k s) (hZ : Sx A z s) (hbA : ¬ A b) (hA : ∀ q : Nat, s.heap.size ≤ q → A q) {G : GS} {i0 : Int32} (hi0 : 0 ≤ i0.toInt) (hi6 : i0.toInt + 6 ≤ L) (hI : LI G) (hB_G : Bd G) {H : Heap} {locs : List Loc} {ls : Array Slot} (hW : Wd D k A a G H) (hS : va_S A s.heap H locs) (hl : lv_has ls 4 [(0, .ref b), (1, .ref (a 0)), (2, .ref (a 66)), (3, .int i0)]) (K : ∀ (G1 : GS) (H1 : Heap) (locs1 : List Loc) (ls1 : Array Slot), LI G1 → Bd G1 → Wd D k A a G1 H1 → va_S A s.heap H1 locs1 → lv_has ls1 4 [(0, .ref b), (1, .ref (a 0)), (2, .ref (a 66)), (3, .int i0)] → W p l e room_1 s m #[Value.ref b] below meth c H1 locs1 119 46443 (lw_Z below #[Value.ref b] s) (F0 m 1642 ls1 [])) : W p l e room_1 s m #[Value.ref b] below meth c H locs 119 46443 (lw_Z below #[Value.ref b] s) (F0 m 1320 ls []) := by
  obtain ⟨hx, hb, hr, hml, hown, hts, hX, hbl, hlocks, hgv⟩ := id C0
  have hown : s.vm.findClass RL = some m.cls := hown
  have hgd : ∀ w ∈ gd, w ∈ lw_tbl := fun w h => (List.mem_filter.mp h).1
  have hg : ∀ w ∈ gd, w.before #[Value.ref b] s = true := fun w h => hts w (hgd w h)
  rcases hI with ⟨hv_0_0, hv_0_1, hv_6_4, hj0, hj1, hj2, hj3, hj4, hj5, hj6, hj7, hj8⟩ | ⟨hv_0_0, hv_0_1, hv_6_4, hj0, hj1, hj2, hj3, hj4, hj5, hj6, hj7, hj8⟩
  · skip
    refine lv_aload_n hx hb dL_law_1320 rfl (lv_at hl 1 rfl) ?_
    refine S_calli (va_runV (As := []) (rest := []) ⟨hx, hb, hml, hown, hts⟩ (k_Wrain l D k A a z G  ) (cwV 0 hts (gd_V hgd m1210 m1211 m1212 m117 m1213) rfl rfl rfl (by decide +kernel) ⟨Nat.le_of_ble_eq_true rfl, Nat.le_of_ble_eq_true rfl⟩) (pre_V hW hB_G hK hZ hS kd_0 rfl) rfl rfl hl.1 rfl (lv_room (Nat.le_of_ble_eq_true rfl)) dL_law_1321 ⟨Nat.le_of_ble_eq_true rfl, Nat.le_of_ble_eq_true rfl⟩) hS (fun r_1 G_2 H locs hpo hW hS => ?_)
    obtain ⟨hB_G_2, hq_3, f_5, hp_4⟩ := hpo
    refine lv_pop hx hb dL_law_1324 rfl ?_
    refine lv_aload_n hx hb dL_law_1325 rfl (lv_at hl 2 rfl) ?_
    have b_6 : 0 ≤ (G.1 66 78).toInt ∧ (G.1 66 78).toInt ≤ 40 := hB_G.i 66 78 rfl rfl
    have g_7 : (G_2.1 66 78).toInt = (G.1 66 78).toInt := by rw [show G_2.1 66 78 = (G.1 66 78) from (hq_3.i 66 78 (by decide) (by decide))]
    have b_8 : 0 ≤ (G.1 66 79).toInt ∧ (G.1 66 79).toInt ≤ 40 := hB_G.i 66 79 rfl rfl
    have g_9 : (G_2.1 66 79).toInt = (G.1 66 79).toInt := by rw [show G_2.1 66 79 = (G.1 66 79) from (hq_3.i 66 79 (by decide) (by decide))]
    refine S_calli (va_runV (As := []) (rest := []) ⟨hx, hb, hml, hown, hts⟩ (n_rain l D k A a z G_2  (by omega)) (cwV 0 hts (gd_V hgd m2011 m2012 m2013 m131 m2014) rfl rfl rfl (by decide +kernel) ⟨Nat.le_of_ble_eq_true rfl, Nat.le_of_ble_eq_true rfl⟩) (pre_V hW hB_G_2 hK hZ hS kd_66 rfl) rfl rfl hl.1 rfl (lv_room (Nat.le_of_ble_eq_true rfl)) dL_law_1326 ⟨Nat.le_of_ble_eq_true rfl, Nat.le_of_ble_eq_true rfl⟩) hS (fun r_10 G_11 H locs hpo hW hS => ?_)
    obtain ⟨hB_G_11, hq_12, f_14, hp_13⟩ := hpo
    refine lv_pop hx hb dL_law_1329 rfl ?_
    refine lv_goto (tgt := 1642) hx hb dL_law_1330 (by decide) ?_
    have g_15 : gO G_11 = gO G := gO_fr (rs := [58, 59, 110, 111]) (fs := [(30, 4), (30, 5), (66, 78), (66, 79)]) ((Fr.rf.call hq_3 (by decide) (by decide)).call hq_12 (by decide) (by decide)) (by decide) (by decide)
    have g_16 : gP G_11 = gP G := gP_fr (rs := [58, 59, 110, 111]) (fs := [(30, 4), (30, 5), (66, 78), (66, 79)]) ((Fr.rf.call hq_3 (by decide) (by decide)).call hq_12 (by decide) (by decide)) (by decide) (by decide)
    have g_17 : gS G_11 = gS G := gS_fr (rs := [58, 59, 110, 111]) (fs := [(30, 4), (30, 5), (66, 78), (66, 79)]) ((Fr.rf.call hq_3 (by decide) (by decide)).call hq_12 (by decide) (by decide)) (by decide) (by decide)
    have g_18 : gW G_11 = gW G := gW_fr (rs := [58, 59, 110, 111]) (fs := [(30, 4), (30, 5), (66, 78), (66, 79)]) ((Fr.rf.call hq_3 (by decide) (by decide)).call hq_12 (by decide) (by decide)) (by decide) (by decide)
    have b_19 : 0 ≤ (G.1 0 11).toInt ∧ (G.1 0 11).toInt ≤ 1600 := hB_G.i 0 11 rfl rfl
    have g_20 : (G_11.1 0 11).toInt = (G.1 0 11).toInt := by rw [show G_11.1 0 11 = (G.1 0 11) from ((hq_12.i 0 11 (by decide) (by decide)).trans (hq_3.i 0 11 (by decide) (by decide)))]
    have b_21 : 0 ≤ (G_2.1 30 4).toInt ∧ (G_2.1 30 4).toInt ≤ 40 := hB_G_2.i 30 4 rfl rfl
    have g_22 : (G_11.1 30 4).toInt = (G_2.1 30 4).toInt := by rw [show G_11.1 30 4 = (G_2.1 30 4) from (hq_12.i 30 4 (by decide) (by decide))]
    have b_23 : 0 ≤ (G_2.1 30 5).toInt ∧ (G_2.1 30 5).toInt ≤ 40 := hB_G_2.i 30 5 rfl rfl
    have g_24 : (G_11.1 30 5).toInt = (G_2.1 30 5).toInt := by rw [show G_11.1 30 5 = (G_2.1 30 5) from (hq_12.i 30 5 (by decide) (by decide))]
    have b_25 : 0 ≤ (G.1 31 6).toInt ∧ (G.1 31 6).toInt ≤ 100000 := hB_G.i 31 6 rfl rfl
    have g_26 : (G_11.1 31 6).toInt = (G.1 31 6).toInt := by rw [show G_11.1 31 6 = (G.1 31 6) from ((hq_12.i 31 6 (by decide) (by decide)).trans (hq_3.i 31 6 (by decide) (by decide)))]
    have b_27 : 0 ≤ (G.1 66 1).toInt ∧ (G.1 66 1).toInt ≤ 1600 := hB_G.i 66 1 rfl rfl
    have g_28 : (G_11.1 66 1).toInt = (G.1 66 1).toInt := by rw [show G_11.1 66 1 = (G.1 66 1) from ((hq_12.i 66 1 (by decide) (by decide)).trans (hq_3.i 66 1 (by decide) (by decide)))]
    have b_29 : 0 ≤ (G_11.1 66 78).toInt ∧ (G_11.1 66 78).toInt ≤ 40 := hB_G_11.i 66 78 rfl rfl
    have b_30 : 0 ≤ (G_11.1 66 79).toInt ∧ (G_11.1 66 79).toInt ≤ 40 := hB_G_11.i 66 79 rfl rfl
    have b_31 : 0 ≤ (G.1 66 86).toInt ∧ (G.1 66 86).toInt ≤ 100000 := hB_G.i 66 86 rfl rfl
    have g_32 : (G_11.1 66 86).toInt = (G.1 66 86).toInt := by rw [show G_11.1 66 86 = (G.1 66 86) from ((hq_12.i 66 86 (by decide) (by decide)).trans (hq_3.i 66 86 (by decide) (by decide)))]
    have b_33 : 0 ≤ (G.1 96 0).toInt ∧ (G.1 96 0).toInt ≤ 9 := hB_G.i 96 0 rfl rfl
    have g_34 : (G_11.1 96 0).toInt = (G.1 96 0).toInt := by rw [show G_11.1 96 0 = (G.1 96 0) from ((hq_12.i 96 0 (by decide) (by decide)).trans (hq_3.i 96 0 (by decide) (by decide)))]
    have b_35 : 0 ≤ (G.1 96 1).toInt ∧ (G.1 96 1).toInt ≤ 9 := hB_G.i 96 1 rfl rfl
    have g_36 : (G_11.1 96 1).toInt = (G.1 96 1).toInt := by rw [show G_11.1 96 1 = (G.1 96 1) from ((hq_12.i 96 1 (by decide) (by decide)).trans (hq_3.i 96 1 (by decide) (by decide)))]
    have b_37 : 0 ≤ (G.1 96 2).toInt ∧ (G.1 96 2).toInt ≤ 9 := hB_G.i 96 2 rfl rfl
    have g_38 : (G_11.1 96 2).toInt = (G.1 96 2).toInt := by rw [show G_11.1 96 2 = (G.1 96 2) from ((hq_12.i 96 2 (by decide) (by decide)).trans (hq_3.i 96 2 (by decide) (by decide)))]
    exact K G_11 _ _ _ (Or.inl ⟨((((hq_12.r 0 0 (by decide) (by decide)).trans (hq_3.r 0 0 (by decide) (by decide)))).trans (hv_0_0)), ((((hq_12.r 0 1 (by decide) (by decide)).trans (hq_3.r 0 1 (by decide) (by decide)))).trans (hv_0_1)), ((((hq_12.r 6 4 (by decide) (by decide)).trans (hq_3.r 6 4 (by decide) (by decide)))).trans (hv_6_4)), by omega, by omega, by omega, by omega, by omega, by omega, by omega, by omega, by omega⟩) hB_G_11 hW hS (lv_sub hl [0, 1, 2, 3] rfl)
  · skip
    refine lv_aload_n hx hb dL_law_1320 rfl (lv_at hl 1 rfl) ?_
    refine S_calli (va_runV (As := []) (rest := []) ⟨hx, hb, hml, hown, hts⟩ (k_Wrain l D k A a z G  ) (cwV 0 hts (gd_V hgd m1210 m1211 m1212 m117 m1213) rfl rfl rfl (by decide +kernel) ⟨Nat.le_of_ble_eq_true rfl, Nat.le_of_ble_eq_true rfl⟩) (pre_V hW hB_G hK hZ hS kd_0 rfl) rfl rfl hl.1 rfl (lv_room (Nat.le_of_ble_eq_true rfl)) dL_law_1321 ⟨Nat.le_of_ble_eq_true rfl, Nat.le_of_ble_eq_true rfl⟩) hS (fun r_1 G_2 H locs hpo hW hS => ?_)
    obtain ⟨hB_G_2, hq_3, f_5, hp_4⟩ := hpo
    refine lv_pop hx hb dL_law_1324 rfl ?_
    refine lv_aload_n hx hb dL_law_1325 rfl (lv_at hl 2 rfl) ?_
    have b_6 : 0 ≤ (G.1 66 78).toInt ∧ (G.1 66 78).toInt ≤ 40 := hB_G.i 66 78 rfl rfl
    have g_7 : (G_2.1 66 78).toInt = (G.1 66 78).toInt := by rw [show G_2.1 66 78 = (G.1 66 78) from (hq_3.i 66 78 (by decide) (by decide))]
    have b_8 : 0 ≤ (G.1 66 79).toInt ∧ (G.1 66 79).toInt ≤ 40 := hB_G.i 66 79 rfl rfl
    have g_9 : (G_2.1 66 79).toInt = (G.1 66 79).toInt := by rw [show G_2.1 66 79 = (G.1 66 79) from (hq_3.i 66 79 (by decide) (by decide))]
    refine S_calli (va_runV (As := []) (rest := []) ⟨hx, hb, hml, hown, hts⟩ (n_rain l D k A a z G_2  (by omega)) (cwV 0 hts (gd_V hgd m2011 m2012 m2013 m131 m2014) rfl rfl rfl (by decide +kernel) ⟨Nat.le_of_ble_eq_true rfl, Nat.le_of_ble_eq_true rfl⟩) (pre_V hW hB_G_2 hK hZ hS kd_66 rfl) rfl rfl hl.1 rfl (lv_room (Nat.le_of_ble_eq_true rfl)) dL_law_1326 ⟨Nat.le_of_ble_eq_true rfl, Nat.le_of_ble_eq_true rfl⟩) hS (fun r_10 G_11 H locs hpo hW hS => ?_)
    obtain ⟨hB_G_11, hq_12, f_14, hp_13⟩ := hpo
    refine lv_pop hx hb dL_law_1329 rfl ?_
    refine lv_goto (tgt := 1642) hx hb dL_law_1330 (by decide) ?_
    have g_15 : gO G_11 = gO G := gO_fr (rs := [58, 59, 110, 111]) (fs := [(30, 4), (30, 5), (66, 78), (66, 79)]) ((Fr.rf.call hq_3 (by decide) (by decide)).call hq_12 (by decide) (by decide)) (by decide) (by decide)
    have g_16 : gP G_11 = gP G := gP_fr (rs := [58, 59, 110, 111]) (fs := [(30, 4), (30, 5), (66, 78), (66, 79)]) ((Fr.rf.call hq_3 (by decide) (by decide)).call hq_12 (by decide) (by decide)) (by decide) (by decide)
    have g_17 : gS G_11 = gS G := gS_fr (rs := [58, 59, 110, 111]) (fs := [(30, 4), (30, 5), (66, 78), (66, 79)]) ((Fr.rf.call hq_3 (by decide) (by decide)).call hq_12 (by decide) (by decide)) (by decide) (by decide)
    have g_18 : gW G_11 = gW G := gW_fr (rs := [58, 59, 110, 111]) (fs := [(30, 4), (30, 5), (66, 78), (66, 79)]) ((Fr.rf.call hq_3 (by decide) (by decide)).call hq_12 (by decide) (by decide)) (by decide) (by decide)
    have b_19 : 0 ≤ (G.1 0 11).toInt ∧ (G.1 0 11).toInt ≤ 1600 := hB_G.i 0 11 rfl rfl
    have g_20 : (G_11.1 0 11).toInt = (G.1 0 11).toInt := by rw [show G_11.1 0 11 = (G.1 0 11) from ((hq_12.i 0 11 (by decide) (by decide)).trans (hq_3.i 0 11 (by decide) (by decide)))]
    have b_21 : 0 ≤ (G_2.1 30 4).toInt ∧ (G_2.1 30 4).toInt ≤ 40 := hB_G_2.i 30 4 rfl rfl
    have g_22 : (G_11.1 30 4).toInt = (G_2.1 30 4).toInt := by rw [show G_11.1 30 4 = (G_2.1 30 4) from (hq_12.i 30 4 (by decide) (by decide))]
    have b_23 : 0 ≤ (G_2.1 30 5).toInt ∧ (G_2.1 30 5).toInt ≤ 40 := hB_G_2.i 30 5 rfl rfl
    have g_24 : (G_11.1 30 5).toInt = (G_2.1 30 5).toInt := by rw [show G_11.1 30 5 = (G_2.1 30 5) from (hq_12.i 30 5 (by decide) (by decide))]
    have b_25 : 0 ≤ (G.1 31 6).toInt ∧ (G.1 31 6).toInt ≤ 100000 := hB_G.i 31 6 rfl rfl
    have g_26 : (G_11.1 31 6).toInt = (G.1 31 6).toInt := by rw [show G_11.1 31 6 = (G.1 31 6) from ((hq_12.i 31 6 (by decide) (by decide)).trans (hq_3.i 31 6 (by decide) (by decide)))]
    have b_27 : 0 ≤ (G.1 66 1).toInt ∧ (G.1 66 1).toInt ≤ 1600 := hB_G.i 66 1 rfl rfl
    have g_28 : (G_11.1 66 1).toInt = (G.1 66 1).toInt := by rw [show G_11.1 66 1 = (G.1 66 1) from ((hq_12.i 66 1 (by decide) (by decide)).trans (hq_3.i 66 1 (by decide) (by decide)))]
    have b_29 : 0 ≤ (G_11.1 66 78).toInt ∧ (G_11.1 66 78).toInt ≤ 40 := hB_G_11.i 66 78 rfl rfl
    have b_30 : 0 ≤ (G_11.1 66 79).toInt ∧ (G_11.1 66 79).toInt ≤ 40 := hB_G_11.i 66 79 rfl rfl
    have b_31 : 0 ≤ (G.1 66 86).toInt ∧ (G.1 66 86).toInt ≤ 100000 := hB_G.i 66 86 rfl rfl
    have g_32 : (G_11.1 66 86).toInt = (G.1 66 86).toInt := by rw [show G_11.1 66 86 = (G.1 66 86) from ((hq_12.i 66 86 (by decide) (by decide)).trans (hq_3.i 66 86 (by decide) (by decide)))]
    have b_33 : 0 ≤ (G.1 96 0).toInt ∧ (G.1 96 0).toInt ≤ 9 := hB_G.i 96 0 rfl rfl
    have g_34 : (G_11.1 96 0).toInt = (G.1 96 0).toInt := by rw [show G_11.1 96 0 = (G.1 96 0) from ((hq_12.i 96 0 (by decide) (by decide)).trans (hq_3.i 96 0 (by decide) (by decide)))]
    have b_35 : 0 ≤ (G.1 96 1).toInt ∧ (G.1 96 1).toInt ≤ 9 := hB_G.i 96 1 rfl rfl
    have g_36 : (G_11.1 96 1).toInt = (G.1 96 1).toInt := by rw [show G_11.1 96 1 = (G.1 96 1) from ((hq_12.i 96 1 (by decide) (by decide)).trans (hq_3.i 96 1 (by decide) (by decide)))]
    have b_37 : 0 ≤ (G.1 96 2).toInt ∧ (G.1 96 2).toInt ≤ 9 := hB_G.i 96 2 rfl rfl
    have g_38 : (G_11.1 96 2).toInt = (G.1 96 2).toInt := by rw [show G_11.1 96 2 = (G.1 96 2) from ((hq_12.i 96 2 (by decide) (by decide)).trans (hq_3.i 96 2 (by decide) (by decide)))]
    exact K G_11 _ _ _ (Or.inr ⟨((((hq_12.r 0 0 (by decide) (by decide)).trans (hq_3.r 0 0 (by decide) (by decide)))).trans (hv_0_0)), ((((hq_12.r 0 1 (by decide) (by decide)).trans (hq_3.r 0 1 (by decide) (by decide)))).trans (hv_0_1)), ((((hq_12.r 6 4 (by decide) (by decide)).trans (hq_3.r 6 4 (by decide) (by decide)))).trans (hv_6_4)), by omega, by omega, by omega, by omega, by omega, by omega, by omega, by omega, by omega⟩) hB_G_11 hW hS (lv_sub hl [0, 1, 2, 3] rfl)

set_option maxHeartbeats 4000000 in
set_option maxRecDepth 100000 in
theorem law_26 {p : Program} {l : Launch} {e : Env} {s : State} {m : MethodId} {below : List Frame} {meth : Method} {c : Code} {D : va_G} {k : KT} {A : Nat → Prop} {a : Nat → Nat} {z : SK} {b L : Nat} {xs : Nat → Int32} (hL : L ≤ 3072) (C0 : lw_At p s m meth c b L xs) (hK : cK D k s) (hZ : Sx A z s) (hbA : ¬ A b) (hA : ∀ q : Nat, s.heap.size ≤ q → A q) {G : GS} {i0 : Int32} (hi0 : 0 ≤ i0.toInt) (hi6 : i0.toInt + 6 ≤ L) (hI : LI G) (hB_G : Bd G) {H : Heap} {locs : List Loc} {ls : Array Slot} (hW : Wd D k A a G H) (hS : va_S A s.heap H locs) (hl : lv_has ls 4 [(0, .ref b), (1, .ref (a 0)), (2, .ref (a 66)), (3, .int i0)]) (K : ∀ (G1 : GS) (H1 : Heap) (locs1 : List Loc) (ls1 : Array Slot), LI G1 → Bd G1 → Wd D k A a G1 H1 → va_S A s.heap H1 locs1 → lv_has ls1 4 [(0, .ref b), (1, .ref (a 0)), (2, .ref (a 66)), (3, .int i0)] → W p l e room_1 s m #[Value.ref b] below meth c H1 locs1 119 46443 (lw_Z below #[Value.ref b] s) (F0 m 1642 ls1 [])) : W p l e room_1 s m #[Value.ref b] below meth c H locs 119 46443 (lw_Z below #[Value.ref b] s) (F0 m 1333 ls []) := by
  obtain ⟨hx, hb, hr, hml, hown, hts, hX, hbl, hlocks, hgv⟩ := id C0
  have hown : s.vm.findClass RL = some m.cls := hown
  have hgd : ∀ w ∈ gd, w ∈ lw_tbl := fun w h => (List.mem_filter.mp h).1
  have hg : ∀ w ∈ gd, w.before #[Value.ref b] s = true := fun w h => hts w (hgd w h)
  rcases hI with ⟨hv_0_0, hv_0_1, hv_6_4, hj0, hj1, hj2, hj3, hj4, hj5, hj6, hj7, hj8⟩ | ⟨hv_0_0, hv_0_1, hv_6_4, hj0, hj1, hj2, hj3, hj4, hj5, hj6, hj7, hj8⟩
  · skip
    refine lv_aload_n hx hb dL_law_1333 rfl (lv_at hl 1 rfl) ?_
    have b_1 : 0 ≤ (G.1 30 4).toInt ∧ (G.1 30 4).toInt ≤ 40 := hB_G.i 30 4 rfl rfl
    have b_2 : 0 ≤ (G.1 30 5).toInt ∧ (G.1 30 5).toInt ≤ 40 := hB_G.i 30 5 rfl rfl
    refine S_calli (va_runV (As := []) (rest := []) ⟨hx, hb, hml, hown, hts⟩ (k_Wday l D k A a z G  (by omega)) (cwV 0 hts (gd_V hgd m1214 m1215 m1216 m117 m1217) rfl rfl rfl (by decide +kernel) ⟨Nat.le_of_ble_eq_true rfl, Nat.le_of_ble_eq_true rfl⟩) (pre_V hW hB_G hK hZ hS kd_0 rfl) rfl rfl hl.1 rfl (lv_room (Nat.le_of_ble_eq_true rfl)) dL_law_1334 ⟨Nat.le_of_ble_eq_true rfl, Nat.le_of_ble_eq_true rfl⟩) hS (fun r_3 G_4 H locs hpo hW hS => ?_)
    obtain ⟨hB_G_4, hq_5, hp_6⟩ := hpo
    refine lv_pop hx hb dL_law_1337 rfl ?_
    refine lv_aload_n hx hb dL_law_1338 rfl (lv_at hl 2 rfl) ?_
    have b_7 : 0 ≤ (G.1 66 78).toInt ∧ (G.1 66 78).toInt ≤ 40 := hB_G.i 66 78 rfl rfl
    have g_8 : (G_4.1 66 78).toInt = (G.1 66 78).toInt := by rw [show G_4.1 66 78 = (G.1 66 78) from (hq_5.i 66 78 (by decide) (by decide))]
    have b_9 : 0 ≤ (G.1 66 79).toInt ∧ (G.1 66 79).toInt ≤ 40 := hB_G.i 66 79 rfl rfl
    have g_10 : (G_4.1 66 79).toInt = (G.1 66 79).toInt := by rw [show G_4.1 66 79 = (G.1 66 79) from (hq_5.i 66 79 (by decide) (by decide))]
    refine S_calli (va_runV (As := []) (rest := []) ⟨hx, hb, hml, hown, hts⟩ (n_day l D k A a z G_4  (by omega)) (cwV 0 hts (gd_V hgd m2015 m2016 m2017 m131 m2018) rfl rfl rfl (by decide +kernel) ⟨Nat.le_of_ble_eq_true rfl, Nat.le_of_ble_eq_true rfl⟩) (pre_V hW hB_G_4 hK hZ hS kd_66 rfl) rfl rfl hl.1 rfl (lv_room (Nat.le_of_ble_eq_true rfl)) dL_law_1339 ⟨Nat.le_of_ble_eq_true rfl, Nat.le_of_ble_eq_true rfl⟩) hS (fun r_11 G_12 H locs hpo hW hS => ?_)
    obtain ⟨hB_G_12, hq_13, hp_14⟩ := hpo
    refine lv_pop hx hb dL_law_1342 rfl ?_
    refine lv_goto (tgt := 1642) hx hb dL_law_1343 (by decide) ?_
    have g_15 : gO G_12 = gO G := gO_fr (rs := [58, 59, 110, 111]) (fs := [(30, 4), (30, 5), (66, 78), (66, 79)]) ((Fr.rf.call hq_5 (by decide) (by decide)).call hq_13 (by decide) (by decide)) (by decide) (by decide)
    have g_16 : gP G_12 = gP G := gP_fr (rs := [58, 59, 110, 111]) (fs := [(30, 4), (30, 5), (66, 78), (66, 79)]) ((Fr.rf.call hq_5 (by decide) (by decide)).call hq_13 (by decide) (by decide)) (by decide) (by decide)
    have g_17 : gS G_12 = gS G := gS_fr (rs := [58, 59, 110, 111]) (fs := [(30, 4), (30, 5), (66, 78), (66, 79)]) ((Fr.rf.call hq_5 (by decide) (by decide)).call hq_13 (by decide) (by decide)) (by decide) (by decide)
    have g_18 : gW G_12 = gW G := gW_fr (rs := [58, 59, 110, 111]) (fs := [(30, 4), (30, 5), (66, 78), (66, 79)]) ((Fr.rf.call hq_5 (by decide) (by decide)).call hq_13 (by decide) (by decide)) (by decide) (by decide)
    have b_19 : 0 ≤ (G.1 0 11).toInt ∧ (G.1 0 11).toInt ≤ 1600 := hB_G.i 0 11 rfl rfl
    have g_20 : (G_12.1 0 11).toInt = (G.1 0 11).toInt := by rw [show G_12.1 0 11 = (G.1 0 11) from ((hq_13.i 0 11 (by decide) (by decide)).trans (hq_5.i 0 11 (by decide) (by decide)))]
    have b_21 : 0 ≤ (G_4.1 30 4).toInt ∧ (G_4.1 30 4).toInt ≤ 40 := hB_G_4.i 30 4 rfl rfl
    have g_22 : (G_12.1 30 4).toInt = (G_4.1 30 4).toInt := by rw [show G_12.1 30 4 = (G_4.1 30 4) from (hq_13.i 30 4 (by decide) (by decide))]
    have b_23 : 0 ≤ (G_4.1 30 5).toInt ∧ (G_4.1 30 5).toInt ≤ 40 := hB_G_4.i 30 5 rfl rfl
    have g_24 : (G_12.1 30 5).toInt = (G_4.1 30 5).toInt := by rw [show G_12.1 30 5 = (G_4.1 30 5) from (hq_13.i 30 5 (by decide) (by decide))]
    have b_25 : 0 ≤ (G.1 31 6).toInt ∧ (G.1 31 6).toInt ≤ 100000 := hB_G.i 31 6 rfl rfl
    have g_26 : (G_12.1 31 6).toInt = (G.1 31 6).toInt := by rw [show G_12.1 31 6 = (G.1 31 6) from ((hq_13.i 31 6 (by decide) (by decide)).trans (hq_5.i 31 6 (by decide) (by decide)))]
    have b_27 : 0 ≤ (G.1 66 1).toInt ∧ (G.1 66 1).toInt ≤ 1600 := hB_G.i 66 1 rfl rfl
    have g_28 : (G_12.1 66 1).toInt = (G.1 66 1).toInt := by rw [show G_12.1 66 1 = (G.1 66 1) from ((hq_13.i 66 1 (by decide) (by decide)).trans (hq_5.i 66 1 (by decide) (by decide)))]
    have b_29 : 0 ≤ (G_12.1 66 78).toInt ∧ (G_12.1 66 78).toInt ≤ 40 := hB_G_12.i 66 78 rfl rfl
    have b_30 : 0 ≤ (G_12.1 66 79).toInt ∧ (G_12.1 66 79).toInt ≤ 40 := hB_G_12.i 66 79 rfl rfl
    have b_31 : 0 ≤ (G.1 66 86).toInt ∧ (G.1 66 86).toInt ≤ 100000 := hB_G.i 66 86 rfl rfl
    have g_32 : (G_12.1 66 86).toInt = (G.1 66 86).toInt := by rw [show G_12.1 66 86 = (G.1 66 86) from ((hq_13.i 66 86 (by decide) (by decide)).trans (hq_5.i 66 86 (by decide) (by decide)))]
    have b_33 : 0 ≤ (G.1 96 0).toInt ∧ (G.1 96 0).toInt ≤ 9 := hB_G.i 96 0 rfl rfl
    have g_34 : (G_12.1 96 0).toInt = (G.1 96 0).toInt := by rw [show G_12.1 96 0 = (G.1 96 0) from ((hq_13.i 96 0 (by decide) (by decide)).trans (hq_5.i 96 0 (by decide) (by decide)))]
    have b_35 : 0 ≤ (G.1 96 1).toInt ∧ (G.1 96 1).toInt ≤ 9 := hB_G.i 96 1 rfl rfl
    have g_36 : (G_12.1 96 1).toInt = (G.1 96 1).toInt := by rw [show G_12.1 96 1 = (G.1 96 1) from ((hq_13.i 96 1 (by decide) (by decide)).trans (hq_5.i 96 1 (by decide) (by decide)))]
    have b_37 : 0 ≤ (G.1 96 2).toInt ∧ (G.1 96 2).toInt ≤ 9 := hB_G.i 96 2 rfl rfl
    have g_38 : (G_12.1 96 2).toInt = (G.1 96 2).toInt := by rw [show G_12.1 96 2 = (G.1 96 2) from ((hq_13.i 96 2 (by decide) (by decide)).trans (hq_5.i 96 2 (by decide) (by decide)))]
    exact K G_12 _ _ _ (Or.inl ⟨((((hq_13.r 0 0 (by decide) (by decide)).trans (hq_5.r 0 0 (by decide) (by decide)))).trans (hv_0_0)), ((((hq_13.r 0 1 (by decide) (by decide)).trans (hq_5.r 0 1 (by decide) (by decide)))).trans (hv_0_1)), ((((hq_13.r 6 4 (by decide) (by decide)).trans (hq_5.r 6 4 (by decide) (by decide)))).trans (hv_6_4)), by omega, by omega, by omega, by omega, by omega, by omega, by omega, by omega, by omega⟩) hB_G_12 hW hS (lv_sub hl [0, 1, 2, 3] rfl)
  · skip
    refine lv_aload_n hx hb dL_law_1333 rfl (lv_at hl 1 rfl) ?_
    have b_1 : 0 ≤ (G.1 30 4).toInt ∧ (G.1 30 4).toInt ≤ 40 := hB_G.i 30 4 rfl rfl
    have b_2 : 0 ≤ (G.1 30 5).toInt ∧ (G.1 30 5).toInt ≤ 40 := hB_G.i 30 5 rfl rfl
    refine S_calli (va_runV (As := []) (rest := []) ⟨hx, hb, hml, hown, hts⟩ (k_Wday l D k A a z G  (by omega)) (cwV 0 hts (gd_V hgd m1214 m1215 m1216 m117 m1217) rfl rfl rfl (by decide +kernel) ⟨Nat.le_of_ble_eq_true rfl, Nat.le_of_ble_eq_true rfl⟩) (pre_V hW hB_G hK hZ hS kd_0 rfl) rfl rfl hl.1 rfl (lv_room (Nat.le_of_ble_eq_true rfl)) dL_law_1334 ⟨Nat.le_of_ble_eq_true rfl, Nat.le_of_ble_eq_true rfl⟩) hS (fun r_3 G_4 H locs hpo hW hS => ?_)
    obtain ⟨hB_G_4, hq_5, hp_6⟩ := hpo
    refine lv_pop hx hb dL_law_1337 rfl ?_
    refine lv_aload_n hx hb dL_law_1338 rfl (lv_at hl 2 rfl) ?_
    have b_7 : 0 ≤ (G.1 66 78).toInt ∧ (G.1 66 78).toInt ≤ 40 := hB_G.i 66 78 rfl rfl
    have g_8 : (G_4.1 66 78).toInt = (G.1 66 78).toInt := by rw [show G_4.1 66 78 = (G.1 66 78) from (hq_5.i 66 78 (by decide) (by decide))]
    have b_9 : 0 ≤ (G.1 66 79).toInt ∧ (G.1 66 79).toInt ≤ 40 := hB_G.i 66 79 rfl rfl
    have g_10 : (G_4.1 66 79).toInt = (G.1 66 79).toInt := by rw [show G_4.1 66 79 = (G.1 66 79) from (hq_5.i 66 79 (by decide) (by decide))]
    refine S_calli (va_runV (As := []) (rest := []) ⟨hx, hb, hml, hown, hts⟩ (n_day l D k A a z G_4  (by omega)) (cwV 0 hts (gd_V hgd m2015 m2016 m2017 m131 m2018) rfl rfl rfl (by decide +kernel) ⟨Nat.le_of_ble_eq_true rfl, Nat.le_of_ble_eq_true rfl⟩) (pre_V hW hB_G_4 hK hZ hS kd_66 rfl) rfl rfl hl.1 rfl (lv_room (Nat.le_of_ble_eq_true rfl)) dL_law_1339 ⟨Nat.le_of_ble_eq_true rfl, Nat.le_of_ble_eq_true rfl⟩) hS (fun r_11 G_12 H locs hpo hW hS => ?_)
    obtain ⟨hB_G_12, hq_13, hp_14⟩ := hpo
    refine lv_pop hx hb dL_law_1342 rfl ?_
    refine lv_goto (tgt := 1642) hx hb dL_law_1343 (by decide) ?_
    have g_15 : gO G_12 = gO G := gO_fr (rs := [58, 59, 110, 111]) (fs := [(30, 4), (30, 5), (66, 78), (66, 79)]) ((Fr.rf.call hq_5 (by decide) (by decide)).call hq_13 (by decide) (by decide)) (by decide) (by decide)
    have g_16 : gP G_12 = gP G := gP_fr (rs := [58, 59, 110, 111]) (fs := [(30, 4), (30, 5), (66, 78), (66, 79)]) ((Fr.rf.call hq_5 (by decide) (by decide)).call hq_13 (by decide) (by decide)) (by decide) (by decide)
    have g_17 : gS G_12 = gS G := gS_fr (rs := [58, 59, 110, 111]) (fs := [(30, 4), (30, 5), (66, 78), (66, 79)]) ((Fr.rf.call hq_5 (by decide) (by decide)).call hq_13 (by decide) (by decide)) (by decide) (by decide)
    have g_18 : gW G_12 = gW G := gW_fr (rs := [58, 59, 110, 111]) (fs := [(30, 4), (30, 5), (66, 78), (66, 79)]) ((Fr.rf.call hq_5 (by decide) (by decide)).call hq_13 (by decide) (by decide)) (by decide) (by decide)
    have b_19 : 0 ≤ (G.1 0 11).toInt ∧ (G.1 0 11).toInt ≤ 1600 := hB_G.i 0 11 rfl rfl
    have g_20 : (G_12.1 0 11).toInt = (G.1 0 11).toInt := by rw [show G_12.1 0 11 = (G.1 0 11) from ((hq_13.i 0 11 (by decide) (by decide)).trans (hq_5.i 0 11 (by decide) (by decide)))]
    have b_21 : 0 ≤ (G_4.1 30 4).toInt ∧ (G_4.1 30 4).toInt ≤ 40 := hB_G_4.i 30 4 rfl rfl
    have g_22 : (G_12.1 30 4).toInt = (G_4.1 30 4).toInt := by rw [show G_12.1 30 4 = (G_4.1 30 4) from (hq_13.i 30 4 (by decide) (by decide))]
    have b_23 : 0 ≤ (G_4.1 30 5).toInt ∧ (G_4.1 30 5).toInt ≤ 40 := hB_G_4.i 30 5 rfl rfl
    have g_24 : (G_12.1 30 5).toInt = (G_4.1 30 5).toInt := by rw [show G_12.1 30 5 = (G_4.1 30 5) from (hq_13.i 30 5 (by decide) (by decide))]
    have b_25 : 0 ≤ (G.1 31 6).toInt ∧ (G.1 31 6).toInt ≤ 100000 := hB_G.i 31 6 rfl rfl
    have g_26 : (G_12.1 31 6).toInt = (G.1 31 6).toInt := by rw [show G_12.1 31 6 = (G.1 31 6) from ((hq_13.i 31 6 (by decide) (by decide)).trans (hq_5.i 31 6 (by decide) (by decide)))]
    have b_27 : 0 ≤ (G.1 66 1).toInt ∧ (G.1 66 1).toInt ≤ 1600 := hB_G.i 66 1 rfl rfl
    have g_28 : (G_12.1 66 1).toInt = (G.1 66 1).toInt := by rw [show G_12.1 66 1 = (G.1 66 1) from ((hq_13.i 66 1 (by decide) (by decide)).trans (hq_5.i 66 1 (by decide) (by decide)))]
    have b_29 : 0 ≤ (G_12.1 66 78).toInt ∧ (G_12.1 66 78).toInt ≤ 40 := hB_G_12.i 66 78 rfl rfl
    have b_30 : 0 ≤ (G_12.1 66 79).toInt ∧ (G_12.1 66 79).toInt ≤ 40 := hB_G_12.i 66 79 rfl rfl
    have b_31 : 0 ≤ (G.1 66 86).toInt ∧ (G.1 66 86).toInt ≤ 100000 := hB_G.i 66 86 rfl rfl
    have g_32 : (G_12.1 66 86).toInt = (G.1 66 86).toInt := by rw [show G_12.1 66 86 = (G.1 66 86) from ((hq_13.i 66 86 (by decide) (by decide)).trans (hq_5.i 66 86 (by decide) (by decide)))]
    have b_33 : 0 ≤ (G.1 96 0).toInt ∧ (G.1 96 0).toInt ≤ 9 := hB_G.i 96 0 rfl rfl
    have g_34 : (G_12.1 96 0).toInt = (G.1 96 0).toInt := by rw [show G_12.1 96 0 = (G.1 96 0) from ((hq_13.i 96 0 (by decide) (by decide)).trans (hq_5.i 96 0 (by decide) (by decide)))]
    have b_35 : 0 ≤ (G.1 96 1).toInt ∧ (G.1 96 1).toInt ≤ 9 := hB_G.i 96 1 rfl rfl
    have g_36 : (G_12.1 96 1).toInt = (G.1 96 1).toInt := by rw [show G_12.1 96 1 = (G.1 96 1) from ((hq_13.i 96 1 (by decide) (by decide)).trans (hq_5.i 96 1 (by decide) (by decide)))]
    have b_37 : 0 ≤ (G.1 96 2).toInt ∧ (G.1 96 2).toInt ≤ 9 := hB_G.i 96 2 rfl rfl
    have g_38 : (G_12.1 96 2).toInt = (G.1 96 2).toInt := by rw [show G_12.1 96 2 = (G.1 96 2) from ((hq_13.i 96 2 (by decide) (by decide)).trans (hq_5.i 96 2 (by decide) (by decide)))]
    exact K G_12 _ _ _ (Or.inr ⟨((((hq_13.r 0 0 (by decide) (by decide)).trans (hq_5.r 0 0 (by decide) (by decide)))).trans (hv_0_0)), ((((hq_13.r 0 1 (by decide) (by decide)).trans (hq_5.r 0 1 (by decide) (by decide)))).trans (hv_0_1)), ((((hq_13.r 6 4 (by decide) (by decide)).trans (hq_5.r 6 4 (by decide) (by decide)))).trans (hv_6_4)), by omega, by omega, by omega, by omega, by omega, by omega, by omega, by omega, by omega⟩) hB_G_12 hW hS (lv_sub hl [0, 1, 2, 3] rfl)

set_option maxHeartbeats 4000000 in
set_option maxRecDepth 100000 in
theorem law_27 {p : Program} {l : Launch} {e : Env} {s : State} {m : MethodId} {below : List Frame} {meth : Method} {c : Code} {D : va_G} {k : KT} {A : Nat → Prop} {a : Nat → Nat} {z : SK} {b L : Nat} {xs : Nat → Int32} (hL : L ≤ 3072) (C0 : lw_At p s m meth c b L xs) (hK : cK D k s) (hZ : Sx A z s) (hbA : ¬ A b) (hA : ∀ q : Nat, s.heap.size ≤ q → A q) {G : GS} {i0 : Int32} (hi0 : 0 ≤ i0.toInt) (hi6 : i0.toInt + 6 ≤ L) (hI : LI G) (hB_G : Bd G) {H : Heap} {locs : List Loc} {ls : Array Slot} (hW : Wd D k A a G H) (hS : va_S A s.heap H locs) (hl : lv_has ls 4 [(0, .ref b), (1, .ref (a 0)), (2, .ref (a 66)), (3, .int i0)]) (K : ∀ (G1 : GS) (H1 : Heap) (locs1 : List Loc) (ls1 : Array Slot), LI G1 → Bd G1 → Wd D k A a G1 H1 → va_S A s.heap H1 locs1 → lv_has ls1 4 [(0, .ref b), (1, .ref (a 0)), (2, .ref (a 66)), (3, .int i0)] → W p l e room_1 s m #[Value.ref b] below meth c H1 locs1 119 46443 (lw_Z below #[Value.ref b] s) (F0 m 1642 ls1 [])) : W p l e room_1 s m #[Value.ref b] below meth c H locs 119 46443 (lw_Z below #[Value.ref b] s) (F0 m 1346 ls []) := by
  obtain ⟨hx, hb, hr, hml, hown, hts, hX, hbl, hlocks, hgv⟩ := id C0
  have hown : s.vm.findClass RL = some m.cls := hown
  have hgd : ∀ w ∈ gd, w ∈ lw_tbl := fun w h => (List.mem_filter.mp h).1
  have hg : ∀ w ∈ gd, w.before #[Value.ref b] s = true := fun w h => hts w (hgd w h)
  rcases hI with ⟨hv_0_0, hv_0_1, hv_6_4, hj0, hj1, hj2, hj3, hj4, hj5, hj6, hj7, hj8⟩ | ⟨hv_0_0, hv_0_1, hv_6_4, hj0, hj1, hj2, hj3, hj4, hj5, hj6, hj7, hj8⟩
  · skip
    refine lv_aload_n hx hb dL_law_1346 rfl (lv_at hl 1 rfl) ?_
    have b_1 : 0 ≤ (G.1 30 4).toInt ∧ (G.1 30 4).toInt ≤ 40 := hB_G.i 30 4 rfl rfl
    have b_2 : 0 ≤ (G.1 30 5).toInt ∧ (G.1 30 5).toInt ≤ 40 := hB_G.i 30 5 rfl rfl
    refine S_calli (va_runV (As := []) (rest := []) ⟨hx, hb, hml, hown, hts⟩ (k_Wundo l D k A a z G  (by omega)) (cwV 0 hts (gd_V hgd m1218 m1219 m1220 m117 m1221) rfl rfl rfl (by decide +kernel) ⟨Nat.le_of_ble_eq_true rfl, Nat.le_of_ble_eq_true rfl⟩) (pre_V hW hB_G hK hZ hS kd_0 rfl) rfl rfl hl.1 rfl (lv_room (Nat.le_of_ble_eq_true rfl)) dL_law_1347 ⟨Nat.le_of_ble_eq_true rfl, Nat.le_of_ble_eq_true rfl⟩) hS (fun r_3 G_4 H locs hpo hW hS => ?_)
    obtain ⟨hB_G_4, hq_5, f_7, hp_6⟩ := hpo
    refine lv_pop hx hb dL_law_1350 rfl ?_
    refine lv_aload_n hx hb dL_law_1351 rfl (lv_at hl 2 rfl) ?_
    have b_8 : 0 ≤ (G.1 66 78).toInt ∧ (G.1 66 78).toInt ≤ 40 := hB_G.i 66 78 rfl rfl
    have g_9 : (G_4.1 66 78).toInt = (G.1 66 78).toInt := by rw [show G_4.1 66 78 = (G.1 66 78) from (hq_5.i 66 78 (by decide) (by decide))]
    have b_10 : 0 ≤ (G.1 66 79).toInt ∧ (G.1 66 79).toInt ≤ 40 := hB_G.i 66 79 rfl rfl
    have g_11 : (G_4.1 66 79).toInt = (G.1 66 79).toInt := by rw [show G_4.1 66 79 = (G.1 66 79) from (hq_5.i 66 79 (by decide) (by decide))]
    refine S_calli (va_runV (As := []) (rest := []) ⟨hx, hb, hml, hown, hts⟩ (n_undo l D k A a z G_4  (by omega)) (cwV 0 hts (gd_V hgd m2019 m2020 m2021 m131 m2022) rfl rfl rfl (by decide +kernel) ⟨Nat.le_of_ble_eq_true rfl, Nat.le_of_ble_eq_true rfl⟩) (pre_V hW hB_G_4 hK hZ hS kd_66 rfl) rfl rfl hl.1 rfl (lv_room (Nat.le_of_ble_eq_true rfl)) dL_law_1352 ⟨Nat.le_of_ble_eq_true rfl, Nat.le_of_ble_eq_true rfl⟩) hS (fun r_12 G_13 H locs hpo hW hS => ?_)
    obtain ⟨hB_G_13, hq_14, f_16, hp_15⟩ := hpo
    refine lv_pop hx hb dL_law_1355 rfl ?_
    refine lv_goto (tgt := 1642) hx hb dL_law_1356 (by decide) ?_
    have g_17 : gO G_13 = gO G := gO_fr (rs := [58, 110, 111]) (fs := [(30, 4), (30, 5), (66, 78), (66, 79)]) ((Fr.rf.call hq_5 (by decide) (by decide)).call hq_14 (by decide) (by decide)) (by decide) (by decide)
    have g_18 : gP G_13 = gP G := gP_fr (rs := [58, 110, 111]) (fs := [(30, 4), (30, 5), (66, 78), (66, 79)]) ((Fr.rf.call hq_5 (by decide) (by decide)).call hq_14 (by decide) (by decide)) (by decide) (by decide)
    have g_19 : gS G_13 = gS G := gS_fr (rs := [58, 110, 111]) (fs := [(30, 4), (30, 5), (66, 78), (66, 79)]) ((Fr.rf.call hq_5 (by decide) (by decide)).call hq_14 (by decide) (by decide)) (by decide) (by decide)
    have g_20 : gW G_13 = gW G := gW_fr (rs := [58, 110, 111]) (fs := [(30, 4), (30, 5), (66, 78), (66, 79)]) ((Fr.rf.call hq_5 (by decide) (by decide)).call hq_14 (by decide) (by decide)) (by decide) (by decide)
    have b_21 : 0 ≤ (G.1 0 11).toInt ∧ (G.1 0 11).toInt ≤ 1600 := hB_G.i 0 11 rfl rfl
    have g_22 : (G_13.1 0 11).toInt = (G.1 0 11).toInt := by rw [show G_13.1 0 11 = (G.1 0 11) from ((hq_14.i 0 11 (by decide) (by decide)).trans (hq_5.i 0 11 (by decide) (by decide)))]
    have b_23 : 0 ≤ (G_4.1 30 4).toInt ∧ (G_4.1 30 4).toInt ≤ 40 := hB_G_4.i 30 4 rfl rfl
    have g_24 : (G_13.1 30 4).toInt = (G_4.1 30 4).toInt := by rw [show G_13.1 30 4 = (G_4.1 30 4) from (hq_14.i 30 4 (by decide) (by decide))]
    have b_25 : 0 ≤ (G_4.1 30 5).toInt ∧ (G_4.1 30 5).toInt ≤ 40 := hB_G_4.i 30 5 rfl rfl
    have g_26 : (G_13.1 30 5).toInt = (G_4.1 30 5).toInt := by rw [show G_13.1 30 5 = (G_4.1 30 5) from (hq_14.i 30 5 (by decide) (by decide))]
    have b_27 : 0 ≤ (G.1 31 6).toInt ∧ (G.1 31 6).toInt ≤ 100000 := hB_G.i 31 6 rfl rfl
    have g_28 : (G_13.1 31 6).toInt = (G.1 31 6).toInt := by rw [show G_13.1 31 6 = (G.1 31 6) from ((hq_14.i 31 6 (by decide) (by decide)).trans (hq_5.i 31 6 (by decide) (by decide)))]
    have b_29 : 0 ≤ (G.1 66 1).toInt ∧ (G.1 66 1).toInt ≤ 1600 := hB_G.i 66 1 rfl rfl
    have g_30 : (G_13.1 66 1).toInt = (G.1 66 1).toInt := by rw [show G_13.1 66 1 = (G.1 66 1) from ((hq_14.i 66 1 (by decide) (by decide)).trans (hq_5.i 66 1 (by decide) (by decide)))]
    have b_31 : 0 ≤ (G_13.1 66 78).toInt ∧ (G_13.1 66 78).toInt ≤ 40 := hB_G_13.i 66 78 rfl rfl
    have b_32 : 0 ≤ (G_13.1 66 79).toInt ∧ (G_13.1 66 79).toInt ≤ 40 := hB_G_13.i 66 79 rfl rfl
    have b_33 : 0 ≤ (G.1 66 86).toInt ∧ (G.1 66 86).toInt ≤ 100000 := hB_G.i 66 86 rfl rfl
    have g_34 : (G_13.1 66 86).toInt = (G.1 66 86).toInt := by rw [show G_13.1 66 86 = (G.1 66 86) from ((hq_14.i 66 86 (by decide) (by decide)).trans (hq_5.i 66 86 (by decide) (by decide)))]
    have b_35 : 0 ≤ (G.1 96 0).toInt ∧ (G.1 96 0).toInt ≤ 9 := hB_G.i 96 0 rfl rfl
    have g_36 : (G_13.1 96 0).toInt = (G.1 96 0).toInt := by rw [show G_13.1 96 0 = (G.1 96 0) from ((hq_14.i 96 0 (by decide) (by decide)).trans (hq_5.i 96 0 (by decide) (by decide)))]
    have b_37 : 0 ≤ (G.1 96 1).toInt ∧ (G.1 96 1).toInt ≤ 9 := hB_G.i 96 1 rfl rfl
    have g_38 : (G_13.1 96 1).toInt = (G.1 96 1).toInt := by rw [show G_13.1 96 1 = (G.1 96 1) from ((hq_14.i 96 1 (by decide) (by decide)).trans (hq_5.i 96 1 (by decide) (by decide)))]
    have b_39 : 0 ≤ (G.1 96 2).toInt ∧ (G.1 96 2).toInt ≤ 9 := hB_G.i 96 2 rfl rfl
    have g_40 : (G_13.1 96 2).toInt = (G.1 96 2).toInt := by rw [show G_13.1 96 2 = (G.1 96 2) from ((hq_14.i 96 2 (by decide) (by decide)).trans (hq_5.i 96 2 (by decide) (by decide)))]
    exact K G_13 _ _ _ (Or.inl ⟨((((hq_14.r 0 0 (by decide) (by decide)).trans (hq_5.r 0 0 (by decide) (by decide)))).trans (hv_0_0)), ((((hq_14.r 0 1 (by decide) (by decide)).trans (hq_5.r 0 1 (by decide) (by decide)))).trans (hv_0_1)), ((((hq_14.r 6 4 (by decide) (by decide)).trans (hq_5.r 6 4 (by decide) (by decide)))).trans (hv_6_4)), by omega, by omega, by omega, by omega, by omega, by omega, by omega, by omega, by omega⟩) hB_G_13 hW hS (lv_sub hl [0, 1, 2, 3] rfl)
  · skip
    refine lv_aload_n hx hb dL_law_1346 rfl (lv_at hl 1 rfl) ?_
    have b_1 : 0 ≤ (G.1 30 4).toInt ∧ (G.1 30 4).toInt ≤ 40 := hB_G.i 30 4 rfl rfl
    have b_2 : 0 ≤ (G.1 30 5).toInt ∧ (G.1 30 5).toInt ≤ 40 := hB_G.i 30 5 rfl rfl
    refine S_calli (va_runV (As := []) (rest := []) ⟨hx, hb, hml, hown, hts⟩ (k_Wundo l D k A a z G  (by omega)) (cwV 0 hts (gd_V hgd m1218 m1219 m1220 m117 m1221) rfl rfl rfl (by decide +kernel) ⟨Nat.le_of_ble_eq_true rfl, Nat.le_of_ble_eq_true rfl⟩) (pre_V hW hB_G hK hZ hS kd_0 rfl) rfl rfl hl.1 rfl (lv_room (Nat.le_of_ble_eq_true rfl)) dL_law_1347 ⟨Nat.le_of_ble_eq_true rfl, Nat.le_of_ble_eq_true rfl⟩) hS (fun r_3 G_4 H locs hpo hW hS => ?_)
    obtain ⟨hB_G_4, hq_5, f_7, hp_6⟩ := hpo
    refine lv_pop hx hb dL_law_1350 rfl ?_
    refine lv_aload_n hx hb dL_law_1351 rfl (lv_at hl 2 rfl) ?_
    have b_8 : 0 ≤ (G.1 66 78).toInt ∧ (G.1 66 78).toInt ≤ 40 := hB_G.i 66 78 rfl rfl
    have g_9 : (G_4.1 66 78).toInt = (G.1 66 78).toInt := by rw [show G_4.1 66 78 = (G.1 66 78) from (hq_5.i 66 78 (by decide) (by decide))]
    have b_10 : 0 ≤ (G.1 66 79).toInt ∧ (G.1 66 79).toInt ≤ 40 := hB_G.i 66 79 rfl rfl
    have g_11 : (G_4.1 66 79).toInt = (G.1 66 79).toInt := by rw [show G_4.1 66 79 = (G.1 66 79) from (hq_5.i 66 79 (by decide) (by decide))]
    refine S_calli (va_runV (As := []) (rest := []) ⟨hx, hb, hml, hown, hts⟩ (n_undo l D k A a z G_4  (by omega)) (cwV 0 hts (gd_V hgd m2019 m2020 m2021 m131 m2022) rfl rfl rfl (by decide +kernel) ⟨Nat.le_of_ble_eq_true rfl, Nat.le_of_ble_eq_true rfl⟩) (pre_V hW hB_G_4 hK hZ hS kd_66 rfl) rfl rfl hl.1 rfl (lv_room (Nat.le_of_ble_eq_true rfl)) dL_law_1352 ⟨Nat.le_of_ble_eq_true rfl, Nat.le_of_ble_eq_true rfl⟩) hS (fun r_12 G_13 H locs hpo hW hS => ?_)
    obtain ⟨hB_G_13, hq_14, f_16, hp_15⟩ := hpo
    refine lv_pop hx hb dL_law_1355 rfl ?_
    refine lv_goto (tgt := 1642) hx hb dL_law_1356 (by decide) ?_
    have g_17 : gO G_13 = gO G := gO_fr (rs := [58, 110, 111]) (fs := [(30, 4), (30, 5), (66, 78), (66, 79)]) ((Fr.rf.call hq_5 (by decide) (by decide)).call hq_14 (by decide) (by decide)) (by decide) (by decide)
    have g_18 : gP G_13 = gP G := gP_fr (rs := [58, 110, 111]) (fs := [(30, 4), (30, 5), (66, 78), (66, 79)]) ((Fr.rf.call hq_5 (by decide) (by decide)).call hq_14 (by decide) (by decide)) (by decide) (by decide)
    have g_19 : gS G_13 = gS G := gS_fr (rs := [58, 110, 111]) (fs := [(30, 4), (30, 5), (66, 78), (66, 79)]) ((Fr.rf.call hq_5 (by decide) (by decide)).call hq_14 (by decide) (by decide)) (by decide) (by decide)
    have g_20 : gW G_13 = gW G := gW_fr (rs := [58, 110, 111]) (fs := [(30, 4), (30, 5), (66, 78), (66, 79)]) ((Fr.rf.call hq_5 (by decide) (by decide)).call hq_14 (by decide) (by decide)) (by decide) (by decide)
    have b_21 : 0 ≤ (G.1 0 11).toInt ∧ (G.1 0 11).toInt ≤ 1600 := hB_G.i 0 11 rfl rfl
    have g_22 : (G_13.1 0 11).toInt = (G.1 0 11).toInt := by rw [show G_13.1 0 11 = (G.1 0 11) from ((hq_14.i 0 11 (by decide) (by decide)).trans (hq_5.i 0 11 (by decide) (by decide)))]
    have b_23 : 0 ≤ (G_4.1 30 4).toInt ∧ (G_4.1 30 4).toInt ≤ 40 := hB_G_4.i 30 4 rfl rfl
    have g_24 : (G_13.1 30 4).toInt = (G_4.1 30 4).toInt := by rw [show G_13.1 30 4 = (G_4.1 30 4) from (hq_14.i 30 4 (by decide) (by decide))]
    have b_25 : 0 ≤ (G_4.1 30 5).toInt ∧ (G_4.1 30 5).toInt ≤ 40 := hB_G_4.i 30 5 rfl rfl
    have g_26 : (G_13.1 30 5).toInt = (G_4.1 30 5).toInt := by rw [show G_13.1 30 5 = (G_4.1 30 5) from (hq_14.i 30 5 (by decide) (by decide))]
    have b_27 : 0 ≤ (G.1 31 6).toInt ∧ (G.1 31 6).toInt ≤ 100000 := hB_G.i 31 6 rfl rfl
    have g_28 : (G_13.1 31 6).toInt = (G.1 31 6).toInt := by rw [show G_13.1 31 6 = (G.1 31 6) from ((hq_14.i 31 6 (by decide) (by decide)).trans (hq_5.i 31 6 (by decide) (by decide)))]
    have b_29 : 0 ≤ (G.1 66 1).toInt ∧ (G.1 66 1).toInt ≤ 1600 := hB_G.i 66 1 rfl rfl
    have g_30 : (G_13.1 66 1).toInt = (G.1 66 1).toInt := by rw [show G_13.1 66 1 = (G.1 66 1) from ((hq_14.i 66 1 (by decide) (by decide)).trans (hq_5.i 66 1 (by decide) (by decide)))]
    have b_31 : 0 ≤ (G_13.1 66 78).toInt ∧ (G_13.1 66 78).toInt ≤ 40 := hB_G_13.i 66 78 rfl rfl
    have b_32 : 0 ≤ (G_13.1 66 79).toInt ∧ (G_13.1 66 79).toInt ≤ 40 := hB_G_13.i 66 79 rfl rfl
    have b_33 : 0 ≤ (G.1 66 86).toInt ∧ (G.1 66 86).toInt ≤ 100000 := hB_G.i 66 86 rfl rfl
    have g_34 : (G_13.1 66 86).toInt = (G.1 66 86).toInt := by rw [show G_13.1 66 86 = (G.1 66 86) from ((hq_14.i 66 86 (by decide) (by decide)).trans (hq_5.i 66 86 (by decide) (by decide)))]
    have b_35 : 0 ≤ (G.1 96 0).toInt ∧ (G.1 96 0).toInt ≤ 9 := hB_G.i 96 0 rfl rfl
    have g_36 : (G_13.1 96 0).toInt = (G.1 96 0).toInt := by rw [show G_13.1 96 0 = (G.1 96 0) from ((hq_14.i 96 0 (by decide) (by decide)).trans (hq_5.i 96 0 (by decide) (by decide)))]
    have b_37 : 0 ≤ (G.1 96 1).toInt ∧ (G.1 96 1).toInt ≤ 9 := hB_G.i 96 1 rfl rfl
    have g_38 : (G_13.1 96 1).toInt = (G.1 96 1).toInt := by rw [show G_13.1 96 1 = (G.1 96 1) from ((hq_14.i 96 1 (by decide) (by decide)).trans (hq_5.i 96 1 (by decide) (by decide)))]
    have b_39 : 0 ≤ (G.1 96 2).toInt ∧ (G.1 96 2).toInt ≤ 9 := hB_G.i 96 2 rfl rfl
    have g_40 : (G_13.1 96 2).toInt = (G.1 96 2).toInt := by rw [show G_13.1 96 2 = (G.1 96 2) from ((hq_14.i 96 2 (by decide) (by decide)).trans (hq_5.i 96 2 (by decide) (by decide)))]
    exact K G_13 _ _ _ (Or.inr ⟨((((hq_14.r 0 0 (by decide) (by decide)).trans (hq_5.r 0 0 (by decide) (by decide)))).trans (hv_0_0)), ((((hq_14.r 0 1 (by decide) (by decide)).trans (hq_5.r 0 1 (by decide) (by decide)))).trans (hv_0_1)), ((((hq_14.r 6 4 (by decide) (by decide)).trans (hq_5.r 6 4 (by decide) (by decide)))).trans (hv_6_4)), by omega, by omega, by omega, by omega, by omega, by omega, by omega, by omega, by omega⟩) hB_G_13 hW hS (lv_sub hl [0, 1, 2, 3] rfl)

set_option maxHeartbeats 4000000 in
set_option maxRecDepth 100000 in
theorem law_28 {p : Program} {l : Launch} {e : Env} {s : State} {m : MethodId} {below : List Frame} {meth : Method} {c : Code} {D : va_G} {k : KT} {A : Nat → Prop} {a : Nat → Nat} {z : SK} {b L : Nat} {xs : Nat → Int32} (hL : L ≤ 3072) (C0 : lw_At p s m meth c b L xs) (hK : cK D k s) (hZ : Sx A z s) (hbA : ¬ A b) (hA : ∀ q : Nat, s.heap.size ≤ q → A q) {G : GS} {i0 : Int32} (hi0 : 0 ≤ i0.toInt) (hi6 : i0.toInt + 6 ≤ L) (hI : LI G) (hB_G : Bd G) {H : Heap} {locs : List Loc} {ls : Array Slot} (hW : Wd D k A a G H) (hS : va_S A s.heap H locs) (hl : lv_has ls 4 [(0, .ref b), (1, .ref (a 0)), (2, .ref (a 66)), (3, .int i0)]) (K : ∀ (G1 : GS) (H1 : Heap) (locs1 : List Loc) (ls1 : Array Slot), LI G1 → Bd G1 → Wd D k A a G1 H1 → va_S A s.heap H1 locs1 → lv_has ls1 4 [(0, .ref b), (1, .ref (a 0)), (2, .ref (a 66)), (3, .int i0)] → W p l e room_1 s m #[Value.ref b] below meth c H1 locs1 119 46443 (lw_Z below #[Value.ref b] s) (F0 m 1642 ls1 [])) : W p l e room_1 s m #[Value.ref b] below meth c H locs 119 46443 (lw_Z below #[Value.ref b] s) (F0 m 1359 ls []) := by
  obtain ⟨hx, hb, hr, hml, hown, hts, hX, hbl, hlocks, hgv⟩ := id C0
  have hown : s.vm.findClass RL = some m.cls := hown
  have hgd : ∀ w ∈ gd, w ∈ lw_tbl := fun w h => (List.mem_filter.mp h).1
  have hg : ∀ w ∈ gd, w.before #[Value.ref b] s = true := fun w h => hts w (hgd w h)
  rcases hI with ⟨hv_0_0, hv_0_1, hv_6_4, hj0, hj1, hj2, hj3, hj4, hj5, hj6, hj7, hj8⟩ | ⟨hv_0_0, hv_0_1, hv_6_4, hj0, hj1, hj2, hj3, hj4, hj5, hj6, hj7, hj8⟩
  · skip
    refine lv_aload_n hx hb dL_law_1359 rfl (lv_at hl 1 rfl) ?_
    have b_1 : 0 ≤ (G.1 30 4).toInt ∧ (G.1 30 4).toInt ≤ 40 := hB_G.i 30 4 rfl rfl
    have b_2 : 0 ≤ (G.1 30 5).toInt ∧ (G.1 30 5).toInt ≤ 40 := hB_G.i 30 5 rfl rfl
    refine S_calli (va_runV (As := []) (rest := []) ⟨hx, hb, hml, hown, hts⟩ (k_Wredo l D k A a z G  (by omega)) (cwV 0 hts (gd_V hgd m1226 m1227 m1228 m117 m1229) rfl rfl rfl (by decide +kernel) ⟨Nat.le_of_ble_eq_true rfl, Nat.le_of_ble_eq_true rfl⟩) (pre_V hW hB_G hK hZ hS kd_0 rfl) rfl rfl hl.1 rfl (lv_room (Nat.le_of_ble_eq_true rfl)) dL_law_1360 ⟨Nat.le_of_ble_eq_true rfl, Nat.le_of_ble_eq_true rfl⟩) hS (fun r_3 G_4 H locs hpo hW hS => ?_)
    obtain ⟨hB_G_4, hq_5, f_7, hp_6⟩ := hpo
    refine lv_pop hx hb dL_law_1363 rfl ?_
    refine lv_aload_n hx hb dL_law_1364 rfl (lv_at hl 2 rfl) ?_
    have b_8 : 0 ≤ (G.1 66 78).toInt ∧ (G.1 66 78).toInt ≤ 40 := hB_G.i 66 78 rfl rfl
    have g_9 : (G_4.1 66 78).toInt = (G.1 66 78).toInt := by rw [show G_4.1 66 78 = (G.1 66 78) from (hq_5.i 66 78 (by decide) (by decide))]
    have b_10 : 0 ≤ (G.1 66 79).toInt ∧ (G.1 66 79).toInt ≤ 40 := hB_G.i 66 79 rfl rfl
    have g_11 : (G_4.1 66 79).toInt = (G.1 66 79).toInt := by rw [show G_4.1 66 79 = (G.1 66 79) from (hq_5.i 66 79 (by decide) (by decide))]
    refine S_calli (va_runV (As := []) (rest := []) ⟨hx, hb, hml, hown, hts⟩ (n_redo l D k A a z G_4  (by omega)) (cwV 0 hts (gd_V hgd m2027 m2028 m2029 m131 m2030) rfl rfl rfl (by decide +kernel) ⟨Nat.le_of_ble_eq_true rfl, Nat.le_of_ble_eq_true rfl⟩) (pre_V hW hB_G_4 hK hZ hS kd_66 rfl) rfl rfl hl.1 rfl (lv_room (Nat.le_of_ble_eq_true rfl)) dL_law_1365 ⟨Nat.le_of_ble_eq_true rfl, Nat.le_of_ble_eq_true rfl⟩) hS (fun r_12 G_13 H locs hpo hW hS => ?_)
    obtain ⟨hB_G_13, hq_14, f_16, hp_15⟩ := hpo
    refine lv_pop hx hb dL_law_1368 rfl ?_
    refine lv_goto (tgt := 1642) hx hb dL_law_1369 (by decide) ?_
    have g_17 : gO G_13 = gO G := gO_fr (rs := [58, 110, 111]) (fs := [(30, 4), (30, 5), (66, 78), (66, 79)]) ((Fr.rf.call hq_5 (by decide) (by decide)).call hq_14 (by decide) (by decide)) (by decide) (by decide)
    have g_18 : gP G_13 = gP G := gP_fr (rs := [58, 110, 111]) (fs := [(30, 4), (30, 5), (66, 78), (66, 79)]) ((Fr.rf.call hq_5 (by decide) (by decide)).call hq_14 (by decide) (by decide)) (by decide) (by decide)
    have g_19 : gS G_13 = gS G := gS_fr (rs := [58, 110, 111]) (fs := [(30, 4), (30, 5), (66, 78), (66, 79)]) ((Fr.rf.call hq_5 (by decide) (by decide)).call hq_14 (by decide) (by decide)) (by decide) (by decide)
    have g_20 : gW G_13 = gW G := gW_fr (rs := [58, 110, 111]) (fs := [(30, 4), (30, 5), (66, 78), (66, 79)]) ((Fr.rf.call hq_5 (by decide) (by decide)).call hq_14 (by decide) (by decide)) (by decide) (by decide)
    have b_21 : 0 ≤ (G.1 0 11).toInt ∧ (G.1 0 11).toInt ≤ 1600 := hB_G.i 0 11 rfl rfl
    have g_22 : (G_13.1 0 11).toInt = (G.1 0 11).toInt := by rw [show G_13.1 0 11 = (G.1 0 11) from ((hq_14.i 0 11 (by decide) (by decide)).trans (hq_5.i 0 11 (by decide) (by decide)))]
    have b_23 : 0 ≤ (G_4.1 30 4).toInt ∧ (G_4.1 30 4).toInt ≤ 40 := hB_G_4.i 30 4 rfl rfl
    have g_24 : (G_13.1 30 4).toInt = (G_4.1 30 4).toInt := by rw [show G_13.1 30 4 = (G_4.1 30 4) from (hq_14.i 30 4 (by decide) (by decide))]
    have b_25 : 0 ≤ (G_4.1 30 5).toInt ∧ (G_4.1 30 5).toInt ≤ 40 := hB_G_4.i 30 5 rfl rfl
    have g_26 : (G_13.1 30 5).toInt = (G_4.1 30 5).toInt := by rw [show G_13.1 30 5 = (G_4.1 30 5) from (hq_14.i 30 5 (by decide) (by decide))]
    have b_27 : 0 ≤ (G.1 31 6).toInt ∧ (G.1 31 6).toInt ≤ 100000 := hB_G.i 31 6 rfl rfl
    have g_28 : (G_13.1 31 6).toInt = (G.1 31 6).toInt := by rw [show G_13.1 31 6 = (G.1 31 6) from ((hq_14.i 31 6 (by decide) (by decide)).trans (hq_5.i 31 6 (by decide) (by decide)))]
    have b_29 : 0 ≤ (G.1 66 1).toInt ∧ (G.1 66 1).toInt ≤ 1600 := hB_G.i 66 1 rfl rfl
    have g_30 : (G_13.1 66 1).toInt = (G.1 66 1).toInt := by rw [show G_13.1 66 1 = (G.1 66 1) from ((hq_14.i 66 1 (by decide) (by decide)).trans (hq_5.i 66 1 (by decide) (by decide)))]
    have b_31 : 0 ≤ (G_13.1 66 78).toInt ∧ (G_13.1 66 78).toInt ≤ 40 := hB_G_13.i 66 78 rfl rfl
    have b_32 : 0 ≤ (G_13.1 66 79).toInt ∧ (G_13.1 66 79).toInt ≤ 40 := hB_G_13.i 66 79 rfl rfl
    have b_33 : 0 ≤ (G.1 66 86).toInt ∧ (G.1 66 86).toInt ≤ 100000 := hB_G.i 66 86 rfl rfl
    have g_34 : (G_13.1 66 86).toInt = (G.1 66 86).toInt := by rw [show G_13.1 66 86 = (G.1 66 86) from ((hq_14.i 66 86 (by decide) (by decide)).trans (hq_5.i 66 86 (by decide) (by decide)))]
    have b_35 : 0 ≤ (G.1 96 0).toInt ∧ (G.1 96 0).toInt ≤ 9 := hB_G.i 96 0 rfl rfl
    have g_36 : (G_13.1 96 0).toInt = (G.1 96 0).toInt := by rw [show G_13.1 96 0 = (G.1 96 0) from ((hq_14.i 96 0 (by decide) (by decide)).trans (hq_5.i 96 0 (by decide) (by decide)))]
    have b_37 : 0 ≤ (G.1 96 1).toInt ∧ (G.1 96 1).toInt ≤ 9 := hB_G.i 96 1 rfl rfl
    have g_38 : (G_13.1 96 1).toInt = (G.1 96 1).toInt := by rw [show G_13.1 96 1 = (G.1 96 1) from ((hq_14.i 96 1 (by decide) (by decide)).trans (hq_5.i 96 1 (by decide) (by decide)))]
    have b_39 : 0 ≤ (G.1 96 2).toInt ∧ (G.1 96 2).toInt ≤ 9 := hB_G.i 96 2 rfl rfl
    have g_40 : (G_13.1 96 2).toInt = (G.1 96 2).toInt := by rw [show G_13.1 96 2 = (G.1 96 2) from ((hq_14.i 96 2 (by decide) (by decide)).trans (hq_5.i 96 2 (by decide) (by decide)))]
    exact K G_13 _ _ _ (Or.inl ⟨((((hq_14.r 0 0 (by decide) (by decide)).trans (hq_5.r 0 0 (by decide) (by decide)))).trans (hv_0_0)), ((((hq_14.r 0 1 (by decide) (by decide)).trans (hq_5.r 0 1 (by decide) (by decide)))).trans (hv_0_1)), ((((hq_14.r 6 4 (by decide) (by decide)).trans (hq_5.r 6 4 (by decide) (by decide)))).trans (hv_6_4)), by omega, by omega, by omega, by omega, by omega, by omega, by omega, by omega, by omega⟩) hB_G_13 hW hS (lv_sub hl [0, 1, 2, 3] rfl)
  · skip
    refine lv_aload_n hx hb dL_law_1359 rfl (lv_at hl 1 rfl) ?_
    have b_1 : 0 ≤ (G.1 30 4).toInt ∧ (G.1 30 4).toInt ≤ 40 := hB_G.i 30 4 rfl rfl
    have b_2 : 0 ≤ (G.1 30 5).toInt ∧ (G.1 30 5).toInt ≤ 40 := hB_G.i 30 5 rfl rfl
    refine S_calli (va_runV (As := []) (rest := []) ⟨hx, hb, hml, hown, hts⟩ (k_Wredo l D k A a z G  (by omega)) (cwV 0 hts (gd_V hgd m1226 m1227 m1228 m117 m1229) rfl rfl rfl (by decide +kernel) ⟨Nat.le_of_ble_eq_true rfl, Nat.le_of_ble_eq_true rfl⟩) (pre_V hW hB_G hK hZ hS kd_0 rfl) rfl rfl hl.1 rfl (lv_room (Nat.le_of_ble_eq_true rfl)) dL_law_1360 ⟨Nat.le_of_ble_eq_true rfl, Nat.le_of_ble_eq_true rfl⟩) hS (fun r_3 G_4 H locs hpo hW hS => ?_)
    obtain ⟨hB_G_4, hq_5, f_7, hp_6⟩ := hpo
    refine lv_pop hx hb dL_law_1363 rfl ?_
    refine lv_aload_n hx hb dL_law_1364 rfl (lv_at hl 2 rfl) ?_
    have b_8 : 0 ≤ (G.1 66 78).toInt ∧ (G.1 66 78).toInt ≤ 40 := hB_G.i 66 78 rfl rfl
    have g_9 : (G_4.1 66 78).toInt = (G.1 66 78).toInt := by rw [show G_4.1 66 78 = (G.1 66 78) from (hq_5.i 66 78 (by decide) (by decide))]
    have b_10 : 0 ≤ (G.1 66 79).toInt ∧ (G.1 66 79).toInt ≤ 40 := hB_G.i 66 79 rfl rfl
    have g_11 : (G_4.1 66 79).toInt = (G.1 66 79).toInt := by rw [show G_4.1 66 79 = (G.1 66 79) from (hq_5.i 66 79 (by decide) (by decide))]
    refine S_calli (va_runV (As := []) (rest := []) ⟨hx, hb, hml, hown, hts⟩ (n_redo l D k A a z G_4  (by omega)) (cwV 0 hts (gd_V hgd m2027 m2028 m2029 m131 m2030) rfl rfl rfl (by decide +kernel) ⟨Nat.le_of_ble_eq_true rfl, Nat.le_of_ble_eq_true rfl⟩) (pre_V hW hB_G_4 hK hZ hS kd_66 rfl) rfl rfl hl.1 rfl (lv_room (Nat.le_of_ble_eq_true rfl)) dL_law_1365 ⟨Nat.le_of_ble_eq_true rfl, Nat.le_of_ble_eq_true rfl⟩) hS (fun r_12 G_13 H locs hpo hW hS => ?_)
    obtain ⟨hB_G_13, hq_14, f_16, hp_15⟩ := hpo
    refine lv_pop hx hb dL_law_1368 rfl ?_
    refine lv_goto (tgt := 1642) hx hb dL_law_1369 (by decide) ?_
    have g_17 : gO G_13 = gO G := gO_fr (rs := [58, 110, 111]) (fs := [(30, 4), (30, 5), (66, 78), (66, 79)]) ((Fr.rf.call hq_5 (by decide) (by decide)).call hq_14 (by decide) (by decide)) (by decide) (by decide)
    have g_18 : gP G_13 = gP G := gP_fr (rs := [58, 110, 111]) (fs := [(30, 4), (30, 5), (66, 78), (66, 79)]) ((Fr.rf.call hq_5 (by decide) (by decide)).call hq_14 (by decide) (by decide)) (by decide) (by decide)
    have g_19 : gS G_13 = gS G := gS_fr (rs := [58, 110, 111]) (fs := [(30, 4), (30, 5), (66, 78), (66, 79)]) ((Fr.rf.call hq_5 (by decide) (by decide)).call hq_14 (by decide) (by decide)) (by decide) (by decide)
    have g_20 : gW G_13 = gW G := gW_fr (rs := [58, 110, 111]) (fs := [(30, 4), (30, 5), (66, 78), (66, 79)]) ((Fr.rf.call hq_5 (by decide) (by decide)).call hq_14 (by decide) (by decide)) (by decide) (by decide)
    have b_21 : 0 ≤ (G.1 0 11).toInt ∧ (G.1 0 11).toInt ≤ 1600 := hB_G.i 0 11 rfl rfl
    have g_22 : (G_13.1 0 11).toInt = (G.1 0 11).toInt := by rw [show G_13.1 0 11 = (G.1 0 11) from ((hq_14.i 0 11 (by decide) (by decide)).trans (hq_5.i 0 11 (by decide) (by decide)))]
    have b_23 : 0 ≤ (G_4.1 30 4).toInt ∧ (G_4.1 30 4).toInt ≤ 40 := hB_G_4.i 30 4 rfl rfl
    have g_24 : (G_13.1 30 4).toInt = (G_4.1 30 4).toInt := by rw [show G_13.1 30 4 = (G_4.1 30 4) from (hq_14.i 30 4 (by decide) (by decide))]
    have b_25 : 0 ≤ (G_4.1 30 5).toInt ∧ (G_4.1 30 5).toInt ≤ 40 := hB_G_4.i 30 5 rfl rfl
    have g_26 : (G_13.1 30 5).toInt = (G_4.1 30 5).toInt := by rw [show G_13.1 30 5 = (G_4.1 30 5) from (hq_14.i 30 5 (by decide) (by decide))]
    have b_27 : 0 ≤ (G.1 31 6).toInt ∧ (G.1 31 6).toInt ≤ 100000 := hB_G.i 31 6 rfl rfl
    have g_28 : (G_13.1 31 6).toInt = (G.1 31 6).toInt := by rw [show G_13.1 31 6 = (G.1 31 6) from ((hq_14.i 31 6 (by decide) (by decide)).trans (hq_5.i 31 6 (by decide) (by decide)))]
    have b_29 : 0 ≤ (G.1 66 1).toInt ∧ (G.1 66 1).toInt ≤ 1600 := hB_G.i 66 1 rfl rfl
    have g_30 : (G_13.1 66 1).toInt = (G.1 66 1).toInt := by rw [show G_13.1 66 1 = (G.1 66 1) from ((hq_14.i 66 1 (by decide) (by decide)).trans (hq_5.i 66 1 (by decide) (by decide)))]
    have b_31 : 0 ≤ (G_13.1 66 78).toInt ∧ (G_13.1 66 78).toInt ≤ 40 := hB_G_13.i 66 78 rfl rfl
    have b_32 : 0 ≤ (G_13.1 66 79).toInt ∧ (G_13.1 66 79).toInt ≤ 40 := hB_G_13.i 66 79 rfl rfl
    have b_33 : 0 ≤ (G.1 66 86).toInt ∧ (G.1 66 86).toInt ≤ 100000 := hB_G.i 66 86 rfl rfl
    have g_34 : (G_13.1 66 86).toInt = (G.1 66 86).toInt := by rw [show G_13.1 66 86 = (G.1 66 86) from ((hq_14.i 66 86 (by decide) (by decide)).trans (hq_5.i 66 86 (by decide) (by decide)))]
    have b_35 : 0 ≤ (G.1 96 0).toInt ∧ (G.1 96 0).toInt ≤ 9 := hB_G.i 96 0 rfl rfl
    have g_36 : (G_13.1 96 0).toInt = (G.1 96 0).toInt := by rw [show G_13.1 96 0 = (G.1 96 0) from ((hq_14.i 96 0 (by decide) (by decide)).trans (hq_5.i 96 0 (by decide) (by decide)))]
    have b_37 : 0 ≤ (G.1 96 1).toInt ∧ (G.1 96 1).toInt ≤ 9 := hB_G.i 96 1 rfl rfl
    have g_38 : (G_13.1 96 1).toInt = (G.1 96 1).toInt := by rw [show G_13.1 96 1 = (G.1 96 1) from ((hq_14.i 96 1 (by decide) (by decide)).trans (hq_5.i 96 1 (by decide) (by decide)))]
    have b_39 : 0 ≤ (G.1 96 2).toInt ∧ (G.1 96 2).toInt ≤ 9 := hB_G.i 96 2 rfl rfl
    have g_40 : (G_13.1 96 2).toInt = (G.1 96 2).toInt := by rw [show G_13.1 96 2 = (G.1 96 2) from ((hq_14.i 96 2 (by decide) (by decide)).trans (hq_5.i 96 2 (by decide) (by decide)))]
    exact K G_13 _ _ _ (Or.inr ⟨((((hq_14.r 0 0 (by decide) (by decide)).trans (hq_5.r 0 0 (by decide) (by decide)))).trans (hv_0_0)), ((((hq_14.r 0 1 (by decide) (by decide)).trans (hq_5.r 0 1 (by decide) (by decide)))).trans (hv_0_1)), ((((hq_14.r 6 4 (by decide) (by decide)).trans (hq_5.r 6 4 (by decide) (by decide)))).trans (hv_6_4)), by omega, by omega, by omega, by omega, by omega, by omega, by omega, by omega, by omega⟩) hB_G_13 hW hS (lv_sub hl [0, 1, 2, 3] rfl)

set_option maxHeartbeats 4000000 in
set_option maxRecDepth 100000 in
theorem law_29 {p : Program} {l : Launch} {e : Env} {s : State} {m : MethodId} {below : List Frame} {meth : Method} {c : Code} {D : va_G} {k : KT} {A : Nat → Prop} {a : Nat → Nat} {z : SK} {b L : Nat} {xs : Nat → Int32} (hL : L ≤ 3072) (C0 : lw_At p s m meth c b L xs) (hK : cK D k s) (hZ : Sx A z s) (hbA : ¬ A b) (hA : ∀ q : Nat, s.heap.size ≤ q → A q) {G : GS} {i0 : Int32} (hi0 : 0 ≤ i0.toInt) (hi6 : i0.toInt + 6 ≤ L) (hI : LI G) (hB_G : Bd G) {H : Heap} {locs : List Loc} {ls : Array Slot} (hW : Wd D k A a G H) (hS : va_S A s.heap H locs) (hl : lv_has ls 4 [(0, .ref b), (1, .ref (a 0)), (2, .ref (a 66)), (3, .int i0)]) (K : ∀ (G1 : GS) (H1 : Heap) (locs1 : List Loc) (ls1 : Array Slot), LI G1 → Bd G1 → Wd D k A a G1 H1 → va_S A s.heap H1 locs1 → lv_has ls1 4 [(0, .ref b), (1, .ref (a 0)), (2, .ref (a 66)), (3, .int i0)] → W p l e room_1 s m #[Value.ref b] below meth c H1 locs1 119 46443 (lw_Z below #[Value.ref b] s) (F0 m 1642 ls1 [])) : W p l e room_1 s m #[Value.ref b] below meth c H locs 119 46443 (lw_Z below #[Value.ref b] s) (F0 m 1372 ls []) := by
  obtain ⟨hx, hb, hr, hml, hown, hts, hX, hbl, hlocks, hgv⟩ := id C0
  have hown : s.vm.findClass RL = some m.cls := hown
  have hgd : ∀ w ∈ gd, w ∈ lw_tbl := fun w h => (List.mem_filter.mp h).1
  have hg : ∀ w ∈ gd, w.before #[Value.ref b] s = true := fun w h => hts w (hgd w h)
  rcases hI with ⟨hv_0_0, hv_0_1, hv_6_4, hj0, hj1, hj2, hj3, hj4, hj5, hj6, hj7, hj8⟩ | ⟨hv_0_0, hv_0_1, hv_6_4, hj0, hj1, hj2, hj3, hj4, hj5, hj6, hj7, hj8⟩
  · skip
    refine lv_aload_n hx hb dL_law_1372 rfl (lv_at hl 1 rfl) ?_
    refine lv_aload_n hx hb dL_law_1373 rfl (lv_at hl 0 rfl) ?_
    refine lv_iload_n hx hb dL_law_1374 rfl (lv_at hl 3 rfl) ?_
    refine lv_iconst (v := 1) hx hb dL_law_1375 (by decide) ?_
    refine lv_iadd hx hb dL_law_1376 ?_
    refine lv_topi (fun y_1 ey_1 => ?_)
    have ty_1 : y_1.toInt = i0.toInt + 1 := xI_add rfl rfl ey_1 (by omega) (by omega)
    refine va_sld hx hb hX hbl hbA hS (vin (by omega) (by omega)) dL_law_1377 ?_
    refine lv_topi (fun y_2 ey_2 => ?_)
    have u_3 : y_2.toInt = (xs (i0 + 1).toNatClampNeg).toInt := by rw [ey_2, ey_1]
    refine S_calli (va_runV (As := [.int y_2]) (rest := []) ⟨hx, hb, hml, hown, hts⟩ (k_Wwalker l D k A a z G y_2 ) (cwV 1 hts (gd_V hgd m1234 m1235 m1236 m117 m1237) rfl rfl rfl (by decide +kernel) ⟨Nat.le_of_ble_eq_true rfl, Nat.le_of_ble_eq_true rfl⟩) (pre_V hW hB_G hK hZ hS kd_0 rfl) rfl rfl hl.1 rfl (lv_room (Nat.le_of_ble_eq_true rfl)) dL_law_1378 ⟨Nat.le_of_ble_eq_true rfl, Nat.le_of_ble_eq_true rfl⟩) hS (fun r_4 G_5 H locs hpo hW hS => ?_)
    obtain ⟨hB_G_5, hq_6⟩ := hpo
    refine lv_pop hx hb dL_law_1381 rfl ?_
    refine lv_aload_n hx hb dL_law_1382 rfl (lv_at hl 2 rfl) ?_
    refine lv_aload_n hx hb dL_law_1383 rfl (lv_at hl 0 rfl) ?_
    refine lv_iload_n hx hb dL_law_1384 rfl (lv_at hl 3 rfl) ?_
    refine lv_iconst (v := 1) hx hb dL_law_1385 (by decide) ?_
    refine lv_iadd hx hb dL_law_1386 ?_
    refine lv_topi (fun y_8 ey_8 => ?_)
    have ty_8 : y_8.toInt = i0.toInt + 1 := xI_add rfl rfl ey_8 (by omega) (by omega)
    refine va_sld hx hb hX hbl hbA hS (vin (by omega) (by omega)) dL_law_1387 ?_
    refine lv_topi (fun y_9 ey_9 => ?_)
    have u_10 : y_9.toInt = (xs (i0 + 1).toNatClampNeg).toInt := by rw [ey_9, ey_8]
    refine S_calli (va_runV (As := [.int y_9]) (rest := []) ⟨hx, hb, hml, hown, hts⟩ (n_walker l D k A a z G_5 y_9 ) (cwV 1 hts (gd_V hgd m2031 m2032 m2033 m131 m2034) rfl rfl rfl (by decide +kernel) ⟨Nat.le_of_ble_eq_true rfl, Nat.le_of_ble_eq_true rfl⟩) (pre_V hW hB_G_5 hK hZ hS kd_66 rfl) rfl rfl hl.1 rfl (lv_room (Nat.le_of_ble_eq_true rfl)) dL_law_1388 ⟨Nat.le_of_ble_eq_true rfl, Nat.le_of_ble_eq_true rfl⟩) hS (fun r_11 G_12 H locs hpo hW hS => ?_)
    obtain ⟨hB_G_12, hq_13⟩ := hpo
    refine lv_pop hx hb dL_law_1391 rfl ?_
    refine lv_goto (tgt := 1642) hx hb dL_law_1392 (by decide) ?_
    have g_15 : gO G_12 = gO G := gO_fr (rs := []) (fs := []) ((Fr.rf.call hq_6 (by decide) (by decide)).call hq_13 (by decide) (by decide)) (by decide) (by decide)
    have g_16 : gP G_12 = gP G := gP_fr (rs := []) (fs := []) ((Fr.rf.call hq_6 (by decide) (by decide)).call hq_13 (by decide) (by decide)) (by decide) (by decide)
    have g_17 : gS G_12 = gS G := gS_fr (rs := []) (fs := []) ((Fr.rf.call hq_6 (by decide) (by decide)).call hq_13 (by decide) (by decide)) (by decide) (by decide)
    have g_18 : gW G_12 = gW G := gW_fr (rs := []) (fs := []) ((Fr.rf.call hq_6 (by decide) (by decide)).call hq_13 (by decide) (by decide)) (by decide) (by decide)
    have b_19 : 0 ≤ (G.1 0 11).toInt ∧ (G.1 0 11).toInt ≤ 1600 := hB_G.i 0 11 rfl rfl
    have g_20 : (G_12.1 0 11).toInt = (G.1 0 11).toInt := by rw [show G_12.1 0 11 = (G.1 0 11) from ((hq_13.i 0 11 (by decide) (by decide)).trans (hq_6.i 0 11 (by decide) (by decide)))]
    have b_21 : 0 ≤ (G.1 30 4).toInt ∧ (G.1 30 4).toInt ≤ 40 := hB_G.i 30 4 rfl rfl
    have g_22 : (G_12.1 30 4).toInt = (G.1 30 4).toInt := by rw [show G_12.1 30 4 = (G.1 30 4) from ((hq_13.i 30 4 (by decide) (by decide)).trans (hq_6.i 30 4 (by decide) (by decide)))]
    have b_23 : 0 ≤ (G.1 30 5).toInt ∧ (G.1 30 5).toInt ≤ 40 := hB_G.i 30 5 rfl rfl
    have g_24 : (G_12.1 30 5).toInt = (G.1 30 5).toInt := by rw [show G_12.1 30 5 = (G.1 30 5) from ((hq_13.i 30 5 (by decide) (by decide)).trans (hq_6.i 30 5 (by decide) (by decide)))]
    have b_25 : 0 ≤ (G.1 31 6).toInt ∧ (G.1 31 6).toInt ≤ 100000 := hB_G.i 31 6 rfl rfl
    have g_26 : (G_12.1 31 6).toInt = (G.1 31 6).toInt := by rw [show G_12.1 31 6 = (G.1 31 6) from ((hq_13.i 31 6 (by decide) (by decide)).trans (hq_6.i 31 6 (by decide) (by decide)))]
    have b_27 : 0 ≤ (G.1 66 1).toInt ∧ (G.1 66 1).toInt ≤ 1600 := hB_G.i 66 1 rfl rfl
    have g_28 : (G_12.1 66 1).toInt = (G.1 66 1).toInt := by rw [show G_12.1 66 1 = (G.1 66 1) from ((hq_13.i 66 1 (by decide) (by decide)).trans (hq_6.i 66 1 (by decide) (by decide)))]
    have b_29 : 0 ≤ (G.1 66 78).toInt ∧ (G.1 66 78).toInt ≤ 40 := hB_G.i 66 78 rfl rfl
    have g_30 : (G_12.1 66 78).toInt = (G.1 66 78).toInt := by rw [show G_12.1 66 78 = (G.1 66 78) from ((hq_13.i 66 78 (by decide) (by decide)).trans (hq_6.i 66 78 (by decide) (by decide)))]
    have b_31 : 0 ≤ (G.1 66 79).toInt ∧ (G.1 66 79).toInt ≤ 40 := hB_G.i 66 79 rfl rfl
    have g_32 : (G_12.1 66 79).toInt = (G.1 66 79).toInt := by rw [show G_12.1 66 79 = (G.1 66 79) from ((hq_13.i 66 79 (by decide) (by decide)).trans (hq_6.i 66 79 (by decide) (by decide)))]
    have b_33 : 0 ≤ (G.1 66 86).toInt ∧ (G.1 66 86).toInt ≤ 100000 := hB_G.i 66 86 rfl rfl
    have g_34 : (G_12.1 66 86).toInt = (G.1 66 86).toInt := by rw [show G_12.1 66 86 = (G.1 66 86) from ((hq_13.i 66 86 (by decide) (by decide)).trans (hq_6.i 66 86 (by decide) (by decide)))]
    have b_35 : 0 ≤ (G.1 96 0).toInt ∧ (G.1 96 0).toInt ≤ 9 := hB_G.i 96 0 rfl rfl
    have g_36 : (G_12.1 96 0).toInt = (G.1 96 0).toInt := by rw [show G_12.1 96 0 = (G.1 96 0) from ((hq_13.i 96 0 (by decide) (by decide)).trans (hq_6.i 96 0 (by decide) (by decide)))]
    have b_37 : 0 ≤ (G.1 96 1).toInt ∧ (G.1 96 1).toInt ≤ 9 := hB_G.i 96 1 rfl rfl
    have g_38 : (G_12.1 96 1).toInt = (G.1 96 1).toInt := by rw [show G_12.1 96 1 = (G.1 96 1) from ((hq_13.i 96 1 (by decide) (by decide)).trans (hq_6.i 96 1 (by decide) (by decide)))]
    have b_39 : 0 ≤ (G.1 96 2).toInt ∧ (G.1 96 2).toInt ≤ 9 := hB_G.i 96 2 rfl rfl
    have g_40 : (G_12.1 96 2).toInt = (G.1 96 2).toInt := by rw [show G_12.1 96 2 = (G.1 96 2) from ((hq_13.i 96 2 (by decide) (by decide)).trans (hq_6.i 96 2 (by decide) (by decide)))]
    exact K G_12 _ _ _ (Or.inl ⟨((((hq_13.r 0 0 (by decide) (by decide)).trans (hq_6.r 0 0 (by decide) (by decide)))).trans (hv_0_0)), ((((hq_13.r 0 1 (by decide) (by decide)).trans (hq_6.r 0 1 (by decide) (by decide)))).trans (hv_0_1)), ((((hq_13.r 6 4 (by decide) (by decide)).trans (hq_6.r 6 4 (by decide) (by decide)))).trans (hv_6_4)), by omega, by omega, by omega, by omega, by omega, by omega, by omega, by omega, by omega⟩) hB_G_12 hW hS (lv_sub hl [0, 1, 2, 3] rfl)
  · skip
    refine lv_aload_n hx hb dL_law_1372 rfl (lv_at hl 1 rfl) ?_
    refine lv_aload_n hx hb dL_law_1373 rfl (lv_at hl 0 rfl) ?_
    refine lv_iload_n hx hb dL_law_1374 rfl (lv_at hl 3 rfl) ?_
    refine lv_iconst (v := 1) hx hb dL_law_1375 (by decide) ?_
    refine lv_iadd hx hb dL_law_1376 ?_
    refine lv_topi (fun y_1 ey_1 => ?_)
    have ty_1 : y_1.toInt = i0.toInt + 1 := xI_add rfl rfl ey_1 (by omega) (by omega)
    refine va_sld hx hb hX hbl hbA hS (vin (by omega) (by omega)) dL_law_1377 ?_
    refine lv_topi (fun y_2 ey_2 => ?_)
    have u_3 : y_2.toInt = (xs (i0 + 1).toNatClampNeg).toInt := by rw [ey_2, ey_1]
    refine S_calli (va_runV (As := [.int y_2]) (rest := []) ⟨hx, hb, hml, hown, hts⟩ (k_Wwalker l D k A a z G y_2 ) (cwV 1 hts (gd_V hgd m1234 m1235 m1236 m117 m1237) rfl rfl rfl (by decide +kernel) ⟨Nat.le_of_ble_eq_true rfl, Nat.le_of_ble_eq_true rfl⟩) (pre_V hW hB_G hK hZ hS kd_0 rfl) rfl rfl hl.1 rfl (lv_room (Nat.le_of_ble_eq_true rfl)) dL_law_1378 ⟨Nat.le_of_ble_eq_true rfl, Nat.le_of_ble_eq_true rfl⟩) hS (fun r_4 G_5 H locs hpo hW hS => ?_)
    obtain ⟨hB_G_5, hq_6⟩ := hpo
    refine lv_pop hx hb dL_law_1381 rfl ?_
    refine lv_aload_n hx hb dL_law_1382 rfl (lv_at hl 2 rfl) ?_
    refine lv_aload_n hx hb dL_law_1383 rfl (lv_at hl 0 rfl) ?_
    refine lv_iload_n hx hb dL_law_1384 rfl (lv_at hl 3 rfl) ?_
    refine lv_iconst (v := 1) hx hb dL_law_1385 (by decide) ?_
    refine lv_iadd hx hb dL_law_1386 ?_
    refine lv_topi (fun y_8 ey_8 => ?_)
    have ty_8 : y_8.toInt = i0.toInt + 1 := xI_add rfl rfl ey_8 (by omega) (by omega)
    refine va_sld hx hb hX hbl hbA hS (vin (by omega) (by omega)) dL_law_1387 ?_
    refine lv_topi (fun y_9 ey_9 => ?_)
    have u_10 : y_9.toInt = (xs (i0 + 1).toNatClampNeg).toInt := by rw [ey_9, ey_8]
    refine S_calli (va_runV (As := [.int y_9]) (rest := []) ⟨hx, hb, hml, hown, hts⟩ (n_walker l D k A a z G_5 y_9 ) (cwV 1 hts (gd_V hgd m2031 m2032 m2033 m131 m2034) rfl rfl rfl (by decide +kernel) ⟨Nat.le_of_ble_eq_true rfl, Nat.le_of_ble_eq_true rfl⟩) (pre_V hW hB_G_5 hK hZ hS kd_66 rfl) rfl rfl hl.1 rfl (lv_room (Nat.le_of_ble_eq_true rfl)) dL_law_1388 ⟨Nat.le_of_ble_eq_true rfl, Nat.le_of_ble_eq_true rfl⟩) hS (fun r_11 G_12 H locs hpo hW hS => ?_)
    obtain ⟨hB_G_12, hq_13⟩ := hpo
    refine lv_pop hx hb dL_law_1391 rfl ?_
    refine lv_goto (tgt := 1642) hx hb dL_law_1392 (by decide) ?_
    have g_15 : gO G_12 = gO G := gO_fr (rs := []) (fs := []) ((Fr.rf.call hq_6 (by decide) (by decide)).call hq_13 (by decide) (by decide)) (by decide) (by decide)
    have g_16 : gP G_12 = gP G := gP_fr (rs := []) (fs := []) ((Fr.rf.call hq_6 (by decide) (by decide)).call hq_13 (by decide) (by decide)) (by decide) (by decide)
    have g_17 : gS G_12 = gS G := gS_fr (rs := []) (fs := []) ((Fr.rf.call hq_6 (by decide) (by decide)).call hq_13 (by decide) (by decide)) (by decide) (by decide)
    have g_18 : gW G_12 = gW G := gW_fr (rs := []) (fs := []) ((Fr.rf.call hq_6 (by decide) (by decide)).call hq_13 (by decide) (by decide)) (by decide) (by decide)
    have b_19 : 0 ≤ (G.1 0 11).toInt ∧ (G.1 0 11).toInt ≤ 1600 := hB_G.i 0 11 rfl rfl
    have g_20 : (G_12.1 0 11).toInt = (G.1 0 11).toInt := by rw [show G_12.1 0 11 = (G.1 0 11) from ((hq_13.i 0 11 (by decide) (by decide)).trans (hq_6.i 0 11 (by decide) (by decide)))]
    have b_21 : 0 ≤ (G.1 30 4).toInt ∧ (G.1 30 4).toInt ≤ 40 := hB_G.i 30 4 rfl rfl
    have g_22 : (G_12.1 30 4).toInt = (G.1 30 4).toInt := by rw [show G_12.1 30 4 = (G.1 30 4) from ((hq_13.i 30 4 (by decide) (by decide)).trans (hq_6.i 30 4 (by decide) (by decide)))]
    have b_23 : 0 ≤ (G.1 30 5).toInt ∧ (G.1 30 5).toInt ≤ 40 := hB_G.i 30 5 rfl rfl
    have g_24 : (G_12.1 30 5).toInt = (G.1 30 5).toInt := by rw [show G_12.1 30 5 = (G.1 30 5) from ((hq_13.i 30 5 (by decide) (by decide)).trans (hq_6.i 30 5 (by decide) (by decide)))]
    have b_25 : 0 ≤ (G.1 31 6).toInt ∧ (G.1 31 6).toInt ≤ 100000 := hB_G.i 31 6 rfl rfl
    have g_26 : (G_12.1 31 6).toInt = (G.1 31 6).toInt := by rw [show G_12.1 31 6 = (G.1 31 6) from ((hq_13.i 31 6 (by decide) (by decide)).trans (hq_6.i 31 6 (by decide) (by decide)))]
    have b_27 : 0 ≤ (G.1 66 1).toInt ∧ (G.1 66 1).toInt ≤ 1600 := hB_G.i 66 1 rfl rfl
    have g_28 : (G_12.1 66 1).toInt = (G.1 66 1).toInt := by rw [show G_12.1 66 1 = (G.1 66 1) from ((hq_13.i 66 1 (by decide) (by decide)).trans (hq_6.i 66 1 (by decide) (by decide)))]
    have b_29 : 0 ≤ (G.1 66 78).toInt ∧ (G.1 66 78).toInt ≤ 40 := hB_G.i 66 78 rfl rfl
    have g_30 : (G_12.1 66 78).toInt = (G.1 66 78).toInt := by rw [show G_12.1 66 78 = (G.1 66 78) from ((hq_13.i 66 78 (by decide) (by decide)).trans (hq_6.i 66 78 (by decide) (by decide)))]
    have b_31 : 0 ≤ (G.1 66 79).toInt ∧ (G.1 66 79).toInt ≤ 40 := hB_G.i 66 79 rfl rfl
    have g_32 : (G_12.1 66 79).toInt = (G.1 66 79).toInt := by rw [show G_12.1 66 79 = (G.1 66 79) from ((hq_13.i 66 79 (by decide) (by decide)).trans (hq_6.i 66 79 (by decide) (by decide)))]
    have b_33 : 0 ≤ (G.1 66 86).toInt ∧ (G.1 66 86).toInt ≤ 100000 := hB_G.i 66 86 rfl rfl
    have g_34 : (G_12.1 66 86).toInt = (G.1 66 86).toInt := by rw [show G_12.1 66 86 = (G.1 66 86) from ((hq_13.i 66 86 (by decide) (by decide)).trans (hq_6.i 66 86 (by decide) (by decide)))]
    have b_35 : 0 ≤ (G.1 96 0).toInt ∧ (G.1 96 0).toInt ≤ 9 := hB_G.i 96 0 rfl rfl
    have g_36 : (G_12.1 96 0).toInt = (G.1 96 0).toInt := by rw [show G_12.1 96 0 = (G.1 96 0) from ((hq_13.i 96 0 (by decide) (by decide)).trans (hq_6.i 96 0 (by decide) (by decide)))]
    have b_37 : 0 ≤ (G.1 96 1).toInt ∧ (G.1 96 1).toInt ≤ 9 := hB_G.i 96 1 rfl rfl
    have g_38 : (G_12.1 96 1).toInt = (G.1 96 1).toInt := by rw [show G_12.1 96 1 = (G.1 96 1) from ((hq_13.i 96 1 (by decide) (by decide)).trans (hq_6.i 96 1 (by decide) (by decide)))]
    have b_39 : 0 ≤ (G.1 96 2).toInt ∧ (G.1 96 2).toInt ≤ 9 := hB_G.i 96 2 rfl rfl
    have g_40 : (G_12.1 96 2).toInt = (G.1 96 2).toInt := by rw [show G_12.1 96 2 = (G.1 96 2) from ((hq_13.i 96 2 (by decide) (by decide)).trans (hq_6.i 96 2 (by decide) (by decide)))]
    exact K G_12 _ _ _ (Or.inr ⟨((((hq_13.r 0 0 (by decide) (by decide)).trans (hq_6.r 0 0 (by decide) (by decide)))).trans (hv_0_0)), ((((hq_13.r 0 1 (by decide) (by decide)).trans (hq_6.r 0 1 (by decide) (by decide)))).trans (hv_0_1)), ((((hq_13.r 6 4 (by decide) (by decide)).trans (hq_6.r 6 4 (by decide) (by decide)))).trans (hv_6_4)), by omega, by omega, by omega, by omega, by omega, by omega, by omega, by omega, by omega⟩) hB_G_12 hW hS (lv_sub hl [0, 1, 2, 3] rfl)

set_option maxHeartbeats 4000000 in
set_option maxRecDepth 100000 in
theorem law_30 {p : Program} {l : Launch} {e : Env} {s : State} {m : MethodId} {below : List Frame} {meth : Method} {c : Code} {D : va_G} {k : KT} {A : Nat → Prop} {a : Nat → Nat} {z : SK} {b L : Nat} {xs : Nat → Int32} (hL : L ≤ 3072) (C0 : lw_At p s m meth c b L xs) (hK : cK D k s) (hZ : Sx A z s) (hbA : ¬ A b) (hA : ∀ q : Nat, s.heap.size ≤ q → A q) {G : GS} {i0 : Int32} (hi0 : 0 ≤ i0.toInt) (hi6 : i0.toInt + 6 ≤ L) (hI : LI G) (hB_G : Bd G) {H : Heap} {locs : List Loc} {ls : Array Slot} (hW : Wd D k A a G H) (hS : va_S A s.heap H locs) (hl : lv_has ls 4 [(0, .ref b), (1, .ref (a 0)), (2, .ref (a 66)), (3, .int i0)]) (K : ∀ (G1 : GS) (H1 : Heap) (locs1 : List Loc) (ls1 : Array Slot), LI G1 → Bd G1 → Wd D k A a G1 H1 → va_S A s.heap H1 locs1 → lv_has ls1 4 [(0, .ref b), (1, .ref (a 0)), (2, .ref (a 66)), (3, .int i0)] → W p l e room_1 s m #[Value.ref b] below meth c H1 locs1 119 46443 (lw_Z below #[Value.ref b] s) (F0 m 1642 ls1 [])) : W p l e room_1 s m #[Value.ref b] below meth c H locs 119 46443 (lw_Z below #[Value.ref b] s) (F0 m 1395 ls []) := by
  obtain ⟨hx, hb, hr, hml, hown, hts, hX, hbl, hlocks, hgv⟩ := id C0
  have hown : s.vm.findClass RL = some m.cls := hown
  have hgd : ∀ w ∈ gd, w ∈ lw_tbl := fun w h => (List.mem_filter.mp h).1
  have hg : ∀ w ∈ gd, w.before #[Value.ref b] s = true := fun w h => hts w (hgd w h)
  rcases hI with ⟨hv_0_0, hv_0_1, hv_6_4, hj0, hj1, hj2, hj3, hj4, hj5, hj6, hj7, hj8⟩ | ⟨hv_0_0, hv_0_1, hv_6_4, hj0, hj1, hj2, hj3, hj4, hj5, hj6, hj7, hj8⟩
  · skip
    refine lv_aload_n hx hb dL_law_1395 rfl (lv_at hl 1 rfl) ?_
    refine lv_aload_n hx hb dL_law_1396 rfl (lv_at hl 0 rfl) ?_
    refine lv_iload_n hx hb dL_law_1397 rfl (lv_at hl 3 rfl) ?_
    refine lv_iconst (v := 1) hx hb dL_law_1398 (by decide) ?_
    refine lv_iadd hx hb dL_law_1399 ?_
    refine lv_topi (fun y_1 ey_1 => ?_)
    have ty_1 : y_1.toInt = i0.toInt + 1 := xI_add rfl rfl ey_1 (by omega) (by omega)
    refine va_sld hx hb hX hbl hbA hS (vin (by omega) (by omega)) dL_law_1400 ?_
    refine lv_topi (fun y_2 ey_2 => ?_)
    have u_3 : y_2.toInt = (xs (i0 + 1).toNatClampNeg).toInt := by rw [ey_2, ey_1]
    refine S_calli (va_runV (As := [.int y_2]) (rest := []) ⟨hx, hb, hml, hown, hts⟩ (k_Wlies l D k A a z G y_2 ) (cwV 1 hts (gd_V hgd m1238 m1239 m1240 m117 m1241) rfl rfl rfl (by decide +kernel) ⟨Nat.le_of_ble_eq_true rfl, Nat.le_of_ble_eq_true rfl⟩) (pre_V hW hB_G hK hZ hS kd_0 rfl) rfl rfl hl.1 rfl (lv_room (Nat.le_of_ble_eq_true rfl)) dL_law_1401 ⟨Nat.le_of_ble_eq_true rfl, Nat.le_of_ble_eq_true rfl⟩) hS (fun r_4 G_5 H locs hpo hW hS => ?_)
    obtain ⟨hB_G_5, hq_6⟩ := hpo
    refine lv_pop hx hb dL_law_1404 rfl ?_
    refine lv_aload_n hx hb dL_law_1405 rfl (lv_at hl 2 rfl) ?_
    refine lv_aload_n hx hb dL_law_1406 rfl (lv_at hl 0 rfl) ?_
    refine lv_iload_n hx hb dL_law_1407 rfl (lv_at hl 3 rfl) ?_
    refine lv_iconst (v := 1) hx hb dL_law_1408 (by decide) ?_
    refine lv_iadd hx hb dL_law_1409 ?_
    refine lv_topi (fun y_8 ey_8 => ?_)
    have ty_8 : y_8.toInt = i0.toInt + 1 := xI_add rfl rfl ey_8 (by omega) (by omega)
    refine va_sld hx hb hX hbl hbA hS (vin (by omega) (by omega)) dL_law_1410 ?_
    refine lv_topi (fun y_9 ey_9 => ?_)
    have u_10 : y_9.toInt = (xs (i0 + 1).toNatClampNeg).toInt := by rw [ey_9, ey_8]
    refine S_calli (va_runV (As := [.int y_9]) (rest := []) ⟨hx, hb, hml, hown, hts⟩ (n_lies l D k A a z G_5 y_9 ) (cwV 1 hts (gd_V hgd m2035 m2036 m2037 m131 m2038) rfl rfl rfl (by decide +kernel) ⟨Nat.le_of_ble_eq_true rfl, Nat.le_of_ble_eq_true rfl⟩) (pre_V hW hB_G_5 hK hZ hS kd_66 rfl) rfl rfl hl.1 rfl (lv_room (Nat.le_of_ble_eq_true rfl)) dL_law_1411 ⟨Nat.le_of_ble_eq_true rfl, Nat.le_of_ble_eq_true rfl⟩) hS (fun r_11 G_12 H locs hpo hW hS => ?_)
    obtain ⟨hB_G_12, hq_13⟩ := hpo
    refine lv_pop hx hb dL_law_1414 rfl ?_
    refine lv_goto (tgt := 1642) hx hb dL_law_1415 (by decide) ?_
    have g_15 : gO G_12 = gO G := gO_fr (rs := []) (fs := []) ((Fr.rf.call hq_6 (by decide) (by decide)).call hq_13 (by decide) (by decide)) (by decide) (by decide)
    have g_16 : gP G_12 = gP G := gP_fr (rs := []) (fs := []) ((Fr.rf.call hq_6 (by decide) (by decide)).call hq_13 (by decide) (by decide)) (by decide) (by decide)
    have g_17 : gS G_12 = gS G := gS_fr (rs := []) (fs := []) ((Fr.rf.call hq_6 (by decide) (by decide)).call hq_13 (by decide) (by decide)) (by decide) (by decide)
    have g_18 : gW G_12 = gW G := gW_fr (rs := []) (fs := []) ((Fr.rf.call hq_6 (by decide) (by decide)).call hq_13 (by decide) (by decide)) (by decide) (by decide)
    have b_19 : 0 ≤ (G.1 0 11).toInt ∧ (G.1 0 11).toInt ≤ 1600 := hB_G.i 0 11 rfl rfl
    have g_20 : (G_12.1 0 11).toInt = (G.1 0 11).toInt := by rw [show G_12.1 0 11 = (G.1 0 11) from ((hq_13.i 0 11 (by decide) (by decide)).trans (hq_6.i 0 11 (by decide) (by decide)))]
    have b_21 : 0 ≤ (G.1 30 4).toInt ∧ (G.1 30 4).toInt ≤ 40 := hB_G.i 30 4 rfl rfl
    have g_22 : (G_12.1 30 4).toInt = (G.1 30 4).toInt := by rw [show G_12.1 30 4 = (G.1 30 4) from ((hq_13.i 30 4 (by decide) (by decide)).trans (hq_6.i 30 4 (by decide) (by decide)))]
    have b_23 : 0 ≤ (G.1 30 5).toInt ∧ (G.1 30 5).toInt ≤ 40 := hB_G.i 30 5 rfl rfl
    have g_24 : (G_12.1 30 5).toInt = (G.1 30 5).toInt := by rw [show G_12.1 30 5 = (G.1 30 5) from ((hq_13.i 30 5 (by decide) (by decide)).trans (hq_6.i 30 5 (by decide) (by decide)))]
    have b_25 : 0 ≤ (G.1 31 6).toInt ∧ (G.1 31 6).toInt ≤ 100000 := hB_G.i 31 6 rfl rfl
    have g_26 : (G_12.1 31 6).toInt = (G.1 31 6).toInt := by rw [show G_12.1 31 6 = (G.1 31 6) from ((hq_13.i 31 6 (by decide) (by decide)).trans (hq_6.i 31 6 (by decide) (by decide)))]
    have b_27 : 0 ≤ (G.1 66 1).toInt ∧ (G.1 66 1).toInt ≤ 1600 := hB_G.i 66 1 rfl rfl
    have g_28 : (G_12.1 66 1).toInt = (G.1 66 1).toInt := by rw [show G_12.1 66 1 = (G.1 66 1) from ((hq_13.i 66 1 (by decide) (by decide)).trans (hq_6.i 66 1 (by decide) (by decide)))]
    have b_29 : 0 ≤ (G.1 66 78).toInt ∧ (G.1 66 78).toInt ≤ 40 := hB_G.i 66 78 rfl rfl
    have g_30 : (G_12.1 66 78).toInt = (G.1 66 78).toInt := by rw [show G_12.1 66 78 = (G.1 66 78) from ((hq_13.i 66 78 (by decide) (by decide)).trans (hq_6.i 66 78 (by decide) (by decide)))]
    have b_31 : 0 ≤ (G.1 66 79).toInt ∧ (G.1 66 79).toInt ≤ 40 := hB_G.i 66 79 rfl rfl
    have g_32 : (G_12.1 66 79).toInt = (G.1 66 79).toInt := by rw [show G_12.1 66 79 = (G.1 66 79) from ((hq_13.i 66 79 (by decide) (by decide)).trans (hq_6.i 66 79 (by decide) (by decide)))]
    have b_33 : 0 ≤ (G.1 66 86).toInt ∧ (G.1 66 86).toInt ≤ 100000 := hB_G.i 66 86 rfl rfl
    have g_34 : (G_12.1 66 86).toInt = (G.1 66 86).toInt := by rw [show G_12.1 66 86 = (G.1 66 86) from ((hq_13.i 66 86 (by decide) (by decide)).trans (hq_6.i 66 86 (by decide) (by decide)))]
    have b_35 : 0 ≤ (G.1 96 0).toInt ∧ (G.1 96 0).toInt ≤ 9 := hB_G.i 96 0 rfl rfl
    have g_36 : (G_12.1 96 0).toInt = (G.1 96 0).toInt := by rw [show G_12.1 96 0 = (G.1 96 0) from ((hq_13.i 96 0 (by decide) (by decide)).trans (hq_6.i 96 0 (by decide) (by decide)))]
    have b_37 : 0 ≤ (G.1 96 1).toInt ∧ (G.1 96 1).toInt ≤ 9 := hB_G.i 96 1 rfl rfl
    have g_38 : (G_12.1 96 1).toInt = (G.1 96 1).toInt := by rw [show G_12.1 96 1 = (G.1 96 1) from ((hq_13.i 96 1 (by decide) (by decide)).trans (hq_6.i 96 1 (by decide) (by decide)))]
    have b_39 : 0 ≤ (G.1 96 2).toInt ∧ (G.1 96 2).toInt ≤ 9 := hB_G.i 96 2 rfl rfl
    have g_40 : (G_12.1 96 2).toInt = (G.1 96 2).toInt := by rw [show G_12.1 96 2 = (G.1 96 2) from ((hq_13.i 96 2 (by decide) (by decide)).trans (hq_6.i 96 2 (by decide) (by decide)))]
    exact K G_12 _ _ _ (Or.inl ⟨((((hq_13.r 0 0 (by decide) (by decide)).trans (hq_6.r 0 0 (by decide) (by decide)))).trans (hv_0_0)), ((((hq_13.r 0 1 (by decide) (by decide)).trans (hq_6.r 0 1 (by decide) (by decide)))).trans (hv_0_1)), ((((hq_13.r 6 4 (by decide) (by decide)).trans (hq_6.r 6 4 (by decide) (by decide)))).trans (hv_6_4)), by omega, by omega, by omega, by omega, by omega, by omega, by omega, by omega, by omega⟩) hB_G_12 hW hS (lv_sub hl [0, 1, 2, 3] rfl)
  · skip
    refine lv_aload_n hx hb dL_law_1395 rfl (lv_at hl 1 rfl) ?_
    refine lv_aload_n hx hb dL_law_1396 rfl (lv_at hl 0 rfl) ?_
    refine lv_iload_n hx hb dL_law_1397 rfl (lv_at hl 3 rfl) ?_
    refine lv_iconst (v := 1) hx hb dL_law_1398 (by decide) ?_
    refine lv_iadd hx hb dL_law_1399 ?_
    refine lv_topi (fun y_1 ey_1 => ?_)
    have ty_1 : y_1.toInt = i0.toInt + 1 := xI_add rfl rfl ey_1 (by omega) (by omega)
    refine va_sld hx hb hX hbl hbA hS (vin (by omega) (by omega)) dL_law_1400 ?_
    refine lv_topi (fun y_2 ey_2 => ?_)
    have u_3 : y_2.toInt = (xs (i0 + 1).toNatClampNeg).toInt := by rw [ey_2, ey_1]
    refine S_calli (va_runV (As := [.int y_2]) (rest := []) ⟨hx, hb, hml, hown, hts⟩ (k_Wlies l D k A a z G y_2 ) (cwV 1 hts (gd_V hgd m1238 m1239 m1240 m117 m1241) rfl rfl rfl (by decide +kernel) ⟨Nat.le_of_ble_eq_true rfl, Nat.le_of_ble_eq_true rfl⟩) (pre_V hW hB_G hK hZ hS kd_0 rfl) rfl rfl hl.1 rfl (lv_room (Nat.le_of_ble_eq_true rfl)) dL_law_1401 ⟨Nat.le_of_ble_eq_true rfl, Nat.le_of_ble_eq_true rfl⟩) hS (fun r_4 G_5 H locs hpo hW hS => ?_)
    obtain ⟨hB_G_5, hq_6⟩ := hpo
    refine lv_pop hx hb dL_law_1404 rfl ?_
    refine lv_aload_n hx hb dL_law_1405 rfl (lv_at hl 2 rfl) ?_
    refine lv_aload_n hx hb dL_law_1406 rfl (lv_at hl 0 rfl) ?_
    refine lv_iload_n hx hb dL_law_1407 rfl (lv_at hl 3 rfl) ?_
    refine lv_iconst (v := 1) hx hb dL_law_1408 (by decide) ?_
    refine lv_iadd hx hb dL_law_1409 ?_
    refine lv_topi (fun y_8 ey_8 => ?_)
    have ty_8 : y_8.toInt = i0.toInt + 1 := xI_add rfl rfl ey_8 (by omega) (by omega)
    refine va_sld hx hb hX hbl hbA hS (vin (by omega) (by omega)) dL_law_1410 ?_
    refine lv_topi (fun y_9 ey_9 => ?_)
    have u_10 : y_9.toInt = (xs (i0 + 1).toNatClampNeg).toInt := by rw [ey_9, ey_8]
    refine S_calli (va_runV (As := [.int y_9]) (rest := []) ⟨hx, hb, hml, hown, hts⟩ (n_lies l D k A a z G_5 y_9 ) (cwV 1 hts (gd_V hgd m2035 m2036 m2037 m131 m2038) rfl rfl rfl (by decide +kernel) ⟨Nat.le_of_ble_eq_true rfl, Nat.le_of_ble_eq_true rfl⟩) (pre_V hW hB_G_5 hK hZ hS kd_66 rfl) rfl rfl hl.1 rfl (lv_room (Nat.le_of_ble_eq_true rfl)) dL_law_1411 ⟨Nat.le_of_ble_eq_true rfl, Nat.le_of_ble_eq_true rfl⟩) hS (fun r_11 G_12 H locs hpo hW hS => ?_)
    obtain ⟨hB_G_12, hq_13⟩ := hpo
    refine lv_pop hx hb dL_law_1414 rfl ?_
    refine lv_goto (tgt := 1642) hx hb dL_law_1415 (by decide) ?_
    have g_15 : gO G_12 = gO G := gO_fr (rs := []) (fs := []) ((Fr.rf.call hq_6 (by decide) (by decide)).call hq_13 (by decide) (by decide)) (by decide) (by decide)
    have g_16 : gP G_12 = gP G := gP_fr (rs := []) (fs := []) ((Fr.rf.call hq_6 (by decide) (by decide)).call hq_13 (by decide) (by decide)) (by decide) (by decide)
    have g_17 : gS G_12 = gS G := gS_fr (rs := []) (fs := []) ((Fr.rf.call hq_6 (by decide) (by decide)).call hq_13 (by decide) (by decide)) (by decide) (by decide)
    have g_18 : gW G_12 = gW G := gW_fr (rs := []) (fs := []) ((Fr.rf.call hq_6 (by decide) (by decide)).call hq_13 (by decide) (by decide)) (by decide) (by decide)
    have b_19 : 0 ≤ (G.1 0 11).toInt ∧ (G.1 0 11).toInt ≤ 1600 := hB_G.i 0 11 rfl rfl
    have g_20 : (G_12.1 0 11).toInt = (G.1 0 11).toInt := by rw [show G_12.1 0 11 = (G.1 0 11) from ((hq_13.i 0 11 (by decide) (by decide)).trans (hq_6.i 0 11 (by decide) (by decide)))]
    have b_21 : 0 ≤ (G.1 30 4).toInt ∧ (G.1 30 4).toInt ≤ 40 := hB_G.i 30 4 rfl rfl
    have g_22 : (G_12.1 30 4).toInt = (G.1 30 4).toInt := by rw [show G_12.1 30 4 = (G.1 30 4) from ((hq_13.i 30 4 (by decide) (by decide)).trans (hq_6.i 30 4 (by decide) (by decide)))]
    have b_23 : 0 ≤ (G.1 30 5).toInt ∧ (G.1 30 5).toInt ≤ 40 := hB_G.i 30 5 rfl rfl
    have g_24 : (G_12.1 30 5).toInt = (G.1 30 5).toInt := by rw [show G_12.1 30 5 = (G.1 30 5) from ((hq_13.i 30 5 (by decide) (by decide)).trans (hq_6.i 30 5 (by decide) (by decide)))]
    have b_25 : 0 ≤ (G.1 31 6).toInt ∧ (G.1 31 6).toInt ≤ 100000 := hB_G.i 31 6 rfl rfl
    have g_26 : (G_12.1 31 6).toInt = (G.1 31 6).toInt := by rw [show G_12.1 31 6 = (G.1 31 6) from ((hq_13.i 31 6 (by decide) (by decide)).trans (hq_6.i 31 6 (by decide) (by decide)))]
    have b_27 : 0 ≤ (G.1 66 1).toInt ∧ (G.1 66 1).toInt ≤ 1600 := hB_G.i 66 1 rfl rfl
    have g_28 : (G_12.1 66 1).toInt = (G.1 66 1).toInt := by rw [show G_12.1 66 1 = (G.1 66 1) from ((hq_13.i 66 1 (by decide) (by decide)).trans (hq_6.i 66 1 (by decide) (by decide)))]
    have b_29 : 0 ≤ (G.1 66 78).toInt ∧ (G.1 66 78).toInt ≤ 40 := hB_G.i 66 78 rfl rfl
    have g_30 : (G_12.1 66 78).toInt = (G.1 66 78).toInt := by rw [show G_12.1 66 78 = (G.1 66 78) from ((hq_13.i 66 78 (by decide) (by decide)).trans (hq_6.i 66 78 (by decide) (by decide)))]
    have b_31 : 0 ≤ (G.1 66 79).toInt ∧ (G.1 66 79).toInt ≤ 40 := hB_G.i 66 79 rfl rfl
    have g_32 : (G_12.1 66 79).toInt = (G.1 66 79).toInt := by rw [show G_12.1 66 79 = (G.1 66 79) from ((hq_13.i 66 79 (by decide) (by decide)).trans (hq_6.i 66 79 (by decide) (by decide)))]
    have b_33 : 0 ≤ (G.1 66 86).toInt ∧ (G.1 66 86).toInt ≤ 100000 := hB_G.i 66 86 rfl rfl
    have g_34 : (G_12.1 66 86).toInt = (G.1 66 86).toInt := by rw [show G_12.1 66 86 = (G.1 66 86) from ((hq_13.i 66 86 (by decide) (by decide)).trans (hq_6.i 66 86 (by decide) (by decide)))]
    have b_35 : 0 ≤ (G.1 96 0).toInt ∧ (G.1 96 0).toInt ≤ 9 := hB_G.i 96 0 rfl rfl
    have g_36 : (G_12.1 96 0).toInt = (G.1 96 0).toInt := by rw [show G_12.1 96 0 = (G.1 96 0) from ((hq_13.i 96 0 (by decide) (by decide)).trans (hq_6.i 96 0 (by decide) (by decide)))]
    have b_37 : 0 ≤ (G.1 96 1).toInt ∧ (G.1 96 1).toInt ≤ 9 := hB_G.i 96 1 rfl rfl
    have g_38 : (G_12.1 96 1).toInt = (G.1 96 1).toInt := by rw [show G_12.1 96 1 = (G.1 96 1) from ((hq_13.i 96 1 (by decide) (by decide)).trans (hq_6.i 96 1 (by decide) (by decide)))]
    have b_39 : 0 ≤ (G.1 96 2).toInt ∧ (G.1 96 2).toInt ≤ 9 := hB_G.i 96 2 rfl rfl
    have g_40 : (G_12.1 96 2).toInt = (G.1 96 2).toInt := by rw [show G_12.1 96 2 = (G.1 96 2) from ((hq_13.i 96 2 (by decide) (by decide)).trans (hq_6.i 96 2 (by decide) (by decide)))]
    exact K G_12 _ _ _ (Or.inr ⟨((((hq_13.r 0 0 (by decide) (by decide)).trans (hq_6.r 0 0 (by decide) (by decide)))).trans (hv_0_0)), ((((hq_13.r 0 1 (by decide) (by decide)).trans (hq_6.r 0 1 (by decide) (by decide)))).trans (hv_0_1)), ((((hq_13.r 6 4 (by decide) (by decide)).trans (hq_6.r 6 4 (by decide) (by decide)))).trans (hv_6_4)), by omega, by omega, by omega, by omega, by omega, by omega, by omega, by omega, by omega⟩) hB_G_12 hW hS (lv_sub hl [0, 1, 2, 3] rfl)
