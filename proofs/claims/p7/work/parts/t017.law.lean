theorem m1182 : Cond.methodLink RL 113 yX11_go ∈ gd := gd_mem 1182 (by decide +kernel) (by decide +kernel)
theorem m1183 : Cond.instanceMethod yX11_go ∈ gd := gd_mem 1183 (by decide +kernel) (by decide +kernel)
theorem m1184 : Cond.selects RX11 yX11_go yX11_go ∈ gd := gd_mem 1184 (by decide +kernel) (by decide +kernel)
theorem m1185 : Cond.code yX11_go cX11_go 5 (some .int) ∈ gd := gd_mem 1185 (by decide +kernel) (by decide +kernel)
theorem m1202 : Cond.methodLink RL 117 yX11_force ∈ gd := gd_mem 1202 (by decide +kernel) (by decide +kernel)
theorem m1203 : Cond.instanceMethod yX11_force ∈ gd := gd_mem 1203 (by decide +kernel) (by decide +kernel)
theorem m1204 : Cond.selects RX11 yX11_force yX11_force ∈ gd := gd_mem 1204 (by decide +kernel) (by decide +kernel)
theorem m1205 : Cond.code yX11_force cX11_force 2 (some .int) ∈ gd := gd_mem 1205 (by decide +kernel) (by decide +kernel)
theorem m1210 : Cond.methodLink RL 121 yX11_rain ∈ gd := gd_mem 1210 (by decide +kernel) (by decide +kernel)
theorem m1211 : Cond.instanceMethod yX11_rain ∈ gd := gd_mem 1211 (by decide +kernel) (by decide +kernel)
theorem m1212 : Cond.selects RX11 yX11_rain yX11_rain ∈ gd := gd_mem 1212 (by decide +kernel) (by decide +kernel)
theorem m1213 : Cond.code yX11_rain cX11_rain 1 (some .boolean) ∈ gd := gd_mem 1213 (by decide +kernel) (by decide +kernel)
theorem m1214 : Cond.methodLink RL 126 yX11_day ∈ gd := gd_mem 1214 (by decide +kernel) (by decide +kernel)
theorem m1215 : Cond.instanceMethod yX11_day ∈ gd := gd_mem 1215 (by decide +kernel) (by decide +kernel)
theorem m1216 : Cond.selects RX11 yX11_day yX11_day ∈ gd := gd_mem 1216 (by decide +kernel) (by decide +kernel)
theorem m1217 : Cond.code yX11_day cX11_day 1 (some .int) ∈ gd := gd_mem 1217 (by decide +kernel) (by decide +kernel)
theorem m1999 : Cond.methodLink RL 116 yX12_go ∈ gd := gd_mem 1999 (by decide +kernel) (by decide +kernel)
theorem m2000 : Cond.instanceMethod yX12_go ∈ gd := gd_mem 2000 (by decide +kernel) (by decide +kernel)
theorem m2001 : Cond.selects RX12 yX12_go yX12_go ∈ gd := gd_mem 2001 (by decide +kernel) (by decide +kernel)
theorem m2002 : Cond.code yX12_go cX12_go 5 (some .int) ∈ gd := gd_mem 2002 (by decide +kernel) (by decide +kernel)
theorem m2003 : Cond.methodLink RL 120 yX12_force ∈ gd := gd_mem 2003 (by decide +kernel) (by decide +kernel)
theorem m2004 : Cond.instanceMethod yX12_force ∈ gd := gd_mem 2004 (by decide +kernel) (by decide +kernel)
theorem m2005 : Cond.selects RX12 yX12_force yX12_force ∈ gd := gd_mem 2005 (by decide +kernel) (by decide +kernel)
theorem m2006 : Cond.code yX12_force cX12_force 2 (some .int) ∈ gd := gd_mem 2006 (by decide +kernel) (by decide +kernel)
theorem m2011 : Cond.methodLink RL 125 yX12_rain ∈ gd := gd_mem 2011 (by decide +kernel) (by decide +kernel)
theorem m2012 : Cond.instanceMethod yX12_rain ∈ gd := gd_mem 2012 (by decide +kernel) (by decide +kernel)
theorem m2013 : Cond.selects RX12 yX12_rain yX12_rain ∈ gd := gd_mem 2013 (by decide +kernel) (by decide +kernel)
theorem m2014 : Cond.code yX12_rain cX12_rain 1 (some .boolean) ∈ gd := gd_mem 2014 (by decide +kernel) (by decide +kernel)
theorem m2015 : Cond.methodLink RL 129 yX12_day ∈ gd := gd_mem 2015 (by decide +kernel) (by decide +kernel)
theorem m2016 : Cond.instanceMethod yX12_day ∈ gd := gd_mem 2016 (by decide +kernel) (by decide +kernel)
theorem m2017 : Cond.selects RX12 yX12_day yX12_day ∈ gd := gd_mem 2017 (by decide +kernel) (by decide +kernel)
theorem m2018 : Cond.code yX12_day cX12_day 1 (some .int) ∈ gd := gd_mem 2018 (by decide +kernel) (by decide +kernel)
theorem dL_law_1273 : decode cL_law 1273 = .ok (.aload_n 1, 1) := by decide +kernel
theorem dL_law_1274 : decode cL_law 1274 = .ok (.aload_n 0, 1) := by decide +kernel
theorem dL_law_1275 : decode cL_law 1275 = .ok (.iload_n 3, 1) := by decide +kernel
theorem dL_law_1276 : decode cL_law 1276 = .ok (.iconst 1, 1) := by decide +kernel
theorem dL_law_1277 : decode cL_law 1277 = .ok (.iadd, 1) := by decide +kernel
theorem dL_law_1278 : decode cL_law 1278 = .ok (.iaload, 1) := by decide +kernel
theorem dL_law_1279 : decode cL_law 1279 = .ok (.invokevirtual 113, 3) := by decide +kernel
theorem dL_law_1282 : decode cL_law 1282 = .ok (.pop, 1) := by decide +kernel
theorem dL_law_1283 : decode cL_law 1283 = .ok (.aload_n 2, 1) := by decide +kernel
theorem dL_law_1284 : decode cL_law 1284 = .ok (.aload_n 0, 1) := by decide +kernel
theorem dL_law_1285 : decode cL_law 1285 = .ok (.iload_n 3, 1) := by decide +kernel
theorem dL_law_1286 : decode cL_law 1286 = .ok (.iconst 1, 1) := by decide +kernel
theorem dL_law_1287 : decode cL_law 1287 = .ok (.iadd, 1) := by decide +kernel
theorem dL_law_1288 : decode cL_law 1288 = .ok (.iaload, 1) := by decide +kernel
theorem dL_law_1289 : decode cL_law 1289 = .ok (.invokevirtual 116, 3) := by decide +kernel
theorem dL_law_1292 : decode cL_law 1292 = .ok (.pop, 1) := by decide +kernel
theorem dL_law_1293 : decode cL_law 1293 = .ok (.goto 348, 3) := by decide +kernel
theorem dL_law_1296 : decode cL_law 1296 = .ok (.aload_n 1, 1) := by decide +kernel
theorem dL_law_1297 : decode cL_law 1297 = .ok (.aload_n 0, 1) := by decide +kernel
theorem dL_law_1298 : decode cL_law 1298 = .ok (.iload_n 3, 1) := by decide +kernel
theorem dL_law_1299 : decode cL_law 1299 = .ok (.iconst 1, 1) := by decide +kernel
theorem dL_law_1300 : decode cL_law 1300 = .ok (.iadd, 1) := by decide +kernel
theorem dL_law_1301 : decode cL_law 1301 = .ok (.iaload, 1) := by decide +kernel
theorem dL_law_1302 : decode cL_law 1302 = .ok (.invokevirtual 117, 3) := by decide +kernel
theorem dL_law_1305 : decode cL_law 1305 = .ok (.pop, 1) := by decide +kernel
theorem dL_law_1306 : decode cL_law 1306 = .ok (.aload_n 2, 1) := by decide +kernel
theorem dL_law_1307 : decode cL_law 1307 = .ok (.aload_n 0, 1) := by decide +kernel
theorem dL_law_1308 : decode cL_law 1308 = .ok (.iload_n 3, 1) := by decide +kernel
theorem dL_law_1309 : decode cL_law 1309 = .ok (.iconst 1, 1) := by decide +kernel
theorem dL_law_1310 : decode cL_law 1310 = .ok (.iadd, 1) := by decide +kernel
theorem dL_law_1311 : decode cL_law 1311 = .ok (.iaload, 1) := by decide +kernel
theorem dL_law_1312 : decode cL_law 1312 = .ok (.invokevirtual 120, 3) := by decide +kernel
theorem dL_law_1315 : decode cL_law 1315 = .ok (.pop, 1) := by decide +kernel
theorem dL_law_1316 : decode cL_law 1316 = .ok (.goto 325, 3) := by decide +kernel
theorem dL_law_1319 : decode cL_law 1319 = .ok (.aload_n 1, 1) := by decide +kernel
theorem dL_law_1320 : decode cL_law 1320 = .ok (.invokevirtual 121, 3) := by decide +kernel
theorem dL_law_1323 : decode cL_law 1323 = .ok (.pop, 1) := by decide +kernel
theorem dL_law_1324 : decode cL_law 1324 = .ok (.aload_n 2, 1) := by decide +kernel
theorem dL_law_1325 : decode cL_law 1325 = .ok (.invokevirtual 125, 3) := by decide +kernel
theorem dL_law_1328 : decode cL_law 1328 = .ok (.pop, 1) := by decide +kernel
theorem dL_law_1329 : decode cL_law 1329 = .ok (.goto 312, 3) := by decide +kernel
theorem dL_law_1332 : decode cL_law 1332 = .ok (.aload_n 1, 1) := by decide +kernel
theorem dL_law_1333 : decode cL_law 1333 = .ok (.invokevirtual 126, 3) := by decide +kernel
theorem dL_law_1336 : decode cL_law 1336 = .ok (.pop, 1) := by decide +kernel
theorem dL_law_1337 : decode cL_law 1337 = .ok (.aload_n 2, 1) := by decide +kernel
theorem dL_law_1338 : decode cL_law 1338 = .ok (.invokevirtual 129, 3) := by decide +kernel
theorem dL_law_1341 : decode cL_law 1341 = .ok (.pop, 1) := by decide +kernel
theorem dL_law_1342 : decode cL_law 1342 = .ok (.goto 299, 3) := by decide +kernel
set_option maxHeartbeats 4000000 in
set_option maxRecDepth 100000 in
theorem law_23 {p : Program} {l : Launch} {e : Env} {s : State} {m : MethodId} {below : List Frame} {meth : Method} {c : Code} {D : va_G} {k : KT} {A : Nat → Prop} {a : Nat → Nat} {z : SK} {b L : Nat} {xs : Nat → Int32} (hL : L ≤ 3072) (C0 : lw_At p s m meth c b L xs) (hK : cK D k s) (hZ : Sx A z s) (hbA : ¬ A b) {G : GS} {i0 : Int32} (hi0 : 0 ≤ i0.toInt) (hi6 : i0.toInt + 6 ≤ L) (hI : LI G) (hB_G : Bd G) {H : Heap} {locs : List Loc} {ls : Array Slot} (hW : Wd D k A a G H) (hS : va_S A s.heap H locs) (hl : lv_has ls 4 [(0, .ref b), (1, .ref (a 0)), (2, .ref (a 66)), (3, .int i0)]) (K : ∀ (G1 : GS) (H1 : Heap) (locs1 : List Loc) (ls1 : Array Slot), LI G1 → Bd G1 → Wd D k A a G1 H1 → va_S A s.heap H1 locs1 → lv_has ls1 4 [(0, .ref b), (1, .ref (a 0)), (2, .ref (a 66)), (3, .int i0)] → W p l e room_1 s m #[Value.ref b] below meth c H1 locs1 119 46443 (lw_Z below #[Value.ref b] s) (F0 m 1641 ls1 [])) : W p l e room_1 s m #[Value.ref b] below meth c H locs 119 46443 (lw_Z below #[Value.ref b] s) (F0 m 1273 ls []) := by
  obtain ⟨hx, hb, hr, hml, hown, hts, hX, hbl, hlocks, hgv⟩ := id C0
  have hown : s.vm.findClass RL = some m.cls := hown
  have hgd : ∀ w ∈ gd, w ∈ lw_tbl := fun w h => (List.mem_filter.mp h).1
  have hg : ∀ w ∈ gd, w.before #[Value.ref b] s = true := fun w h => hts w (hgd w h)
  rcases hI with ⟨hv_0_0, hv_0_1, hv_6_4, hj0, hj1, hj2, hj3, hj4, hj5, hj6, hj7, hj8, hj9, hj10, hj11⟩ | ⟨hv_0_0, hv_0_1, hv_6_4, hj0, hj1, hj2, hj3, hj4, hj5, hj6, hj7, hj8, hj9, hj10, hj11⟩
  · skip
    refine lv_aload_n hx hb dL_law_1273 rfl (lv_at hl 1 rfl) ?_
    refine lv_aload_n hx hb dL_law_1274 rfl (lv_at hl 0 rfl) ?_
    refine lv_iload_n hx hb dL_law_1275 rfl (lv_at hl 3 rfl) ?_
    refine lv_iconst (v := 1) hx hb dL_law_1276 (by decide) ?_
    refine lv_iadd hx hb dL_law_1277 ?_
    refine lv_topi (fun y_1 ey_1 => ?_)
    have ty_1 : y_1.toInt = i0.toInt + 1 := xI_add rfl rfl ey_1 (by omega) (by omega)
    refine va_sld hx hb hX hbl hbA hS (vin (by omega) (by omega)) dL_law_1278 ?_
    refine lv_topi (fun y_2 ey_2 => ?_)
    have u_3 : y_2.toInt = (xs (i0 + 1).toNatClampNeg).toInt := by rw [ey_2, ey_1]
    have b_4 : 0 ≤ (G.1 30 4).toInt ∧ (G.1 30 4).toInt ≤ 40 := hB_G.i 30 4 rfl rfl
    have b_5 : 0 ≤ (G.1 30 5).toInt ∧ (G.1 30 5).toInt ≤ 40 := hB_G.i 30 5 rfl rfl
    refine S_calli (va_runV (As := [.int y_2]) (rest := []) ⟨hx, hb, hml, hown, hts⟩ (k_Wgo_1 l D k A a z G y_2 hv_0_0 hv_0_1 hv_6_4 (by omega)) (cwV 1 hts (gd_V hgd m1182 m1183 m1184 m117 m1185) rfl rfl rfl (by decide +kernel) ⟨Nat.le_of_ble_eq_true rfl, Nat.le_of_ble_eq_true rfl⟩) (pre_V hW hB_G hK hZ hS kd_0 rfl) rfl rfl hl.1 rfl (lv_room (Nat.le_of_ble_eq_true rfl)) dL_law_1279 ⟨Nat.le_of_ble_eq_true rfl, Nat.le_of_ble_eq_true rfl⟩) hS (fun r_6 G_7 H locs hpo hW hS => ?_)
    have hX_10 : P_Wgo_1 y_2 G r_6 G_7 := hpo
    obtain ⟨hB_G_7, hq_8, hp_9, -⟩ := hpo
    refine lv_pop hx hb dL_law_1282 rfl ?_
    refine lv_aload_n hx hb dL_law_1283 rfl (lv_at hl 2 rfl) ?_
    refine lv_aload_n hx hb dL_law_1284 rfl (lv_at hl 0 rfl) ?_
    refine lv_iload_n hx hb dL_law_1285 rfl (lv_at hl 3 rfl) ?_
    refine lv_iconst (v := 1) hx hb dL_law_1286 (by decide) ?_
    refine lv_iadd hx hb dL_law_1287 ?_
    refine lv_topi (fun y_11 ey_11 => ?_)
    have ty_11 : y_11.toInt = i0.toInt + 1 := xI_add rfl rfl ey_11 (by omega) (by omega)
    refine va_sld hx hb hX hbl hbA hS (vin (by omega) (by omega)) dL_law_1288 ?_
    refine lv_topi (fun y_12 ey_12 => ?_)
    have u_13 : y_12.toInt = (xs (i0 + 1).toNatClampNeg).toInt := by rw [ey_12, ey_11]
    have g_14 : gP G_7 = gP G := gP_fr (rs := [37, 38, 39, 58, 59]) (fs := [(6, 3), (30, 4), (30, 5)]) (Fr.rf.call hq_8 (by decide) (by decide)) (by decide) (by decide)
    have b_15 : 0 ≤ (G.1 66 78).toInt ∧ (G.1 66 78).toInt ≤ 40 := hB_G.i 66 78 rfl rfl
    have g_16 : (G_7.1 66 78).toInt = (G.1 66 78).toInt := by rw [show G_7.1 66 78 = (G.1 66 78) from (hq_8.i 66 78 (by decide) (by decide))]
    have b_17 : 0 ≤ (G.1 66 79).toInt ∧ (G.1 66 79).toInt ≤ 40 := hB_G.i 66 79 rfl rfl
    have g_18 : (G_7.1 66 79).toInt = (G.1 66 79).toInt := by rw [show G_7.1 66 79 = (G.1 66 79) from (hq_8.i 66 79 (by decide) (by decide))]
    have b_19 : 0 ≤ (G.1 96 0).toInt ∧ (G.1 96 0).toInt ≤ 9 := hB_G.i 96 0 rfl rfl
    have g_20 : (G_7.1 96 0).toInt = (G.1 96 0).toInt := by rw [show G_7.1 96 0 = (G.1 96 0) from (hq_8.i 96 0 (by decide) (by decide))]
    have b_21 : 0 ≤ (G.1 96 1).toInt ∧ (G.1 96 1).toInt ≤ 9 := hB_G.i 96 1 rfl rfl
    have g_22 : (G_7.1 96 1).toInt = (G.1 96 1).toInt := by rw [show G_7.1 96 1 = (G.1 96 1) from (hq_8.i 96 1 (by decide) (by decide))]
    have b_23 : 0 ≤ (G.1 96 2).toInt ∧ (G.1 96 2).toInt ≤ 9 := hB_G.i 96 2 rfl rfl
    have g_24 : (G_7.1 96 2).toInt = (G.1 96 2).toInt := by rw [show G_7.1 96 2 = (G.1 96 2) from (hq_8.i 96 2 (by decide) (by decide))]
    refine S_calli (va_runV (As := [.int y_12]) (rest := []) ⟨hx, hb, hml, hown, hts⟩ (n_go l D k A a z G_7 y_12 (by omega) (by omega) (by omega)) (cwV 1 hts (gd_V hgd m1999 m2000 m2001 m131 m2002) rfl rfl rfl (by decide +kernel) ⟨Nat.le_of_ble_eq_true rfl, Nat.le_of_ble_eq_true rfl⟩) (pre_V hW hB_G_7 hK hZ hS kd_66 rfl) rfl rfl hl.1 rfl (lv_room (Nat.le_of_ble_eq_true rfl)) dL_law_1289 ⟨Nat.le_of_ble_eq_true rfl, Nat.le_of_ble_eq_true rfl⟩) hS (fun r_25 G_26 H locs hpo hW hS => ?_)
    have hX_29 : Q_go y_12 G_7 r_25 G_26 := hpo
    obtain ⟨hB_G_26, hq_27, hp_28, -⟩ := hpo
    obtain ⟨u_30, u_31⟩ := L_go_1 hX_10 hX_29 (by omega) (by omega) (by omega)
    refine lv_pop hx hb dL_law_1292 rfl ?_
    refine lv_goto (tgt := 1641) hx hb dL_law_1293 (by decide) ?_
    have g_32 : gO G_26 = gO G := gO_fr (rs := [37, 38, 39, 58, 59, 76, 97, 98, 110, 111]) (fs := [(6, 3), (30, 4), (30, 5), (66, 59), (66, 60), (66, 61), (66, 62), (66, 63), (66, 78), (66, 79)]) ((Fr.rf.call hq_8 (by decide) (by decide)).call hq_27 (by decide) (by decide)) (by decide) (by decide)
    have g_33 : gP G_26 = gP G := gP_fr (rs := [37, 38, 39, 58, 59, 76, 97, 98, 110, 111]) (fs := [(6, 3), (30, 4), (30, 5), (66, 59), (66, 60), (66, 61), (66, 62), (66, 63), (66, 78), (66, 79)]) ((Fr.rf.call hq_8 (by decide) (by decide)).call hq_27 (by decide) (by decide)) (by decide) (by decide)
    have g_34 : gS G_26 = gS G := gS_fr (rs := [37, 38, 39, 58, 59, 76, 97, 98, 110, 111]) (fs := [(6, 3), (30, 4), (30, 5), (66, 59), (66, 60), (66, 61), (66, 62), (66, 63), (66, 78), (66, 79)]) ((Fr.rf.call hq_8 (by decide) (by decide)).call hq_27 (by decide) (by decide)) (by decide) (by decide)
    have g_35 : gTE G_26 = gTE G := gTE_fr (rs := [37, 38, 39, 58, 59, 76, 97, 98, 110, 111]) (fs := [(6, 3), (30, 4), (30, 5), (66, 59), (66, 60), (66, 61), (66, 62), (66, 63), (66, 78), (66, 79)]) ((Fr.rf.call hq_8 (by decide) (by decide)).call hq_27 (by decide) (by decide)) (by decide) (by decide)
    have g_36 : gW G_26 = gW G := gW_fr (rs := [37, 38, 39, 58, 59, 76, 97, 98, 110, 111]) (fs := [(6, 3), (30, 4), (30, 5), (66, 59), (66, 60), (66, 61), (66, 62), (66, 63), (66, 78), (66, 79)]) ((Fr.rf.call hq_8 (by decide) (by decide)).call hq_27 (by decide) (by decide)) (by decide) (by decide)
    have b_37 : 0 ≤ (G.1 0 11).toInt ∧ (G.1 0 11).toInt ≤ 1600 := hB_G.i 0 11 rfl rfl
    have g_38 : (G_26.1 0 11).toInt = (G.1 0 11).toInt := by rw [show G_26.1 0 11 = (G.1 0 11) from ((hq_27.i 0 11 (by decide) (by decide)).trans (hq_8.i 0 11 (by decide) (by decide)))]
    have b_39 : 0 ≤ (G.1 3 7).toInt ∧ (G.1 3 7).toInt ≤ 4 := hB_G.i 3 7 rfl rfl
    have g_40 : (G_26.1 3 7).toInt = (G.1 3 7).toInt := by rw [show G_26.1 3 7 = (G.1 3 7) from ((hq_27.i 3 7 (by decide) (by decide)).trans (hq_8.i 3 7 (by decide) (by decide)))]
    have b_41 : (-1) ≤ (G.1 3 8).toInt ∧ (G.1 3 8).toInt ≤ 1600 := hB_G.i 3 8 rfl rfl
    have g_42 : (G_26.1 3 8).toInt = (G.1 3 8).toInt := by rw [show G_26.1 3 8 = (G.1 3 8) from ((hq_27.i 3 8 (by decide) (by decide)).trans (hq_8.i 3 8 (by decide) (by decide)))]
    have b_43 : 0 ≤ (G_7.1 30 4).toInt ∧ (G_7.1 30 4).toInt ≤ 40 := hB_G_7.i 30 4 rfl rfl
    have g_44 : (G_26.1 30 4).toInt = (G_7.1 30 4).toInt := by rw [show G_26.1 30 4 = (G_7.1 30 4) from (hq_27.i 30 4 (by decide) (by decide))]
    have b_45 : 0 ≤ (G_7.1 30 5).toInt ∧ (G_7.1 30 5).toInt ≤ 40 := hB_G_7.i 30 5 rfl rfl
    have g_46 : (G_26.1 30 5).toInt = (G_7.1 30 5).toInt := by rw [show G_26.1 30 5 = (G_7.1 30 5) from (hq_27.i 30 5 (by decide) (by decide))]
    have b_47 : 0 ≤ (G.1 31 6).toInt ∧ (G.1 31 6).toInt ≤ 100000 := hB_G.i 31 6 rfl rfl
    have g_48 : (G_26.1 31 6).toInt = (G.1 31 6).toInt := by rw [show G_26.1 31 6 = (G.1 31 6) from ((hq_27.i 31 6 (by decide) (by decide)).trans (hq_8.i 31 6 (by decide) (by decide)))]
    have b_49 : 0 ≤ (G.1 66 1).toInt ∧ (G.1 66 1).toInt ≤ 1600 := hB_G.i 66 1 rfl rfl
    have g_50 : (G_26.1 66 1).toInt = (G.1 66 1).toInt := by rw [show G_26.1 66 1 = (G.1 66 1) from ((hq_27.i 66 1 (by decide) (by decide)).trans (hq_8.i 66 1 (by decide) (by decide)))]
    have b_51 : 0 ≤ (G.1 66 2).toInt ∧ (G.1 66 2).toInt ≤ 4 := hB_G.i 66 2 rfl rfl
    have g_52 : (G_26.1 66 2).toInt = (G.1 66 2).toInt := by rw [show G_26.1 66 2 = (G.1 66 2) from ((hq_27.i 66 2 (by decide) (by decide)).trans (hq_8.i 66 2 (by decide) (by decide)))]
    have b_53 : (-1) ≤ (G.1 66 3).toInt ∧ (G.1 66 3).toInt ≤ 1600 := hB_G.i 66 3 rfl rfl
    have g_54 : (G_26.1 66 3).toInt = (G.1 66 3).toInt := by rw [show G_26.1 66 3 = (G.1 66 3) from ((hq_27.i 66 3 (by decide) (by decide)).trans (hq_8.i 66 3 (by decide) (by decide)))]
    have b_55 : 0 ≤ (G_26.1 66 78).toInt ∧ (G_26.1 66 78).toInt ≤ 40 := hB_G_26.i 66 78 rfl rfl
    have b_56 : 0 ≤ (G_26.1 66 79).toInt ∧ (G_26.1 66 79).toInt ≤ 40 := hB_G_26.i 66 79 rfl rfl
    have b_57 : 0 ≤ (G.1 66 86).toInt ∧ (G.1 66 86).toInt ≤ 100000 := hB_G.i 66 86 rfl rfl
    have g_58 : (G_26.1 66 86).toInt = (G.1 66 86).toInt := by rw [show G_26.1 66 86 = (G.1 66 86) from ((hq_27.i 66 86 (by decide) (by decide)).trans (hq_8.i 66 86 (by decide) (by decide)))]
    have g_59 : (G_26.1 96 0).toInt = (G.1 96 0).toInt := by rw [show G_26.1 96 0 = (G.1 96 0) from ((hq_27.i 96 0 (by decide) (by decide)).trans ((hq_8.i 96 0 (by decide) (by decide)).trans (rfl)))]
    have g_60 : (G_26.1 96 1).toInt = (G.1 96 1).toInt := by rw [show G_26.1 96 1 = (G.1 96 1) from ((hq_27.i 96 1 (by decide) (by decide)).trans ((hq_8.i 96 1 (by decide) (by decide)).trans (rfl)))]
    have g_61 : (G_26.1 96 2).toInt = (G.1 96 2).toInt := by rw [show G_26.1 96 2 = (G.1 96 2) from ((hq_27.i 96 2 (by decide) (by decide)).trans ((hq_8.i 96 2 (by decide) (by decide)).trans (rfl)))]
    exact K G_26 _ _ _ (Or.inl ⟨((((hq_27.r 0 0 (by decide) (by decide)).trans (hq_8.r 0 0 (by decide) (by decide)))).trans (hv_0_0)), ((((hq_27.r 0 1 (by decide) (by decide)).trans (hq_8.r 0 1 (by decide) (by decide)))).trans (hv_0_1)), ((((hq_27.r 6 4 (by decide) (by decide)).trans (hq_8.r 6 4 (by decide) (by decide)))).trans (hv_6_4)), by omega, by omega, by omega, by omega, by omega, by omega, by omega, by omega, by omega, by omega, by omega, by omega, by omega⟩) hB_G_26 hW hS (lv_sub hl [0, 1, 2, 3] rfl)
  · skip
    refine lv_aload_n hx hb dL_law_1273 rfl (lv_at hl 1 rfl) ?_
    refine lv_aload_n hx hb dL_law_1274 rfl (lv_at hl 0 rfl) ?_
    refine lv_iload_n hx hb dL_law_1275 rfl (lv_at hl 3 rfl) ?_
    refine lv_iconst (v := 1) hx hb dL_law_1276 (by decide) ?_
    refine lv_iadd hx hb dL_law_1277 ?_
    refine lv_topi (fun y_1 ey_1 => ?_)
    have ty_1 : y_1.toInt = i0.toInt + 1 := xI_add rfl rfl ey_1 (by omega) (by omega)
    refine va_sld hx hb hX hbl hbA hS (vin (by omega) (by omega)) dL_law_1278 ?_
    refine lv_topi (fun y_2 ey_2 => ?_)
    have u_3 : y_2.toInt = (xs (i0 + 1).toNatClampNeg).toInt := by rw [ey_2, ey_1]
    have b_4 : 0 ≤ (G.1 30 4).toInt ∧ (G.1 30 4).toInt ≤ 40 := hB_G.i 30 4 rfl rfl
    have b_5 : 0 ≤ (G.1 30 5).toInt ∧ (G.1 30 5).toInt ≤ 40 := hB_G.i 30 5 rfl rfl
    refine S_calli (va_runV (As := [.int y_2]) (rest := []) ⟨hx, hb, hml, hown, hts⟩ (k_Wgo_2 l D k A a z G y_2 hv_0_0 hv_0_1 hv_6_4 (by omega)) (cwV 1 hts (gd_V hgd m1182 m1183 m1184 m117 m1185) rfl rfl rfl (by decide +kernel) ⟨Nat.le_of_ble_eq_true rfl, Nat.le_of_ble_eq_true rfl⟩) (pre_V hW hB_G hK hZ hS kd_0 rfl) rfl rfl hl.1 rfl (lv_room (Nat.le_of_ble_eq_true rfl)) dL_law_1279 ⟨Nat.le_of_ble_eq_true rfl, Nat.le_of_ble_eq_true rfl⟩) hS (fun r_6 G_7 H locs hpo hW hS => ?_)
    have hX_10 : P_Wgo_2 y_2 G r_6 G_7 := hpo
    obtain ⟨hB_G_7, hq_8, hp_9, -⟩ := hpo
    refine lv_pop hx hb dL_law_1282 rfl ?_
    refine lv_aload_n hx hb dL_law_1283 rfl (lv_at hl 2 rfl) ?_
    refine lv_aload_n hx hb dL_law_1284 rfl (lv_at hl 0 rfl) ?_
    refine lv_iload_n hx hb dL_law_1285 rfl (lv_at hl 3 rfl) ?_
    refine lv_iconst (v := 1) hx hb dL_law_1286 (by decide) ?_
    refine lv_iadd hx hb dL_law_1287 ?_
    refine lv_topi (fun y_11 ey_11 => ?_)
    have ty_11 : y_11.toInt = i0.toInt + 1 := xI_add rfl rfl ey_11 (by omega) (by omega)
    refine va_sld hx hb hX hbl hbA hS (vin (by omega) (by omega)) dL_law_1288 ?_
    refine lv_topi (fun y_12 ey_12 => ?_)
    have u_13 : y_12.toInt = (xs (i0 + 1).toNatClampNeg).toInt := by rw [ey_12, ey_11]
    have g_14 : gP G_7 = gP G := gP_fr (rs := [37, 38, 39, 58, 59]) (fs := [(6, 3), (30, 4), (30, 5)]) (Fr.rf.call hq_8 (by decide) (by decide)) (by decide) (by decide)
    have b_15 : 0 ≤ (G.1 66 78).toInt ∧ (G.1 66 78).toInt ≤ 40 := hB_G.i 66 78 rfl rfl
    have g_16 : (G_7.1 66 78).toInt = (G.1 66 78).toInt := by rw [show G_7.1 66 78 = (G.1 66 78) from (hq_8.i 66 78 (by decide) (by decide))]
    have b_17 : 0 ≤ (G.1 66 79).toInt ∧ (G.1 66 79).toInt ≤ 40 := hB_G.i 66 79 rfl rfl
    have g_18 : (G_7.1 66 79).toInt = (G.1 66 79).toInt := by rw [show G_7.1 66 79 = (G.1 66 79) from (hq_8.i 66 79 (by decide) (by decide))]
    have b_19 : 0 ≤ (G.1 96 0).toInt ∧ (G.1 96 0).toInt ≤ 9 := hB_G.i 96 0 rfl rfl
    have g_20 : (G_7.1 96 0).toInt = (G.1 96 0).toInt := by rw [show G_7.1 96 0 = (G.1 96 0) from (hq_8.i 96 0 (by decide) (by decide))]
    have b_21 : 0 ≤ (G.1 96 1).toInt ∧ (G.1 96 1).toInt ≤ 9 := hB_G.i 96 1 rfl rfl
    have g_22 : (G_7.1 96 1).toInt = (G.1 96 1).toInt := by rw [show G_7.1 96 1 = (G.1 96 1) from (hq_8.i 96 1 (by decide) (by decide))]
    have b_23 : 0 ≤ (G.1 96 2).toInt ∧ (G.1 96 2).toInt ≤ 9 := hB_G.i 96 2 rfl rfl
    have g_24 : (G_7.1 96 2).toInt = (G.1 96 2).toInt := by rw [show G_7.1 96 2 = (G.1 96 2) from (hq_8.i 96 2 (by decide) (by decide))]
    refine S_calli (va_runV (As := [.int y_12]) (rest := []) ⟨hx, hb, hml, hown, hts⟩ (n_go l D k A a z G_7 y_12 (by omega) (by omega) (by omega)) (cwV 1 hts (gd_V hgd m1999 m2000 m2001 m131 m2002) rfl rfl rfl (by decide +kernel) ⟨Nat.le_of_ble_eq_true rfl, Nat.le_of_ble_eq_true rfl⟩) (pre_V hW hB_G_7 hK hZ hS kd_66 rfl) rfl rfl hl.1 rfl (lv_room (Nat.le_of_ble_eq_true rfl)) dL_law_1289 ⟨Nat.le_of_ble_eq_true rfl, Nat.le_of_ble_eq_true rfl⟩) hS (fun r_25 G_26 H locs hpo hW hS => ?_)
    have hX_29 : Q_go y_12 G_7 r_25 G_26 := hpo
    obtain ⟨hB_G_26, hq_27, hp_28, -⟩ := hpo
    obtain ⟨u_30, u_31⟩ := L_go_2 hX_10 hX_29 (by omega) (by omega) (by omega)
    refine lv_pop hx hb dL_law_1292 rfl ?_
    refine lv_goto (tgt := 1641) hx hb dL_law_1293 (by decide) ?_
    have g_32 : gO G_26 = gO G := gO_fr (rs := [37, 38, 39, 58, 59, 76, 97, 98, 110, 111]) (fs := [(6, 3), (30, 4), (30, 5), (66, 59), (66, 60), (66, 61), (66, 62), (66, 63), (66, 78), (66, 79)]) ((Fr.rf.call hq_8 (by decide) (by decide)).call hq_27 (by decide) (by decide)) (by decide) (by decide)
    have g_33 : gP G_26 = gP G := gP_fr (rs := [37, 38, 39, 58, 59, 76, 97, 98, 110, 111]) (fs := [(6, 3), (30, 4), (30, 5), (66, 59), (66, 60), (66, 61), (66, 62), (66, 63), (66, 78), (66, 79)]) ((Fr.rf.call hq_8 (by decide) (by decide)).call hq_27 (by decide) (by decide)) (by decide) (by decide)
    have g_34 : gS G_26 = gS G := gS_fr (rs := [37, 38, 39, 58, 59, 76, 97, 98, 110, 111]) (fs := [(6, 3), (30, 4), (30, 5), (66, 59), (66, 60), (66, 61), (66, 62), (66, 63), (66, 78), (66, 79)]) ((Fr.rf.call hq_8 (by decide) (by decide)).call hq_27 (by decide) (by decide)) (by decide) (by decide)
    have g_35 : gTE G_26 = gTE G := gTE_fr (rs := [37, 38, 39, 58, 59, 76, 97, 98, 110, 111]) (fs := [(6, 3), (30, 4), (30, 5), (66, 59), (66, 60), (66, 61), (66, 62), (66, 63), (66, 78), (66, 79)]) ((Fr.rf.call hq_8 (by decide) (by decide)).call hq_27 (by decide) (by decide)) (by decide) (by decide)
    have g_36 : gW G_26 = gW G := gW_fr (rs := [37, 38, 39, 58, 59, 76, 97, 98, 110, 111]) (fs := [(6, 3), (30, 4), (30, 5), (66, 59), (66, 60), (66, 61), (66, 62), (66, 63), (66, 78), (66, 79)]) ((Fr.rf.call hq_8 (by decide) (by decide)).call hq_27 (by decide) (by decide)) (by decide) (by decide)
    have b_37 : 0 ≤ (G.1 0 11).toInt ∧ (G.1 0 11).toInt ≤ 1600 := hB_G.i 0 11 rfl rfl
    have g_38 : (G_26.1 0 11).toInt = (G.1 0 11).toInt := by rw [show G_26.1 0 11 = (G.1 0 11) from ((hq_27.i 0 11 (by decide) (by decide)).trans (hq_8.i 0 11 (by decide) (by decide)))]
    have b_39 : 0 ≤ (G.1 3 7).toInt ∧ (G.1 3 7).toInt ≤ 4 := hB_G.i 3 7 rfl rfl
    have g_40 : (G_26.1 3 7).toInt = (G.1 3 7).toInt := by rw [show G_26.1 3 7 = (G.1 3 7) from ((hq_27.i 3 7 (by decide) (by decide)).trans (hq_8.i 3 7 (by decide) (by decide)))]
    have b_41 : (-1) ≤ (G.1 3 8).toInt ∧ (G.1 3 8).toInt ≤ 1600 := hB_G.i 3 8 rfl rfl
    have g_42 : (G_26.1 3 8).toInt = (G.1 3 8).toInt := by rw [show G_26.1 3 8 = (G.1 3 8) from ((hq_27.i 3 8 (by decide) (by decide)).trans (hq_8.i 3 8 (by decide) (by decide)))]
    have b_43 : 0 ≤ (G_7.1 30 4).toInt ∧ (G_7.1 30 4).toInt ≤ 40 := hB_G_7.i 30 4 rfl rfl
    have g_44 : (G_26.1 30 4).toInt = (G_7.1 30 4).toInt := by rw [show G_26.1 30 4 = (G_7.1 30 4) from (hq_27.i 30 4 (by decide) (by decide))]
    have b_45 : 0 ≤ (G_7.1 30 5).toInt ∧ (G_7.1 30 5).toInt ≤ 40 := hB_G_7.i 30 5 rfl rfl
    have g_46 : (G_26.1 30 5).toInt = (G_7.1 30 5).toInt := by rw [show G_26.1 30 5 = (G_7.1 30 5) from (hq_27.i 30 5 (by decide) (by decide))]
    have b_47 : 0 ≤ (G.1 31 6).toInt ∧ (G.1 31 6).toInt ≤ 100000 := hB_G.i 31 6 rfl rfl
    have g_48 : (G_26.1 31 6).toInt = (G.1 31 6).toInt := by rw [show G_26.1 31 6 = (G.1 31 6) from ((hq_27.i 31 6 (by decide) (by decide)).trans (hq_8.i 31 6 (by decide) (by decide)))]
    have b_49 : 0 ≤ (G.1 66 1).toInt ∧ (G.1 66 1).toInt ≤ 1600 := hB_G.i 66 1 rfl rfl
    have g_50 : (G_26.1 66 1).toInt = (G.1 66 1).toInt := by rw [show G_26.1 66 1 = (G.1 66 1) from ((hq_27.i 66 1 (by decide) (by decide)).trans (hq_8.i 66 1 (by decide) (by decide)))]
    have b_51 : 0 ≤ (G.1 66 2).toInt ∧ (G.1 66 2).toInt ≤ 4 := hB_G.i 66 2 rfl rfl
    have g_52 : (G_26.1 66 2).toInt = (G.1 66 2).toInt := by rw [show G_26.1 66 2 = (G.1 66 2) from ((hq_27.i 66 2 (by decide) (by decide)).trans (hq_8.i 66 2 (by decide) (by decide)))]
    have b_53 : (-1) ≤ (G.1 66 3).toInt ∧ (G.1 66 3).toInt ≤ 1600 := hB_G.i 66 3 rfl rfl
    have g_54 : (G_26.1 66 3).toInt = (G.1 66 3).toInt := by rw [show G_26.1 66 3 = (G.1 66 3) from ((hq_27.i 66 3 (by decide) (by decide)).trans (hq_8.i 66 3 (by decide) (by decide)))]
    have b_55 : 0 ≤ (G_26.1 66 78).toInt ∧ (G_26.1 66 78).toInt ≤ 40 := hB_G_26.i 66 78 rfl rfl
    have b_56 : 0 ≤ (G_26.1 66 79).toInt ∧ (G_26.1 66 79).toInt ≤ 40 := hB_G_26.i 66 79 rfl rfl
    have b_57 : 0 ≤ (G.1 66 86).toInt ∧ (G.1 66 86).toInt ≤ 100000 := hB_G.i 66 86 rfl rfl
    have g_58 : (G_26.1 66 86).toInt = (G.1 66 86).toInt := by rw [show G_26.1 66 86 = (G.1 66 86) from ((hq_27.i 66 86 (by decide) (by decide)).trans (hq_8.i 66 86 (by decide) (by decide)))]
    have g_59 : (G_26.1 96 0).toInt = (G.1 96 0).toInt := by rw [show G_26.1 96 0 = (G.1 96 0) from ((hq_27.i 96 0 (by decide) (by decide)).trans ((hq_8.i 96 0 (by decide) (by decide)).trans (rfl)))]
    have g_60 : (G_26.1 96 1).toInt = (G.1 96 1).toInt := by rw [show G_26.1 96 1 = (G.1 96 1) from ((hq_27.i 96 1 (by decide) (by decide)).trans ((hq_8.i 96 1 (by decide) (by decide)).trans (rfl)))]
    have g_61 : (G_26.1 96 2).toInt = (G.1 96 2).toInt := by rw [show G_26.1 96 2 = (G.1 96 2) from ((hq_27.i 96 2 (by decide) (by decide)).trans ((hq_8.i 96 2 (by decide) (by decide)).trans (rfl)))]
    exact K G_26 _ _ _ (Or.inr ⟨((((hq_27.r 0 0 (by decide) (by decide)).trans (hq_8.r 0 0 (by decide) (by decide)))).trans (hv_0_0)), ((((hq_27.r 0 1 (by decide) (by decide)).trans (hq_8.r 0 1 (by decide) (by decide)))).trans (hv_0_1)), ((((hq_27.r 6 4 (by decide) (by decide)).trans (hq_8.r 6 4 (by decide) (by decide)))).trans (hv_6_4)), by omega, by omega, by omega, by omega, by omega, by omega, by omega, by omega, by omega, by omega, by omega, by omega, by omega⟩) hB_G_26 hW hS (lv_sub hl [0, 1, 2, 3] rfl)

set_option maxHeartbeats 4000000 in
set_option maxRecDepth 100000 in
theorem law_24 {p : Program} {l : Launch} {e : Env} {s : State} {m : MethodId} {below : List Frame} {meth : Method} {c : Code} {D : va_G} {k : KT} {A : Nat → Prop} {a : Nat → Nat} {z : SK} {b L : Nat} {xs : Nat → Int32} (hL : L ≤ 3072) (C0 : lw_At p s m meth c b L xs) (hK : cK D k s) (hZ : Sx A z s) (hbA : ¬ A b) {G : GS} {i0 : Int32} (hi0 : 0 ≤ i0.toInt) (hi6 : i0.toInt + 6 ≤ L) (hI : LI G) (hB_G : Bd G) {H : Heap} {locs : List Loc} {ls : Array Slot} (hW : Wd D k A a G H) (hS : va_S A s.heap H locs) (hl : lv_has ls 4 [(0, .ref b), (1, .ref (a 0)), (2, .ref (a 66)), (3, .int i0)]) (K : ∀ (G1 : GS) (H1 : Heap) (locs1 : List Loc) (ls1 : Array Slot), LI G1 → Bd G1 → Wd D k A a G1 H1 → va_S A s.heap H1 locs1 → lv_has ls1 4 [(0, .ref b), (1, .ref (a 0)), (2, .ref (a 66)), (3, .int i0)] → W p l e room_1 s m #[Value.ref b] below meth c H1 locs1 119 46443 (lw_Z below #[Value.ref b] s) (F0 m 1641 ls1 [])) : W p l e room_1 s m #[Value.ref b] below meth c H locs 119 46443 (lw_Z below #[Value.ref b] s) (F0 m 1296 ls []) := by
  obtain ⟨hx, hb, hr, hml, hown, hts, hX, hbl, hlocks, hgv⟩ := id C0
  have hown : s.vm.findClass RL = some m.cls := hown
  have hgd : ∀ w ∈ gd, w ∈ lw_tbl := fun w h => (List.mem_filter.mp h).1
  have hg : ∀ w ∈ gd, w.before #[Value.ref b] s = true := fun w h => hts w (hgd w h)
  rcases hI with ⟨hv_0_0, hv_0_1, hv_6_4, hj0, hj1, hj2, hj3, hj4, hj5, hj6, hj7, hj8, hj9, hj10, hj11⟩ | ⟨hv_0_0, hv_0_1, hv_6_4, hj0, hj1, hj2, hj3, hj4, hj5, hj6, hj7, hj8, hj9, hj10, hj11⟩
  · skip
    refine lv_aload_n hx hb dL_law_1296 rfl (lv_at hl 1 rfl) ?_
    refine lv_aload_n hx hb dL_law_1297 rfl (lv_at hl 0 rfl) ?_
    refine lv_iload_n hx hb dL_law_1298 rfl (lv_at hl 3 rfl) ?_
    refine lv_iconst (v := 1) hx hb dL_law_1299 (by decide) ?_
    refine lv_iadd hx hb dL_law_1300 ?_
    refine lv_topi (fun y_1 ey_1 => ?_)
    have ty_1 : y_1.toInt = i0.toInt + 1 := xI_add rfl rfl ey_1 (by omega) (by omega)
    refine va_sld hx hb hX hbl hbA hS (vin (by omega) (by omega)) dL_law_1301 ?_
    refine lv_topi (fun y_2 ey_2 => ?_)
    have u_3 : y_2.toInt = (xs (i0 + 1).toNatClampNeg).toInt := by rw [ey_2, ey_1]
    have b_4 : 0 ≤ (G.1 30 4).toInt ∧ (G.1 30 4).toInt ≤ 40 := hB_G.i 30 4 rfl rfl
    have b_5 : 0 ≤ (G.1 30 5).toInt ∧ (G.1 30 5).toInt ≤ 40 := hB_G.i 30 5 rfl rfl
    refine S_calli (va_runV (As := [.int y_2]) (rest := []) ⟨hx, hb, hml, hown, hts⟩ (k_Wforce_1 l D k A a z G y_2 hv_0_0 hv_0_1 hv_6_4 (by omega)) (cwV 1 hts (gd_V hgd m1202 m1203 m1204 m117 m1205) rfl rfl rfl (by decide +kernel) ⟨Nat.le_of_ble_eq_true rfl, Nat.le_of_ble_eq_true rfl⟩) (pre_V hW hB_G hK hZ hS kd_0 rfl) rfl rfl hl.1 rfl (lv_room (Nat.le_of_ble_eq_true rfl)) dL_law_1302 ⟨Nat.le_of_ble_eq_true rfl, Nat.le_of_ble_eq_true rfl⟩) hS (fun r_6 G_7 H locs hpo hW hS => ?_)
    have hX_10 : P_Wforce_1 y_2 G r_6 G_7 := hpo
    obtain ⟨hB_G_7, hq_8, hp_9, -⟩ := hpo
    refine lv_pop hx hb dL_law_1305 rfl ?_
    refine lv_aload_n hx hb dL_law_1306 rfl (lv_at hl 2 rfl) ?_
    refine lv_aload_n hx hb dL_law_1307 rfl (lv_at hl 0 rfl) ?_
    refine lv_iload_n hx hb dL_law_1308 rfl (lv_at hl 3 rfl) ?_
    refine lv_iconst (v := 1) hx hb dL_law_1309 (by decide) ?_
    refine lv_iadd hx hb dL_law_1310 ?_
    refine lv_topi (fun y_11 ey_11 => ?_)
    have ty_11 : y_11.toInt = i0.toInt + 1 := xI_add rfl rfl ey_11 (by omega) (by omega)
    refine va_sld hx hb hX hbl hbA hS (vin (by omega) (by omega)) dL_law_1311 ?_
    refine lv_topi (fun y_12 ey_12 => ?_)
    have u_13 : y_12.toInt = (xs (i0 + 1).toNatClampNeg).toInt := by rw [ey_12, ey_11]
    have b_14 : 0 ≤ (G.1 66 78).toInt ∧ (G.1 66 78).toInt ≤ 40 := hB_G.i 66 78 rfl rfl
    have g_15 : (G_7.1 66 78).toInt = (G.1 66 78).toInt := by rw [show G_7.1 66 78 = (G.1 66 78) from (hq_8.i 66 78 (by decide) (by decide))]
    have b_16 : 0 ≤ (G.1 66 79).toInt ∧ (G.1 66 79).toInt ≤ 40 := hB_G.i 66 79 rfl rfl
    have g_17 : (G_7.1 66 79).toInt = (G.1 66 79).toInt := by rw [show G_7.1 66 79 = (G.1 66 79) from (hq_8.i 66 79 (by decide) (by decide))]
    refine S_calli (va_runV (As := [.int y_12]) (rest := []) ⟨hx, hb, hml, hown, hts⟩ (n_force l D k A a z G_7 y_12 (by omega)) (cwV 1 hts (gd_V hgd m2003 m2004 m2005 m131 m2006) rfl rfl rfl (by decide +kernel) ⟨Nat.le_of_ble_eq_true rfl, Nat.le_of_ble_eq_true rfl⟩) (pre_V hW hB_G_7 hK hZ hS kd_66 rfl) rfl rfl hl.1 rfl (lv_room (Nat.le_of_ble_eq_true rfl)) dL_law_1312 ⟨Nat.le_of_ble_eq_true rfl, Nat.le_of_ble_eq_true rfl⟩) hS (fun r_18 G_19 H locs hpo hW hS => ?_)
    have hX_22 : Q_force y_12 G_7 r_18 G_19 := hpo
    obtain ⟨hB_G_19, hq_20, hp_21, -⟩ := hpo
    obtain ⟨u_23, u_24⟩ := L_force_1 hX_10 hX_22 (by omega) (by omega)
    refine lv_pop hx hb dL_law_1315 rfl ?_
    refine lv_goto (tgt := 1641) hx hb dL_law_1316 (by decide) ?_
    have g_25 : gO G_19 = gO G := gO_fr (rs := [58, 59, 110, 111]) (fs := [(30, 4), (30, 5), (66, 78), (66, 79)]) ((Fr.rf.call hq_8 (by decide) (by decide)).call hq_20 (by decide) (by decide)) (by decide) (by decide)
    have g_26 : gP G_19 = gP G := gP_fr (rs := [58, 59, 110, 111]) (fs := [(30, 4), (30, 5), (66, 78), (66, 79)]) ((Fr.rf.call hq_8 (by decide) (by decide)).call hq_20 (by decide) (by decide)) (by decide) (by decide)
    have g_27 : gS G_19 = gS G := gS_fr (rs := [58, 59, 110, 111]) (fs := [(30, 4), (30, 5), (66, 78), (66, 79)]) ((Fr.rf.call hq_8 (by decide) (by decide)).call hq_20 (by decide) (by decide)) (by decide) (by decide)
    have g_28 : gTE G_19 = gTE G := gTE_fr (rs := [58, 59, 110, 111]) (fs := [(30, 4), (30, 5), (66, 78), (66, 79)]) ((Fr.rf.call hq_8 (by decide) (by decide)).call hq_20 (by decide) (by decide)) (by decide) (by decide)
    have g_29 : gW G_19 = gW G := gW_fr (rs := [58, 59, 110, 111]) (fs := [(30, 4), (30, 5), (66, 78), (66, 79)]) ((Fr.rf.call hq_8 (by decide) (by decide)).call hq_20 (by decide) (by decide)) (by decide) (by decide)
    have b_30 : 0 ≤ (G.1 0 11).toInt ∧ (G.1 0 11).toInt ≤ 1600 := hB_G.i 0 11 rfl rfl
    have g_31 : (G_19.1 0 11).toInt = (G.1 0 11).toInt := by rw [show G_19.1 0 11 = (G.1 0 11) from ((hq_20.i 0 11 (by decide) (by decide)).trans (hq_8.i 0 11 (by decide) (by decide)))]
    have b_32 : 0 ≤ (G.1 3 7).toInt ∧ (G.1 3 7).toInt ≤ 4 := hB_G.i 3 7 rfl rfl
    have g_33 : (G_19.1 3 7).toInt = (G.1 3 7).toInt := by rw [show G_19.1 3 7 = (G.1 3 7) from ((hq_20.i 3 7 (by decide) (by decide)).trans (hq_8.i 3 7 (by decide) (by decide)))]
    have b_34 : (-1) ≤ (G.1 3 8).toInt ∧ (G.1 3 8).toInt ≤ 1600 := hB_G.i 3 8 rfl rfl
    have g_35 : (G_19.1 3 8).toInt = (G.1 3 8).toInt := by rw [show G_19.1 3 8 = (G.1 3 8) from ((hq_20.i 3 8 (by decide) (by decide)).trans (hq_8.i 3 8 (by decide) (by decide)))]
    have b_36 : 0 ≤ (G_7.1 30 4).toInt ∧ (G_7.1 30 4).toInt ≤ 40 := hB_G_7.i 30 4 rfl rfl
    have g_37 : (G_19.1 30 4).toInt = (G_7.1 30 4).toInt := by rw [show G_19.1 30 4 = (G_7.1 30 4) from (hq_20.i 30 4 (by decide) (by decide))]
    have b_38 : 0 ≤ (G_7.1 30 5).toInt ∧ (G_7.1 30 5).toInt ≤ 40 := hB_G_7.i 30 5 rfl rfl
    have g_39 : (G_19.1 30 5).toInt = (G_7.1 30 5).toInt := by rw [show G_19.1 30 5 = (G_7.1 30 5) from (hq_20.i 30 5 (by decide) (by decide))]
    have b_40 : 0 ≤ (G.1 31 6).toInt ∧ (G.1 31 6).toInt ≤ 100000 := hB_G.i 31 6 rfl rfl
    have g_41 : (G_19.1 31 6).toInt = (G.1 31 6).toInt := by rw [show G_19.1 31 6 = (G.1 31 6) from ((hq_20.i 31 6 (by decide) (by decide)).trans (hq_8.i 31 6 (by decide) (by decide)))]
    have b_42 : 0 ≤ (G.1 66 1).toInt ∧ (G.1 66 1).toInt ≤ 1600 := hB_G.i 66 1 rfl rfl
    have g_43 : (G_19.1 66 1).toInt = (G.1 66 1).toInt := by rw [show G_19.1 66 1 = (G.1 66 1) from ((hq_20.i 66 1 (by decide) (by decide)).trans (hq_8.i 66 1 (by decide) (by decide)))]
    have b_44 : 0 ≤ (G.1 66 2).toInt ∧ (G.1 66 2).toInt ≤ 4 := hB_G.i 66 2 rfl rfl
    have g_45 : (G_19.1 66 2).toInt = (G.1 66 2).toInt := by rw [show G_19.1 66 2 = (G.1 66 2) from ((hq_20.i 66 2 (by decide) (by decide)).trans (hq_8.i 66 2 (by decide) (by decide)))]
    have b_46 : (-1) ≤ (G.1 66 3).toInt ∧ (G.1 66 3).toInt ≤ 1600 := hB_G.i 66 3 rfl rfl
    have g_47 : (G_19.1 66 3).toInt = (G.1 66 3).toInt := by rw [show G_19.1 66 3 = (G.1 66 3) from ((hq_20.i 66 3 (by decide) (by decide)).trans (hq_8.i 66 3 (by decide) (by decide)))]
    have b_48 : 0 ≤ (G_19.1 66 78).toInt ∧ (G_19.1 66 78).toInt ≤ 40 := hB_G_19.i 66 78 rfl rfl
    have b_49 : 0 ≤ (G_19.1 66 79).toInt ∧ (G_19.1 66 79).toInt ≤ 40 := hB_G_19.i 66 79 rfl rfl
    have b_50 : 0 ≤ (G.1 66 86).toInt ∧ (G.1 66 86).toInt ≤ 100000 := hB_G.i 66 86 rfl rfl
    have g_51 : (G_19.1 66 86).toInt = (G.1 66 86).toInt := by rw [show G_19.1 66 86 = (G.1 66 86) from ((hq_20.i 66 86 (by decide) (by decide)).trans (hq_8.i 66 86 (by decide) (by decide)))]
    have b_52 : 0 ≤ (G.1 96 0).toInt ∧ (G.1 96 0).toInt ≤ 9 := hB_G.i 96 0 rfl rfl
    have g_53 : (G_19.1 96 0).toInt = (G.1 96 0).toInt := by rw [show G_19.1 96 0 = (G.1 96 0) from ((hq_20.i 96 0 (by decide) (by decide)).trans (hq_8.i 96 0 (by decide) (by decide)))]
    have b_54 : 0 ≤ (G.1 96 1).toInt ∧ (G.1 96 1).toInt ≤ 9 := hB_G.i 96 1 rfl rfl
    have g_55 : (G_19.1 96 1).toInt = (G.1 96 1).toInt := by rw [show G_19.1 96 1 = (G.1 96 1) from ((hq_20.i 96 1 (by decide) (by decide)).trans (hq_8.i 96 1 (by decide) (by decide)))]
    have b_56 : 0 ≤ (G.1 96 2).toInt ∧ (G.1 96 2).toInt ≤ 9 := hB_G.i 96 2 rfl rfl
    have g_57 : (G_19.1 96 2).toInt = (G.1 96 2).toInt := by rw [show G_19.1 96 2 = (G.1 96 2) from ((hq_20.i 96 2 (by decide) (by decide)).trans (hq_8.i 96 2 (by decide) (by decide)))]
    exact K G_19 _ _ _ (Or.inl ⟨((((hq_20.r 0 0 (by decide) (by decide)).trans (hq_8.r 0 0 (by decide) (by decide)))).trans (hv_0_0)), ((((hq_20.r 0 1 (by decide) (by decide)).trans (hq_8.r 0 1 (by decide) (by decide)))).trans (hv_0_1)), ((((hq_20.r 6 4 (by decide) (by decide)).trans (hq_8.r 6 4 (by decide) (by decide)))).trans (hv_6_4)), by omega, by omega, by omega, by omega, by omega, by omega, by omega, by omega, by omega, by omega, by omega, by omega, by omega⟩) hB_G_19 hW hS (lv_sub hl [0, 1, 2, 3] rfl)
  · skip
    refine lv_aload_n hx hb dL_law_1296 rfl (lv_at hl 1 rfl) ?_
    refine lv_aload_n hx hb dL_law_1297 rfl (lv_at hl 0 rfl) ?_
    refine lv_iload_n hx hb dL_law_1298 rfl (lv_at hl 3 rfl) ?_
    refine lv_iconst (v := 1) hx hb dL_law_1299 (by decide) ?_
    refine lv_iadd hx hb dL_law_1300 ?_
    refine lv_topi (fun y_1 ey_1 => ?_)
    have ty_1 : y_1.toInt = i0.toInt + 1 := xI_add rfl rfl ey_1 (by omega) (by omega)
    refine va_sld hx hb hX hbl hbA hS (vin (by omega) (by omega)) dL_law_1301 ?_
    refine lv_topi (fun y_2 ey_2 => ?_)
    have u_3 : y_2.toInt = (xs (i0 + 1).toNatClampNeg).toInt := by rw [ey_2, ey_1]
    have b_4 : 0 ≤ (G.1 30 4).toInt ∧ (G.1 30 4).toInt ≤ 40 := hB_G.i 30 4 rfl rfl
    have b_5 : 0 ≤ (G.1 30 5).toInt ∧ (G.1 30 5).toInt ≤ 40 := hB_G.i 30 5 rfl rfl
    refine S_calli (va_runV (As := [.int y_2]) (rest := []) ⟨hx, hb, hml, hown, hts⟩ (k_Wforce_2 l D k A a z G y_2 hv_0_0 hv_0_1 hv_6_4 (by omega)) (cwV 1 hts (gd_V hgd m1202 m1203 m1204 m117 m1205) rfl rfl rfl (by decide +kernel) ⟨Nat.le_of_ble_eq_true rfl, Nat.le_of_ble_eq_true rfl⟩) (pre_V hW hB_G hK hZ hS kd_0 rfl) rfl rfl hl.1 rfl (lv_room (Nat.le_of_ble_eq_true rfl)) dL_law_1302 ⟨Nat.le_of_ble_eq_true rfl, Nat.le_of_ble_eq_true rfl⟩) hS (fun r_6 G_7 H locs hpo hW hS => ?_)
    have hX_10 : P_Wforce_2 y_2 G r_6 G_7 := hpo
    obtain ⟨hB_G_7, hq_8, hp_9, -⟩ := hpo
    refine lv_pop hx hb dL_law_1305 rfl ?_
    refine lv_aload_n hx hb dL_law_1306 rfl (lv_at hl 2 rfl) ?_
    refine lv_aload_n hx hb dL_law_1307 rfl (lv_at hl 0 rfl) ?_
    refine lv_iload_n hx hb dL_law_1308 rfl (lv_at hl 3 rfl) ?_
    refine lv_iconst (v := 1) hx hb dL_law_1309 (by decide) ?_
    refine lv_iadd hx hb dL_law_1310 ?_
    refine lv_topi (fun y_11 ey_11 => ?_)
    have ty_11 : y_11.toInt = i0.toInt + 1 := xI_add rfl rfl ey_11 (by omega) (by omega)
    refine va_sld hx hb hX hbl hbA hS (vin (by omega) (by omega)) dL_law_1311 ?_
    refine lv_topi (fun y_12 ey_12 => ?_)
    have u_13 : y_12.toInt = (xs (i0 + 1).toNatClampNeg).toInt := by rw [ey_12, ey_11]
    have b_14 : 0 ≤ (G.1 66 78).toInt ∧ (G.1 66 78).toInt ≤ 40 := hB_G.i 66 78 rfl rfl
    have g_15 : (G_7.1 66 78).toInt = (G.1 66 78).toInt := by rw [show G_7.1 66 78 = (G.1 66 78) from (hq_8.i 66 78 (by decide) (by decide))]
    have b_16 : 0 ≤ (G.1 66 79).toInt ∧ (G.1 66 79).toInt ≤ 40 := hB_G.i 66 79 rfl rfl
    have g_17 : (G_7.1 66 79).toInt = (G.1 66 79).toInt := by rw [show G_7.1 66 79 = (G.1 66 79) from (hq_8.i 66 79 (by decide) (by decide))]
    refine S_calli (va_runV (As := [.int y_12]) (rest := []) ⟨hx, hb, hml, hown, hts⟩ (n_force l D k A a z G_7 y_12 (by omega)) (cwV 1 hts (gd_V hgd m2003 m2004 m2005 m131 m2006) rfl rfl rfl (by decide +kernel) ⟨Nat.le_of_ble_eq_true rfl, Nat.le_of_ble_eq_true rfl⟩) (pre_V hW hB_G_7 hK hZ hS kd_66 rfl) rfl rfl hl.1 rfl (lv_room (Nat.le_of_ble_eq_true rfl)) dL_law_1312 ⟨Nat.le_of_ble_eq_true rfl, Nat.le_of_ble_eq_true rfl⟩) hS (fun r_18 G_19 H locs hpo hW hS => ?_)
    have hX_22 : Q_force y_12 G_7 r_18 G_19 := hpo
    obtain ⟨hB_G_19, hq_20, hp_21, -⟩ := hpo
    obtain ⟨u_23, u_24⟩ := L_force_2 hX_10 hX_22 (by omega) (by omega)
    refine lv_pop hx hb dL_law_1315 rfl ?_
    refine lv_goto (tgt := 1641) hx hb dL_law_1316 (by decide) ?_
    have g_25 : gO G_19 = gO G := gO_fr (rs := [58, 59, 110, 111]) (fs := [(30, 4), (30, 5), (66, 78), (66, 79)]) ((Fr.rf.call hq_8 (by decide) (by decide)).call hq_20 (by decide) (by decide)) (by decide) (by decide)
    have g_26 : gP G_19 = gP G := gP_fr (rs := [58, 59, 110, 111]) (fs := [(30, 4), (30, 5), (66, 78), (66, 79)]) ((Fr.rf.call hq_8 (by decide) (by decide)).call hq_20 (by decide) (by decide)) (by decide) (by decide)
    have g_27 : gS G_19 = gS G := gS_fr (rs := [58, 59, 110, 111]) (fs := [(30, 4), (30, 5), (66, 78), (66, 79)]) ((Fr.rf.call hq_8 (by decide) (by decide)).call hq_20 (by decide) (by decide)) (by decide) (by decide)
    have g_28 : gTE G_19 = gTE G := gTE_fr (rs := [58, 59, 110, 111]) (fs := [(30, 4), (30, 5), (66, 78), (66, 79)]) ((Fr.rf.call hq_8 (by decide) (by decide)).call hq_20 (by decide) (by decide)) (by decide) (by decide)
    have g_29 : gW G_19 = gW G := gW_fr (rs := [58, 59, 110, 111]) (fs := [(30, 4), (30, 5), (66, 78), (66, 79)]) ((Fr.rf.call hq_8 (by decide) (by decide)).call hq_20 (by decide) (by decide)) (by decide) (by decide)
    have b_30 : 0 ≤ (G.1 0 11).toInt ∧ (G.1 0 11).toInt ≤ 1600 := hB_G.i 0 11 rfl rfl
    have g_31 : (G_19.1 0 11).toInt = (G.1 0 11).toInt := by rw [show G_19.1 0 11 = (G.1 0 11) from ((hq_20.i 0 11 (by decide) (by decide)).trans (hq_8.i 0 11 (by decide) (by decide)))]
    have b_32 : 0 ≤ (G.1 3 7).toInt ∧ (G.1 3 7).toInt ≤ 4 := hB_G.i 3 7 rfl rfl
    have g_33 : (G_19.1 3 7).toInt = (G.1 3 7).toInt := by rw [show G_19.1 3 7 = (G.1 3 7) from ((hq_20.i 3 7 (by decide) (by decide)).trans (hq_8.i 3 7 (by decide) (by decide)))]
    have b_34 : (-1) ≤ (G.1 3 8).toInt ∧ (G.1 3 8).toInt ≤ 1600 := hB_G.i 3 8 rfl rfl
    have g_35 : (G_19.1 3 8).toInt = (G.1 3 8).toInt := by rw [show G_19.1 3 8 = (G.1 3 8) from ((hq_20.i 3 8 (by decide) (by decide)).trans (hq_8.i 3 8 (by decide) (by decide)))]
    have b_36 : 0 ≤ (G_7.1 30 4).toInt ∧ (G_7.1 30 4).toInt ≤ 40 := hB_G_7.i 30 4 rfl rfl
    have g_37 : (G_19.1 30 4).toInt = (G_7.1 30 4).toInt := by rw [show G_19.1 30 4 = (G_7.1 30 4) from (hq_20.i 30 4 (by decide) (by decide))]
    have b_38 : 0 ≤ (G_7.1 30 5).toInt ∧ (G_7.1 30 5).toInt ≤ 40 := hB_G_7.i 30 5 rfl rfl
    have g_39 : (G_19.1 30 5).toInt = (G_7.1 30 5).toInt := by rw [show G_19.1 30 5 = (G_7.1 30 5) from (hq_20.i 30 5 (by decide) (by decide))]
    have b_40 : 0 ≤ (G.1 31 6).toInt ∧ (G.1 31 6).toInt ≤ 100000 := hB_G.i 31 6 rfl rfl
    have g_41 : (G_19.1 31 6).toInt = (G.1 31 6).toInt := by rw [show G_19.1 31 6 = (G.1 31 6) from ((hq_20.i 31 6 (by decide) (by decide)).trans (hq_8.i 31 6 (by decide) (by decide)))]
    have b_42 : 0 ≤ (G.1 66 1).toInt ∧ (G.1 66 1).toInt ≤ 1600 := hB_G.i 66 1 rfl rfl
    have g_43 : (G_19.1 66 1).toInt = (G.1 66 1).toInt := by rw [show G_19.1 66 1 = (G.1 66 1) from ((hq_20.i 66 1 (by decide) (by decide)).trans (hq_8.i 66 1 (by decide) (by decide)))]
    have b_44 : 0 ≤ (G.1 66 2).toInt ∧ (G.1 66 2).toInt ≤ 4 := hB_G.i 66 2 rfl rfl
    have g_45 : (G_19.1 66 2).toInt = (G.1 66 2).toInt := by rw [show G_19.1 66 2 = (G.1 66 2) from ((hq_20.i 66 2 (by decide) (by decide)).trans (hq_8.i 66 2 (by decide) (by decide)))]
    have b_46 : (-1) ≤ (G.1 66 3).toInt ∧ (G.1 66 3).toInt ≤ 1600 := hB_G.i 66 3 rfl rfl
    have g_47 : (G_19.1 66 3).toInt = (G.1 66 3).toInt := by rw [show G_19.1 66 3 = (G.1 66 3) from ((hq_20.i 66 3 (by decide) (by decide)).trans (hq_8.i 66 3 (by decide) (by decide)))]
    have b_48 : 0 ≤ (G_19.1 66 78).toInt ∧ (G_19.1 66 78).toInt ≤ 40 := hB_G_19.i 66 78 rfl rfl
    have b_49 : 0 ≤ (G_19.1 66 79).toInt ∧ (G_19.1 66 79).toInt ≤ 40 := hB_G_19.i 66 79 rfl rfl
    have b_50 : 0 ≤ (G.1 66 86).toInt ∧ (G.1 66 86).toInt ≤ 100000 := hB_G.i 66 86 rfl rfl
    have g_51 : (G_19.1 66 86).toInt = (G.1 66 86).toInt := by rw [show G_19.1 66 86 = (G.1 66 86) from ((hq_20.i 66 86 (by decide) (by decide)).trans (hq_8.i 66 86 (by decide) (by decide)))]
    have b_52 : 0 ≤ (G.1 96 0).toInt ∧ (G.1 96 0).toInt ≤ 9 := hB_G.i 96 0 rfl rfl
    have g_53 : (G_19.1 96 0).toInt = (G.1 96 0).toInt := by rw [show G_19.1 96 0 = (G.1 96 0) from ((hq_20.i 96 0 (by decide) (by decide)).trans (hq_8.i 96 0 (by decide) (by decide)))]
    have b_54 : 0 ≤ (G.1 96 1).toInt ∧ (G.1 96 1).toInt ≤ 9 := hB_G.i 96 1 rfl rfl
    have g_55 : (G_19.1 96 1).toInt = (G.1 96 1).toInt := by rw [show G_19.1 96 1 = (G.1 96 1) from ((hq_20.i 96 1 (by decide) (by decide)).trans (hq_8.i 96 1 (by decide) (by decide)))]
    have b_56 : 0 ≤ (G.1 96 2).toInt ∧ (G.1 96 2).toInt ≤ 9 := hB_G.i 96 2 rfl rfl
    have g_57 : (G_19.1 96 2).toInt = (G.1 96 2).toInt := by rw [show G_19.1 96 2 = (G.1 96 2) from ((hq_20.i 96 2 (by decide) (by decide)).trans (hq_8.i 96 2 (by decide) (by decide)))]
    exact K G_19 _ _ _ (Or.inr ⟨((((hq_20.r 0 0 (by decide) (by decide)).trans (hq_8.r 0 0 (by decide) (by decide)))).trans (hv_0_0)), ((((hq_20.r 0 1 (by decide) (by decide)).trans (hq_8.r 0 1 (by decide) (by decide)))).trans (hv_0_1)), ((((hq_20.r 6 4 (by decide) (by decide)).trans (hq_8.r 6 4 (by decide) (by decide)))).trans (hv_6_4)), by omega, by omega, by omega, by omega, by omega, by omega, by omega, by omega, by omega, by omega, by omega, by omega, by omega⟩) hB_G_19 hW hS (lv_sub hl [0, 1, 2, 3] rfl)

set_option maxHeartbeats 4000000 in
set_option maxRecDepth 100000 in
theorem law_25 {p : Program} {l : Launch} {e : Env} {s : State} {m : MethodId} {below : List Frame} {meth : Method} {c : Code} {D : va_G} {k : KT} {A : Nat → Prop} {a : Nat → Nat} {z : SK} {b L : Nat} {xs : Nat → Int32} (hL : L ≤ 3072) (C0 : lw_At p s m meth c b L xs) (hK : cK D k s) (hZ : Sx A z s) (hbA : ¬ A b) {G : GS} {i0 : Int32} (hi0 : 0 ≤ i0.toInt) (hi6 : i0.toInt + 6 ≤ L) (hI : LI G) (hB_G : Bd G) {H : Heap} {locs : List Loc} {ls : Array Slot} (hW : Wd D k A a G H) (hS : va_S A s.heap H locs) (hl : lv_has ls 4 [(0, .ref b), (1, .ref (a 0)), (2, .ref (a 66)), (3, .int i0)]) (K : ∀ (G1 : GS) (H1 : Heap) (locs1 : List Loc) (ls1 : Array Slot), LI G1 → Bd G1 → Wd D k A a G1 H1 → va_S A s.heap H1 locs1 → lv_has ls1 4 [(0, .ref b), (1, .ref (a 0)), (2, .ref (a 66)), (3, .int i0)] → W p l e room_1 s m #[Value.ref b] below meth c H1 locs1 119 46443 (lw_Z below #[Value.ref b] s) (F0 m 1641 ls1 [])) : W p l e room_1 s m #[Value.ref b] below meth c H locs 119 46443 (lw_Z below #[Value.ref b] s) (F0 m 1319 ls []) := by
  obtain ⟨hx, hb, hr, hml, hown, hts, hX, hbl, hlocks, hgv⟩ := id C0
  have hown : s.vm.findClass RL = some m.cls := hown
  have hgd : ∀ w ∈ gd, w ∈ lw_tbl := fun w h => (List.mem_filter.mp h).1
  have hg : ∀ w ∈ gd, w.before #[Value.ref b] s = true := fun w h => hts w (hgd w h)
  rcases hI with ⟨hv_0_0, hv_0_1, hv_6_4, hj0, hj1, hj2, hj3, hj4, hj5, hj6, hj7, hj8, hj9, hj10, hj11⟩ | ⟨hv_0_0, hv_0_1, hv_6_4, hj0, hj1, hj2, hj3, hj4, hj5, hj6, hj7, hj8, hj9, hj10, hj11⟩
  · skip
    refine lv_aload_n hx hb dL_law_1319 rfl (lv_at hl 1 rfl) ?_
    refine S_calli (va_runV (As := []) (rest := []) ⟨hx, hb, hml, hown, hts⟩ (k_Wrain l D k A a z G  ) (cwV 0 hts (gd_V hgd m1210 m1211 m1212 m117 m1213) rfl rfl rfl (by decide +kernel) ⟨Nat.le_of_ble_eq_true rfl, Nat.le_of_ble_eq_true rfl⟩) (pre_V hW hB_G hK hZ hS kd_0 rfl) rfl rfl hl.1 rfl (lv_room (Nat.le_of_ble_eq_true rfl)) dL_law_1320 ⟨Nat.le_of_ble_eq_true rfl, Nat.le_of_ble_eq_true rfl⟩) hS (fun r_1 G_2 H locs hpo hW hS => ?_)
    have hX_5 : P_Wrain G r_1 G_2 := hpo
    obtain ⟨hB_G_2, hq_3, f_6, hp_4, -⟩ := hpo
    refine lv_pop hx hb dL_law_1323 rfl ?_
    refine lv_aload_n hx hb dL_law_1324 rfl (lv_at hl 2 rfl) ?_
    have b_7 : 0 ≤ (G.1 66 78).toInt ∧ (G.1 66 78).toInt ≤ 40 := hB_G.i 66 78 rfl rfl
    have g_8 : (G_2.1 66 78).toInt = (G.1 66 78).toInt := by rw [show G_2.1 66 78 = (G.1 66 78) from (hq_3.i 66 78 (by decide) (by decide))]
    have b_9 : 0 ≤ (G.1 66 79).toInt ∧ (G.1 66 79).toInt ≤ 40 := hB_G.i 66 79 rfl rfl
    have g_10 : (G_2.1 66 79).toInt = (G.1 66 79).toInt := by rw [show G_2.1 66 79 = (G.1 66 79) from (hq_3.i 66 79 (by decide) (by decide))]
    refine S_calli (va_runV (As := []) (rest := []) ⟨hx, hb, hml, hown, hts⟩ (n_rain l D k A a z G_2  (by omega)) (cwV 0 hts (gd_V hgd m2011 m2012 m2013 m131 m2014) rfl rfl rfl (by decide +kernel) ⟨Nat.le_of_ble_eq_true rfl, Nat.le_of_ble_eq_true rfl⟩) (pre_V hW hB_G_2 hK hZ hS kd_66 rfl) rfl rfl hl.1 rfl (lv_room (Nat.le_of_ble_eq_true rfl)) dL_law_1325 ⟨Nat.le_of_ble_eq_true rfl, Nat.le_of_ble_eq_true rfl⟩) hS (fun r_11 G_12 H locs hpo hW hS => ?_)
    have hX_15 : Q_rain G_2 r_11 G_12 := hpo
    obtain ⟨hB_G_12, hq_13, f_16, hp_14, -⟩ := hpo
    obtain ⟨u_17, u_18⟩ := L_rain_1 hX_5 hX_15  (by omega)
    refine lv_pop hx hb dL_law_1328 rfl ?_
    refine lv_goto (tgt := 1641) hx hb dL_law_1329 (by decide) ?_
    have g_19 : gO G_12 = gO G := gO_fr (rs := [58, 59, 110, 111]) (fs := [(30, 4), (30, 5), (66, 78), (66, 79)]) ((Fr.rf.call hq_3 (by decide) (by decide)).call hq_13 (by decide) (by decide)) (by decide) (by decide)
    have g_20 : gP G_12 = gP G := gP_fr (rs := [58, 59, 110, 111]) (fs := [(30, 4), (30, 5), (66, 78), (66, 79)]) ((Fr.rf.call hq_3 (by decide) (by decide)).call hq_13 (by decide) (by decide)) (by decide) (by decide)
    have g_21 : gS G_12 = gS G := gS_fr (rs := [58, 59, 110, 111]) (fs := [(30, 4), (30, 5), (66, 78), (66, 79)]) ((Fr.rf.call hq_3 (by decide) (by decide)).call hq_13 (by decide) (by decide)) (by decide) (by decide)
    have g_22 : gTE G_12 = gTE G := gTE_fr (rs := [58, 59, 110, 111]) (fs := [(30, 4), (30, 5), (66, 78), (66, 79)]) ((Fr.rf.call hq_3 (by decide) (by decide)).call hq_13 (by decide) (by decide)) (by decide) (by decide)
    have g_23 : gW G_12 = gW G := gW_fr (rs := [58, 59, 110, 111]) (fs := [(30, 4), (30, 5), (66, 78), (66, 79)]) ((Fr.rf.call hq_3 (by decide) (by decide)).call hq_13 (by decide) (by decide)) (by decide) (by decide)
    have b_24 : 0 ≤ (G.1 0 11).toInt ∧ (G.1 0 11).toInt ≤ 1600 := hB_G.i 0 11 rfl rfl
    have g_25 : (G_12.1 0 11).toInt = (G.1 0 11).toInt := by rw [show G_12.1 0 11 = (G.1 0 11) from ((hq_13.i 0 11 (by decide) (by decide)).trans (hq_3.i 0 11 (by decide) (by decide)))]
    have b_26 : 0 ≤ (G.1 3 7).toInt ∧ (G.1 3 7).toInt ≤ 4 := hB_G.i 3 7 rfl rfl
    have g_27 : (G_12.1 3 7).toInt = (G.1 3 7).toInt := by rw [show G_12.1 3 7 = (G.1 3 7) from ((hq_13.i 3 7 (by decide) (by decide)).trans (hq_3.i 3 7 (by decide) (by decide)))]
    have b_28 : (-1) ≤ (G.1 3 8).toInt ∧ (G.1 3 8).toInt ≤ 1600 := hB_G.i 3 8 rfl rfl
    have g_29 : (G_12.1 3 8).toInt = (G.1 3 8).toInt := by rw [show G_12.1 3 8 = (G.1 3 8) from ((hq_13.i 3 8 (by decide) (by decide)).trans (hq_3.i 3 8 (by decide) (by decide)))]
    have b_30 : 0 ≤ (G_2.1 30 4).toInt ∧ (G_2.1 30 4).toInt ≤ 40 := hB_G_2.i 30 4 rfl rfl
    have g_31 : (G_12.1 30 4).toInt = (G_2.1 30 4).toInt := by rw [show G_12.1 30 4 = (G_2.1 30 4) from (hq_13.i 30 4 (by decide) (by decide))]
    have b_32 : 0 ≤ (G_2.1 30 5).toInt ∧ (G_2.1 30 5).toInt ≤ 40 := hB_G_2.i 30 5 rfl rfl
    have g_33 : (G_12.1 30 5).toInt = (G_2.1 30 5).toInt := by rw [show G_12.1 30 5 = (G_2.1 30 5) from (hq_13.i 30 5 (by decide) (by decide))]
    have b_34 : 0 ≤ (G.1 31 6).toInt ∧ (G.1 31 6).toInt ≤ 100000 := hB_G.i 31 6 rfl rfl
    have g_35 : (G_12.1 31 6).toInt = (G.1 31 6).toInt := by rw [show G_12.1 31 6 = (G.1 31 6) from ((hq_13.i 31 6 (by decide) (by decide)).trans (hq_3.i 31 6 (by decide) (by decide)))]
    have b_36 : 0 ≤ (G.1 66 1).toInt ∧ (G.1 66 1).toInt ≤ 1600 := hB_G.i 66 1 rfl rfl
    have g_37 : (G_12.1 66 1).toInt = (G.1 66 1).toInt := by rw [show G_12.1 66 1 = (G.1 66 1) from ((hq_13.i 66 1 (by decide) (by decide)).trans (hq_3.i 66 1 (by decide) (by decide)))]
    have b_38 : 0 ≤ (G.1 66 2).toInt ∧ (G.1 66 2).toInt ≤ 4 := hB_G.i 66 2 rfl rfl
    have g_39 : (G_12.1 66 2).toInt = (G.1 66 2).toInt := by rw [show G_12.1 66 2 = (G.1 66 2) from ((hq_13.i 66 2 (by decide) (by decide)).trans (hq_3.i 66 2 (by decide) (by decide)))]
    have b_40 : (-1) ≤ (G.1 66 3).toInt ∧ (G.1 66 3).toInt ≤ 1600 := hB_G.i 66 3 rfl rfl
    have g_41 : (G_12.1 66 3).toInt = (G.1 66 3).toInt := by rw [show G_12.1 66 3 = (G.1 66 3) from ((hq_13.i 66 3 (by decide) (by decide)).trans (hq_3.i 66 3 (by decide) (by decide)))]
    have b_42 : 0 ≤ (G_12.1 66 78).toInt ∧ (G_12.1 66 78).toInt ≤ 40 := hB_G_12.i 66 78 rfl rfl
    have b_43 : 0 ≤ (G_12.1 66 79).toInt ∧ (G_12.1 66 79).toInt ≤ 40 := hB_G_12.i 66 79 rfl rfl
    have b_44 : 0 ≤ (G.1 66 86).toInt ∧ (G.1 66 86).toInt ≤ 100000 := hB_G.i 66 86 rfl rfl
    have g_45 : (G_12.1 66 86).toInt = (G.1 66 86).toInt := by rw [show G_12.1 66 86 = (G.1 66 86) from ((hq_13.i 66 86 (by decide) (by decide)).trans (hq_3.i 66 86 (by decide) (by decide)))]
    have b_46 : 0 ≤ (G.1 96 0).toInt ∧ (G.1 96 0).toInt ≤ 9 := hB_G.i 96 0 rfl rfl
    have g_47 : (G_12.1 96 0).toInt = (G.1 96 0).toInt := by rw [show G_12.1 96 0 = (G.1 96 0) from ((hq_13.i 96 0 (by decide) (by decide)).trans (hq_3.i 96 0 (by decide) (by decide)))]
    have b_48 : 0 ≤ (G.1 96 1).toInt ∧ (G.1 96 1).toInt ≤ 9 := hB_G.i 96 1 rfl rfl
    have g_49 : (G_12.1 96 1).toInt = (G.1 96 1).toInt := by rw [show G_12.1 96 1 = (G.1 96 1) from ((hq_13.i 96 1 (by decide) (by decide)).trans (hq_3.i 96 1 (by decide) (by decide)))]
    have b_50 : 0 ≤ (G.1 96 2).toInt ∧ (G.1 96 2).toInt ≤ 9 := hB_G.i 96 2 rfl rfl
    have g_51 : (G_12.1 96 2).toInt = (G.1 96 2).toInt := by rw [show G_12.1 96 2 = (G.1 96 2) from ((hq_13.i 96 2 (by decide) (by decide)).trans (hq_3.i 96 2 (by decide) (by decide)))]
    exact K G_12 _ _ _ (Or.inl ⟨((((hq_13.r 0 0 (by decide) (by decide)).trans (hq_3.r 0 0 (by decide) (by decide)))).trans (hv_0_0)), ((((hq_13.r 0 1 (by decide) (by decide)).trans (hq_3.r 0 1 (by decide) (by decide)))).trans (hv_0_1)), ((((hq_13.r 6 4 (by decide) (by decide)).trans (hq_3.r 6 4 (by decide) (by decide)))).trans (hv_6_4)), by omega, by omega, by omega, by omega, by omega, by omega, by omega, by omega, by omega, by omega, by omega, by omega, by omega⟩) hB_G_12 hW hS (lv_sub hl [0, 1, 2, 3] rfl)
  · skip
    refine lv_aload_n hx hb dL_law_1319 rfl (lv_at hl 1 rfl) ?_
    refine S_calli (va_runV (As := []) (rest := []) ⟨hx, hb, hml, hown, hts⟩ (k_Wrain l D k A a z G  ) (cwV 0 hts (gd_V hgd m1210 m1211 m1212 m117 m1213) rfl rfl rfl (by decide +kernel) ⟨Nat.le_of_ble_eq_true rfl, Nat.le_of_ble_eq_true rfl⟩) (pre_V hW hB_G hK hZ hS kd_0 rfl) rfl rfl hl.1 rfl (lv_room (Nat.le_of_ble_eq_true rfl)) dL_law_1320 ⟨Nat.le_of_ble_eq_true rfl, Nat.le_of_ble_eq_true rfl⟩) hS (fun r_1 G_2 H locs hpo hW hS => ?_)
    have hX_5 : P_Wrain G r_1 G_2 := hpo
    obtain ⟨hB_G_2, hq_3, f_6, hp_4, -⟩ := hpo
    refine lv_pop hx hb dL_law_1323 rfl ?_
    refine lv_aload_n hx hb dL_law_1324 rfl (lv_at hl 2 rfl) ?_
    have b_7 : 0 ≤ (G.1 66 78).toInt ∧ (G.1 66 78).toInt ≤ 40 := hB_G.i 66 78 rfl rfl
    have g_8 : (G_2.1 66 78).toInt = (G.1 66 78).toInt := by rw [show G_2.1 66 78 = (G.1 66 78) from (hq_3.i 66 78 (by decide) (by decide))]
    have b_9 : 0 ≤ (G.1 66 79).toInt ∧ (G.1 66 79).toInt ≤ 40 := hB_G.i 66 79 rfl rfl
    have g_10 : (G_2.1 66 79).toInt = (G.1 66 79).toInt := by rw [show G_2.1 66 79 = (G.1 66 79) from (hq_3.i 66 79 (by decide) (by decide))]
    refine S_calli (va_runV (As := []) (rest := []) ⟨hx, hb, hml, hown, hts⟩ (n_rain l D k A a z G_2  (by omega)) (cwV 0 hts (gd_V hgd m2011 m2012 m2013 m131 m2014) rfl rfl rfl (by decide +kernel) ⟨Nat.le_of_ble_eq_true rfl, Nat.le_of_ble_eq_true rfl⟩) (pre_V hW hB_G_2 hK hZ hS kd_66 rfl) rfl rfl hl.1 rfl (lv_room (Nat.le_of_ble_eq_true rfl)) dL_law_1325 ⟨Nat.le_of_ble_eq_true rfl, Nat.le_of_ble_eq_true rfl⟩) hS (fun r_11 G_12 H locs hpo hW hS => ?_)
    have hX_15 : Q_rain G_2 r_11 G_12 := hpo
    obtain ⟨hB_G_12, hq_13, f_16, hp_14, -⟩ := hpo
    obtain ⟨u_17, u_18⟩ := L_rain_2 hX_5 hX_15  (by omega)
    refine lv_pop hx hb dL_law_1328 rfl ?_
    refine lv_goto (tgt := 1641) hx hb dL_law_1329 (by decide) ?_
    have g_19 : gO G_12 = gO G := gO_fr (rs := [58, 59, 110, 111]) (fs := [(30, 4), (30, 5), (66, 78), (66, 79)]) ((Fr.rf.call hq_3 (by decide) (by decide)).call hq_13 (by decide) (by decide)) (by decide) (by decide)
    have g_20 : gP G_12 = gP G := gP_fr (rs := [58, 59, 110, 111]) (fs := [(30, 4), (30, 5), (66, 78), (66, 79)]) ((Fr.rf.call hq_3 (by decide) (by decide)).call hq_13 (by decide) (by decide)) (by decide) (by decide)
    have g_21 : gS G_12 = gS G := gS_fr (rs := [58, 59, 110, 111]) (fs := [(30, 4), (30, 5), (66, 78), (66, 79)]) ((Fr.rf.call hq_3 (by decide) (by decide)).call hq_13 (by decide) (by decide)) (by decide) (by decide)
    have g_22 : gTE G_12 = gTE G := gTE_fr (rs := [58, 59, 110, 111]) (fs := [(30, 4), (30, 5), (66, 78), (66, 79)]) ((Fr.rf.call hq_3 (by decide) (by decide)).call hq_13 (by decide) (by decide)) (by decide) (by decide)
    have g_23 : gW G_12 = gW G := gW_fr (rs := [58, 59, 110, 111]) (fs := [(30, 4), (30, 5), (66, 78), (66, 79)]) ((Fr.rf.call hq_3 (by decide) (by decide)).call hq_13 (by decide) (by decide)) (by decide) (by decide)
    have b_24 : 0 ≤ (G.1 0 11).toInt ∧ (G.1 0 11).toInt ≤ 1600 := hB_G.i 0 11 rfl rfl
    have g_25 : (G_12.1 0 11).toInt = (G.1 0 11).toInt := by rw [show G_12.1 0 11 = (G.1 0 11) from ((hq_13.i 0 11 (by decide) (by decide)).trans (hq_3.i 0 11 (by decide) (by decide)))]
    have b_26 : 0 ≤ (G.1 3 7).toInt ∧ (G.1 3 7).toInt ≤ 4 := hB_G.i 3 7 rfl rfl
    have g_27 : (G_12.1 3 7).toInt = (G.1 3 7).toInt := by rw [show G_12.1 3 7 = (G.1 3 7) from ((hq_13.i 3 7 (by decide) (by decide)).trans (hq_3.i 3 7 (by decide) (by decide)))]
    have b_28 : (-1) ≤ (G.1 3 8).toInt ∧ (G.1 3 8).toInt ≤ 1600 := hB_G.i 3 8 rfl rfl
    have g_29 : (G_12.1 3 8).toInt = (G.1 3 8).toInt := by rw [show G_12.1 3 8 = (G.1 3 8) from ((hq_13.i 3 8 (by decide) (by decide)).trans (hq_3.i 3 8 (by decide) (by decide)))]
    have b_30 : 0 ≤ (G_2.1 30 4).toInt ∧ (G_2.1 30 4).toInt ≤ 40 := hB_G_2.i 30 4 rfl rfl
    have g_31 : (G_12.1 30 4).toInt = (G_2.1 30 4).toInt := by rw [show G_12.1 30 4 = (G_2.1 30 4) from (hq_13.i 30 4 (by decide) (by decide))]
    have b_32 : 0 ≤ (G_2.1 30 5).toInt ∧ (G_2.1 30 5).toInt ≤ 40 := hB_G_2.i 30 5 rfl rfl
    have g_33 : (G_12.1 30 5).toInt = (G_2.1 30 5).toInt := by rw [show G_12.1 30 5 = (G_2.1 30 5) from (hq_13.i 30 5 (by decide) (by decide))]
    have b_34 : 0 ≤ (G.1 31 6).toInt ∧ (G.1 31 6).toInt ≤ 100000 := hB_G.i 31 6 rfl rfl
    have g_35 : (G_12.1 31 6).toInt = (G.1 31 6).toInt := by rw [show G_12.1 31 6 = (G.1 31 6) from ((hq_13.i 31 6 (by decide) (by decide)).trans (hq_3.i 31 6 (by decide) (by decide)))]
    have b_36 : 0 ≤ (G.1 66 1).toInt ∧ (G.1 66 1).toInt ≤ 1600 := hB_G.i 66 1 rfl rfl
    have g_37 : (G_12.1 66 1).toInt = (G.1 66 1).toInt := by rw [show G_12.1 66 1 = (G.1 66 1) from ((hq_13.i 66 1 (by decide) (by decide)).trans (hq_3.i 66 1 (by decide) (by decide)))]
    have b_38 : 0 ≤ (G.1 66 2).toInt ∧ (G.1 66 2).toInt ≤ 4 := hB_G.i 66 2 rfl rfl
    have g_39 : (G_12.1 66 2).toInt = (G.1 66 2).toInt := by rw [show G_12.1 66 2 = (G.1 66 2) from ((hq_13.i 66 2 (by decide) (by decide)).trans (hq_3.i 66 2 (by decide) (by decide)))]
    have b_40 : (-1) ≤ (G.1 66 3).toInt ∧ (G.1 66 3).toInt ≤ 1600 := hB_G.i 66 3 rfl rfl
    have g_41 : (G_12.1 66 3).toInt = (G.1 66 3).toInt := by rw [show G_12.1 66 3 = (G.1 66 3) from ((hq_13.i 66 3 (by decide) (by decide)).trans (hq_3.i 66 3 (by decide) (by decide)))]
    have b_42 : 0 ≤ (G_12.1 66 78).toInt ∧ (G_12.1 66 78).toInt ≤ 40 := hB_G_12.i 66 78 rfl rfl
    have b_43 : 0 ≤ (G_12.1 66 79).toInt ∧ (G_12.1 66 79).toInt ≤ 40 := hB_G_12.i 66 79 rfl rfl
    have b_44 : 0 ≤ (G.1 66 86).toInt ∧ (G.1 66 86).toInt ≤ 100000 := hB_G.i 66 86 rfl rfl
    have g_45 : (G_12.1 66 86).toInt = (G.1 66 86).toInt := by rw [show G_12.1 66 86 = (G.1 66 86) from ((hq_13.i 66 86 (by decide) (by decide)).trans (hq_3.i 66 86 (by decide) (by decide)))]
    have b_46 : 0 ≤ (G.1 96 0).toInt ∧ (G.1 96 0).toInt ≤ 9 := hB_G.i 96 0 rfl rfl
    have g_47 : (G_12.1 96 0).toInt = (G.1 96 0).toInt := by rw [show G_12.1 96 0 = (G.1 96 0) from ((hq_13.i 96 0 (by decide) (by decide)).trans (hq_3.i 96 0 (by decide) (by decide)))]
    have b_48 : 0 ≤ (G.1 96 1).toInt ∧ (G.1 96 1).toInt ≤ 9 := hB_G.i 96 1 rfl rfl
    have g_49 : (G_12.1 96 1).toInt = (G.1 96 1).toInt := by rw [show G_12.1 96 1 = (G.1 96 1) from ((hq_13.i 96 1 (by decide) (by decide)).trans (hq_3.i 96 1 (by decide) (by decide)))]
    have b_50 : 0 ≤ (G.1 96 2).toInt ∧ (G.1 96 2).toInt ≤ 9 := hB_G.i 96 2 rfl rfl
    have g_51 : (G_12.1 96 2).toInt = (G.1 96 2).toInt := by rw [show G_12.1 96 2 = (G.1 96 2) from ((hq_13.i 96 2 (by decide) (by decide)).trans (hq_3.i 96 2 (by decide) (by decide)))]
    exact K G_12 _ _ _ (Or.inr ⟨((((hq_13.r 0 0 (by decide) (by decide)).trans (hq_3.r 0 0 (by decide) (by decide)))).trans (hv_0_0)), ((((hq_13.r 0 1 (by decide) (by decide)).trans (hq_3.r 0 1 (by decide) (by decide)))).trans (hv_0_1)), ((((hq_13.r 6 4 (by decide) (by decide)).trans (hq_3.r 6 4 (by decide) (by decide)))).trans (hv_6_4)), by omega, by omega, by omega, by omega, by omega, by omega, by omega, by omega, by omega, by omega, by omega, by omega, by omega⟩) hB_G_12 hW hS (lv_sub hl [0, 1, 2, 3] rfl)

set_option maxHeartbeats 4000000 in
set_option maxRecDepth 100000 in
theorem law_26 {p : Program} {l : Launch} {e : Env} {s : State} {m : MethodId} {below : List Frame} {meth : Method} {c : Code} {D : va_G} {k : KT} {A : Nat → Prop} {a : Nat → Nat} {z : SK} {b L : Nat} {xs : Nat → Int32} (hL : L ≤ 3072) (C0 : lw_At p s m meth c b L xs) (hK : cK D k s) (hZ : Sx A z s) (hbA : ¬ A b) {G : GS} {i0 : Int32} (hi0 : 0 ≤ i0.toInt) (hi6 : i0.toInt + 6 ≤ L) (hI : LI G) (hB_G : Bd G) {H : Heap} {locs : List Loc} {ls : Array Slot} (hW : Wd D k A a G H) (hS : va_S A s.heap H locs) (hl : lv_has ls 4 [(0, .ref b), (1, .ref (a 0)), (2, .ref (a 66)), (3, .int i0)]) (K : ∀ (G1 : GS) (H1 : Heap) (locs1 : List Loc) (ls1 : Array Slot), LI G1 → Bd G1 → Wd D k A a G1 H1 → va_S A s.heap H1 locs1 → lv_has ls1 4 [(0, .ref b), (1, .ref (a 0)), (2, .ref (a 66)), (3, .int i0)] → W p l e room_1 s m #[Value.ref b] below meth c H1 locs1 119 46443 (lw_Z below #[Value.ref b] s) (F0 m 1641 ls1 [])) : W p l e room_1 s m #[Value.ref b] below meth c H locs 119 46443 (lw_Z below #[Value.ref b] s) (F0 m 1332 ls []) := by
  obtain ⟨hx, hb, hr, hml, hown, hts, hX, hbl, hlocks, hgv⟩ := id C0
  have hown : s.vm.findClass RL = some m.cls := hown
  have hgd : ∀ w ∈ gd, w ∈ lw_tbl := fun w h => (List.mem_filter.mp h).1
  have hg : ∀ w ∈ gd, w.before #[Value.ref b] s = true := fun w h => hts w (hgd w h)
  rcases hI with ⟨hv_0_0, hv_0_1, hv_6_4, hj0, hj1, hj2, hj3, hj4, hj5, hj6, hj7, hj8, hj9, hj10, hj11⟩ | ⟨hv_0_0, hv_0_1, hv_6_4, hj0, hj1, hj2, hj3, hj4, hj5, hj6, hj7, hj8, hj9, hj10, hj11⟩
  · skip
    refine lv_aload_n hx hb dL_law_1332 rfl (lv_at hl 1 rfl) ?_
    have b_1 : 0 ≤ (G.1 30 4).toInt ∧ (G.1 30 4).toInt ≤ 40 := hB_G.i 30 4 rfl rfl
    have b_2 : 0 ≤ (G.1 30 5).toInt ∧ (G.1 30 5).toInt ≤ 40 := hB_G.i 30 5 rfl rfl
    refine S_calli (va_runV (As := []) (rest := []) ⟨hx, hb, hml, hown, hts⟩ (k_Wday l D k A a z G  (by omega)) (cwV 0 hts (gd_V hgd m1214 m1215 m1216 m117 m1217) rfl rfl rfl (by decide +kernel) ⟨Nat.le_of_ble_eq_true rfl, Nat.le_of_ble_eq_true rfl⟩) (pre_V hW hB_G hK hZ hS kd_0 rfl) rfl rfl hl.1 rfl (lv_room (Nat.le_of_ble_eq_true rfl)) dL_law_1333 ⟨Nat.le_of_ble_eq_true rfl, Nat.le_of_ble_eq_true rfl⟩) hS (fun r_3 G_4 H locs hpo hW hS => ?_)
    have hX_7 : P_Wday G r_3 G_4 := hpo
    obtain ⟨hB_G_4, hq_5, hp_6, -⟩ := hpo
    refine lv_pop hx hb dL_law_1336 rfl ?_
    refine lv_aload_n hx hb dL_law_1337 rfl (lv_at hl 2 rfl) ?_
    have b_8 : 0 ≤ (G.1 66 78).toInt ∧ (G.1 66 78).toInt ≤ 40 := hB_G.i 66 78 rfl rfl
    have g_9 : (G_4.1 66 78).toInt = (G.1 66 78).toInt := by rw [show G_4.1 66 78 = (G.1 66 78) from (hq_5.i 66 78 (by decide) (by decide))]
    have b_10 : 0 ≤ (G.1 66 79).toInt ∧ (G.1 66 79).toInt ≤ 40 := hB_G.i 66 79 rfl rfl
    have g_11 : (G_4.1 66 79).toInt = (G.1 66 79).toInt := by rw [show G_4.1 66 79 = (G.1 66 79) from (hq_5.i 66 79 (by decide) (by decide))]
    refine S_calli (va_runV (As := []) (rest := []) ⟨hx, hb, hml, hown, hts⟩ (n_day l D k A a z G_4  (by omega)) (cwV 0 hts (gd_V hgd m2015 m2016 m2017 m131 m2018) rfl rfl rfl (by decide +kernel) ⟨Nat.le_of_ble_eq_true rfl, Nat.le_of_ble_eq_true rfl⟩) (pre_V hW hB_G_4 hK hZ hS kd_66 rfl) rfl rfl hl.1 rfl (lv_room (Nat.le_of_ble_eq_true rfl)) dL_law_1338 ⟨Nat.le_of_ble_eq_true rfl, Nat.le_of_ble_eq_true rfl⟩) hS (fun r_12 G_13 H locs hpo hW hS => ?_)
    have hX_16 : Q_day G_4 r_12 G_13 := hpo
    obtain ⟨hB_G_13, hq_14, hp_15, -⟩ := hpo
    obtain ⟨u_17, u_18⟩ := L_day_1 hX_7 hX_16  (by omega)
    refine lv_pop hx hb dL_law_1341 rfl ?_
    refine lv_goto (tgt := 1641) hx hb dL_law_1342 (by decide) ?_
    have g_19 : gO G_13 = gO G := gO_fr (rs := [58, 59, 110, 111]) (fs := [(30, 4), (30, 5), (66, 78), (66, 79)]) ((Fr.rf.call hq_5 (by decide) (by decide)).call hq_14 (by decide) (by decide)) (by decide) (by decide)
    have g_20 : gP G_13 = gP G := gP_fr (rs := [58, 59, 110, 111]) (fs := [(30, 4), (30, 5), (66, 78), (66, 79)]) ((Fr.rf.call hq_5 (by decide) (by decide)).call hq_14 (by decide) (by decide)) (by decide) (by decide)
    have g_21 : gS G_13 = gS G := gS_fr (rs := [58, 59, 110, 111]) (fs := [(30, 4), (30, 5), (66, 78), (66, 79)]) ((Fr.rf.call hq_5 (by decide) (by decide)).call hq_14 (by decide) (by decide)) (by decide) (by decide)
    have g_22 : gTE G_13 = gTE G := gTE_fr (rs := [58, 59, 110, 111]) (fs := [(30, 4), (30, 5), (66, 78), (66, 79)]) ((Fr.rf.call hq_5 (by decide) (by decide)).call hq_14 (by decide) (by decide)) (by decide) (by decide)
    have g_23 : gW G_13 = gW G := gW_fr (rs := [58, 59, 110, 111]) (fs := [(30, 4), (30, 5), (66, 78), (66, 79)]) ((Fr.rf.call hq_5 (by decide) (by decide)).call hq_14 (by decide) (by decide)) (by decide) (by decide)
    have b_24 : 0 ≤ (G.1 0 11).toInt ∧ (G.1 0 11).toInt ≤ 1600 := hB_G.i 0 11 rfl rfl
    have g_25 : (G_13.1 0 11).toInt = (G.1 0 11).toInt := by rw [show G_13.1 0 11 = (G.1 0 11) from ((hq_14.i 0 11 (by decide) (by decide)).trans (hq_5.i 0 11 (by decide) (by decide)))]
    have b_26 : 0 ≤ (G.1 3 7).toInt ∧ (G.1 3 7).toInt ≤ 4 := hB_G.i 3 7 rfl rfl
    have g_27 : (G_13.1 3 7).toInt = (G.1 3 7).toInt := by rw [show G_13.1 3 7 = (G.1 3 7) from ((hq_14.i 3 7 (by decide) (by decide)).trans (hq_5.i 3 7 (by decide) (by decide)))]
    have b_28 : (-1) ≤ (G.1 3 8).toInt ∧ (G.1 3 8).toInt ≤ 1600 := hB_G.i 3 8 rfl rfl
    have g_29 : (G_13.1 3 8).toInt = (G.1 3 8).toInt := by rw [show G_13.1 3 8 = (G.1 3 8) from ((hq_14.i 3 8 (by decide) (by decide)).trans (hq_5.i 3 8 (by decide) (by decide)))]
    have b_30 : 0 ≤ (G_4.1 30 4).toInt ∧ (G_4.1 30 4).toInt ≤ 40 := hB_G_4.i 30 4 rfl rfl
    have g_31 : (G_13.1 30 4).toInt = (G_4.1 30 4).toInt := by rw [show G_13.1 30 4 = (G_4.1 30 4) from (hq_14.i 30 4 (by decide) (by decide))]
    have b_32 : 0 ≤ (G_4.1 30 5).toInt ∧ (G_4.1 30 5).toInt ≤ 40 := hB_G_4.i 30 5 rfl rfl
    have g_33 : (G_13.1 30 5).toInt = (G_4.1 30 5).toInt := by rw [show G_13.1 30 5 = (G_4.1 30 5) from (hq_14.i 30 5 (by decide) (by decide))]
    have b_34 : 0 ≤ (G.1 31 6).toInt ∧ (G.1 31 6).toInt ≤ 100000 := hB_G.i 31 6 rfl rfl
    have g_35 : (G_13.1 31 6).toInt = (G.1 31 6).toInt := by rw [show G_13.1 31 6 = (G.1 31 6) from ((hq_14.i 31 6 (by decide) (by decide)).trans (hq_5.i 31 6 (by decide) (by decide)))]
    have b_36 : 0 ≤ (G.1 66 1).toInt ∧ (G.1 66 1).toInt ≤ 1600 := hB_G.i 66 1 rfl rfl
    have g_37 : (G_13.1 66 1).toInt = (G.1 66 1).toInt := by rw [show G_13.1 66 1 = (G.1 66 1) from ((hq_14.i 66 1 (by decide) (by decide)).trans (hq_5.i 66 1 (by decide) (by decide)))]
    have b_38 : 0 ≤ (G.1 66 2).toInt ∧ (G.1 66 2).toInt ≤ 4 := hB_G.i 66 2 rfl rfl
    have g_39 : (G_13.1 66 2).toInt = (G.1 66 2).toInt := by rw [show G_13.1 66 2 = (G.1 66 2) from ((hq_14.i 66 2 (by decide) (by decide)).trans (hq_5.i 66 2 (by decide) (by decide)))]
    have b_40 : (-1) ≤ (G.1 66 3).toInt ∧ (G.1 66 3).toInt ≤ 1600 := hB_G.i 66 3 rfl rfl
    have g_41 : (G_13.1 66 3).toInt = (G.1 66 3).toInt := by rw [show G_13.1 66 3 = (G.1 66 3) from ((hq_14.i 66 3 (by decide) (by decide)).trans (hq_5.i 66 3 (by decide) (by decide)))]
    have b_42 : 0 ≤ (G_13.1 66 78).toInt ∧ (G_13.1 66 78).toInt ≤ 40 := hB_G_13.i 66 78 rfl rfl
    have b_43 : 0 ≤ (G_13.1 66 79).toInt ∧ (G_13.1 66 79).toInt ≤ 40 := hB_G_13.i 66 79 rfl rfl
    have b_44 : 0 ≤ (G.1 66 86).toInt ∧ (G.1 66 86).toInt ≤ 100000 := hB_G.i 66 86 rfl rfl
    have g_45 : (G_13.1 66 86).toInt = (G.1 66 86).toInt := by rw [show G_13.1 66 86 = (G.1 66 86) from ((hq_14.i 66 86 (by decide) (by decide)).trans (hq_5.i 66 86 (by decide) (by decide)))]
    have b_46 : 0 ≤ (G.1 96 0).toInt ∧ (G.1 96 0).toInt ≤ 9 := hB_G.i 96 0 rfl rfl
    have g_47 : (G_13.1 96 0).toInt = (G.1 96 0).toInt := by rw [show G_13.1 96 0 = (G.1 96 0) from ((hq_14.i 96 0 (by decide) (by decide)).trans (hq_5.i 96 0 (by decide) (by decide)))]
    have b_48 : 0 ≤ (G.1 96 1).toInt ∧ (G.1 96 1).toInt ≤ 9 := hB_G.i 96 1 rfl rfl
    have g_49 : (G_13.1 96 1).toInt = (G.1 96 1).toInt := by rw [show G_13.1 96 1 = (G.1 96 1) from ((hq_14.i 96 1 (by decide) (by decide)).trans (hq_5.i 96 1 (by decide) (by decide)))]
    have b_50 : 0 ≤ (G.1 96 2).toInt ∧ (G.1 96 2).toInt ≤ 9 := hB_G.i 96 2 rfl rfl
    have g_51 : (G_13.1 96 2).toInt = (G.1 96 2).toInt := by rw [show G_13.1 96 2 = (G.1 96 2) from ((hq_14.i 96 2 (by decide) (by decide)).trans (hq_5.i 96 2 (by decide) (by decide)))]
    exact K G_13 _ _ _ (Or.inl ⟨((((hq_14.r 0 0 (by decide) (by decide)).trans (hq_5.r 0 0 (by decide) (by decide)))).trans (hv_0_0)), ((((hq_14.r 0 1 (by decide) (by decide)).trans (hq_5.r 0 1 (by decide) (by decide)))).trans (hv_0_1)), ((((hq_14.r 6 4 (by decide) (by decide)).trans (hq_5.r 6 4 (by decide) (by decide)))).trans (hv_6_4)), by omega, by omega, by omega, by omega, by omega, by omega, by omega, by omega, by omega, by omega, by omega, by omega, by omega⟩) hB_G_13 hW hS (lv_sub hl [0, 1, 2, 3] rfl)
  · skip
    refine lv_aload_n hx hb dL_law_1332 rfl (lv_at hl 1 rfl) ?_
    have b_1 : 0 ≤ (G.1 30 4).toInt ∧ (G.1 30 4).toInt ≤ 40 := hB_G.i 30 4 rfl rfl
    have b_2 : 0 ≤ (G.1 30 5).toInt ∧ (G.1 30 5).toInt ≤ 40 := hB_G.i 30 5 rfl rfl
    refine S_calli (va_runV (As := []) (rest := []) ⟨hx, hb, hml, hown, hts⟩ (k_Wday l D k A a z G  (by omega)) (cwV 0 hts (gd_V hgd m1214 m1215 m1216 m117 m1217) rfl rfl rfl (by decide +kernel) ⟨Nat.le_of_ble_eq_true rfl, Nat.le_of_ble_eq_true rfl⟩) (pre_V hW hB_G hK hZ hS kd_0 rfl) rfl rfl hl.1 rfl (lv_room (Nat.le_of_ble_eq_true rfl)) dL_law_1333 ⟨Nat.le_of_ble_eq_true rfl, Nat.le_of_ble_eq_true rfl⟩) hS (fun r_3 G_4 H locs hpo hW hS => ?_)
    have hX_7 : P_Wday G r_3 G_4 := hpo
    obtain ⟨hB_G_4, hq_5, hp_6, -⟩ := hpo
    refine lv_pop hx hb dL_law_1336 rfl ?_
    refine lv_aload_n hx hb dL_law_1337 rfl (lv_at hl 2 rfl) ?_
    have b_8 : 0 ≤ (G.1 66 78).toInt ∧ (G.1 66 78).toInt ≤ 40 := hB_G.i 66 78 rfl rfl
    have g_9 : (G_4.1 66 78).toInt = (G.1 66 78).toInt := by rw [show G_4.1 66 78 = (G.1 66 78) from (hq_5.i 66 78 (by decide) (by decide))]
    have b_10 : 0 ≤ (G.1 66 79).toInt ∧ (G.1 66 79).toInt ≤ 40 := hB_G.i 66 79 rfl rfl
    have g_11 : (G_4.1 66 79).toInt = (G.1 66 79).toInt := by rw [show G_4.1 66 79 = (G.1 66 79) from (hq_5.i 66 79 (by decide) (by decide))]
    refine S_calli (va_runV (As := []) (rest := []) ⟨hx, hb, hml, hown, hts⟩ (n_day l D k A a z G_4  (by omega)) (cwV 0 hts (gd_V hgd m2015 m2016 m2017 m131 m2018) rfl rfl rfl (by decide +kernel) ⟨Nat.le_of_ble_eq_true rfl, Nat.le_of_ble_eq_true rfl⟩) (pre_V hW hB_G_4 hK hZ hS kd_66 rfl) rfl rfl hl.1 rfl (lv_room (Nat.le_of_ble_eq_true rfl)) dL_law_1338 ⟨Nat.le_of_ble_eq_true rfl, Nat.le_of_ble_eq_true rfl⟩) hS (fun r_12 G_13 H locs hpo hW hS => ?_)
    have hX_16 : Q_day G_4 r_12 G_13 := hpo
    obtain ⟨hB_G_13, hq_14, hp_15, -⟩ := hpo
    obtain ⟨u_17, u_18⟩ := L_day_2 hX_7 hX_16  (by omega)
    refine lv_pop hx hb dL_law_1341 rfl ?_
    refine lv_goto (tgt := 1641) hx hb dL_law_1342 (by decide) ?_
    have g_19 : gO G_13 = gO G := gO_fr (rs := [58, 59, 110, 111]) (fs := [(30, 4), (30, 5), (66, 78), (66, 79)]) ((Fr.rf.call hq_5 (by decide) (by decide)).call hq_14 (by decide) (by decide)) (by decide) (by decide)
    have g_20 : gP G_13 = gP G := gP_fr (rs := [58, 59, 110, 111]) (fs := [(30, 4), (30, 5), (66, 78), (66, 79)]) ((Fr.rf.call hq_5 (by decide) (by decide)).call hq_14 (by decide) (by decide)) (by decide) (by decide)
    have g_21 : gS G_13 = gS G := gS_fr (rs := [58, 59, 110, 111]) (fs := [(30, 4), (30, 5), (66, 78), (66, 79)]) ((Fr.rf.call hq_5 (by decide) (by decide)).call hq_14 (by decide) (by decide)) (by decide) (by decide)
    have g_22 : gTE G_13 = gTE G := gTE_fr (rs := [58, 59, 110, 111]) (fs := [(30, 4), (30, 5), (66, 78), (66, 79)]) ((Fr.rf.call hq_5 (by decide) (by decide)).call hq_14 (by decide) (by decide)) (by decide) (by decide)
    have g_23 : gW G_13 = gW G := gW_fr (rs := [58, 59, 110, 111]) (fs := [(30, 4), (30, 5), (66, 78), (66, 79)]) ((Fr.rf.call hq_5 (by decide) (by decide)).call hq_14 (by decide) (by decide)) (by decide) (by decide)
    have b_24 : 0 ≤ (G.1 0 11).toInt ∧ (G.1 0 11).toInt ≤ 1600 := hB_G.i 0 11 rfl rfl
    have g_25 : (G_13.1 0 11).toInt = (G.1 0 11).toInt := by rw [show G_13.1 0 11 = (G.1 0 11) from ((hq_14.i 0 11 (by decide) (by decide)).trans (hq_5.i 0 11 (by decide) (by decide)))]
    have b_26 : 0 ≤ (G.1 3 7).toInt ∧ (G.1 3 7).toInt ≤ 4 := hB_G.i 3 7 rfl rfl
    have g_27 : (G_13.1 3 7).toInt = (G.1 3 7).toInt := by rw [show G_13.1 3 7 = (G.1 3 7) from ((hq_14.i 3 7 (by decide) (by decide)).trans (hq_5.i 3 7 (by decide) (by decide)))]
    have b_28 : (-1) ≤ (G.1 3 8).toInt ∧ (G.1 3 8).toInt ≤ 1600 := hB_G.i 3 8 rfl rfl
    have g_29 : (G_13.1 3 8).toInt = (G.1 3 8).toInt := by rw [show G_13.1 3 8 = (G.1 3 8) from ((hq_14.i 3 8 (by decide) (by decide)).trans (hq_5.i 3 8 (by decide) (by decide)))]
    have b_30 : 0 ≤ (G_4.1 30 4).toInt ∧ (G_4.1 30 4).toInt ≤ 40 := hB_G_4.i 30 4 rfl rfl
    have g_31 : (G_13.1 30 4).toInt = (G_4.1 30 4).toInt := by rw [show G_13.1 30 4 = (G_4.1 30 4) from (hq_14.i 30 4 (by decide) (by decide))]
    have b_32 : 0 ≤ (G_4.1 30 5).toInt ∧ (G_4.1 30 5).toInt ≤ 40 := hB_G_4.i 30 5 rfl rfl
    have g_33 : (G_13.1 30 5).toInt = (G_4.1 30 5).toInt := by rw [show G_13.1 30 5 = (G_4.1 30 5) from (hq_14.i 30 5 (by decide) (by decide))]
    have b_34 : 0 ≤ (G.1 31 6).toInt ∧ (G.1 31 6).toInt ≤ 100000 := hB_G.i 31 6 rfl rfl
    have g_35 : (G_13.1 31 6).toInt = (G.1 31 6).toInt := by rw [show G_13.1 31 6 = (G.1 31 6) from ((hq_14.i 31 6 (by decide) (by decide)).trans (hq_5.i 31 6 (by decide) (by decide)))]
    have b_36 : 0 ≤ (G.1 66 1).toInt ∧ (G.1 66 1).toInt ≤ 1600 := hB_G.i 66 1 rfl rfl
    have g_37 : (G_13.1 66 1).toInt = (G.1 66 1).toInt := by rw [show G_13.1 66 1 = (G.1 66 1) from ((hq_14.i 66 1 (by decide) (by decide)).trans (hq_5.i 66 1 (by decide) (by decide)))]
    have b_38 : 0 ≤ (G.1 66 2).toInt ∧ (G.1 66 2).toInt ≤ 4 := hB_G.i 66 2 rfl rfl
    have g_39 : (G_13.1 66 2).toInt = (G.1 66 2).toInt := by rw [show G_13.1 66 2 = (G.1 66 2) from ((hq_14.i 66 2 (by decide) (by decide)).trans (hq_5.i 66 2 (by decide) (by decide)))]
    have b_40 : (-1) ≤ (G.1 66 3).toInt ∧ (G.1 66 3).toInt ≤ 1600 := hB_G.i 66 3 rfl rfl
    have g_41 : (G_13.1 66 3).toInt = (G.1 66 3).toInt := by rw [show G_13.1 66 3 = (G.1 66 3) from ((hq_14.i 66 3 (by decide) (by decide)).trans (hq_5.i 66 3 (by decide) (by decide)))]
    have b_42 : 0 ≤ (G_13.1 66 78).toInt ∧ (G_13.1 66 78).toInt ≤ 40 := hB_G_13.i 66 78 rfl rfl
    have b_43 : 0 ≤ (G_13.1 66 79).toInt ∧ (G_13.1 66 79).toInt ≤ 40 := hB_G_13.i 66 79 rfl rfl
    have b_44 : 0 ≤ (G.1 66 86).toInt ∧ (G.1 66 86).toInt ≤ 100000 := hB_G.i 66 86 rfl rfl
    have g_45 : (G_13.1 66 86).toInt = (G.1 66 86).toInt := by rw [show G_13.1 66 86 = (G.1 66 86) from ((hq_14.i 66 86 (by decide) (by decide)).trans (hq_5.i 66 86 (by decide) (by decide)))]
    have b_46 : 0 ≤ (G.1 96 0).toInt ∧ (G.1 96 0).toInt ≤ 9 := hB_G.i 96 0 rfl rfl
    have g_47 : (G_13.1 96 0).toInt = (G.1 96 0).toInt := by rw [show G_13.1 96 0 = (G.1 96 0) from ((hq_14.i 96 0 (by decide) (by decide)).trans (hq_5.i 96 0 (by decide) (by decide)))]
    have b_48 : 0 ≤ (G.1 96 1).toInt ∧ (G.1 96 1).toInt ≤ 9 := hB_G.i 96 1 rfl rfl
    have g_49 : (G_13.1 96 1).toInt = (G.1 96 1).toInt := by rw [show G_13.1 96 1 = (G.1 96 1) from ((hq_14.i 96 1 (by decide) (by decide)).trans (hq_5.i 96 1 (by decide) (by decide)))]
    have b_50 : 0 ≤ (G.1 96 2).toInt ∧ (G.1 96 2).toInt ≤ 9 := hB_G.i 96 2 rfl rfl
    have g_51 : (G_13.1 96 2).toInt = (G.1 96 2).toInt := by rw [show G_13.1 96 2 = (G.1 96 2) from ((hq_14.i 96 2 (by decide) (by decide)).trans (hq_5.i 96 2 (by decide) (by decide)))]
    exact K G_13 _ _ _ (Or.inr ⟨((((hq_14.r 0 0 (by decide) (by decide)).trans (hq_5.r 0 0 (by decide) (by decide)))).trans (hv_0_0)), ((((hq_14.r 0 1 (by decide) (by decide)).trans (hq_5.r 0 1 (by decide) (by decide)))).trans (hv_0_1)), ((((hq_14.r 6 4 (by decide) (by decide)).trans (hq_5.r 6 4 (by decide) (by decide)))).trans (hv_6_4)), by omega, by omega, by omega, by omega, by omega, by omega, by omega, by omega, by omega, by omega, by omega, by omega, by omega⟩) hB_G_13 hW hS (lv_sub hl [0, 1, 2, 3] rfl)
