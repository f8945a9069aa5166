theorem m1287 : Cond.methodLink RL 168 yX11_image ∈ gd := gd_mem 1287 (by decide +kernel) (by decide +kernel)
theorem m1288 : Cond.instanceMethod yX11_image ∈ gd := gd_mem 1288 (by decide +kernel) (by decide +kernel)
theorem m1289 : Cond.selects RX11 yX11_image yX11_image ∈ gd := gd_mem 1289 (by decide +kernel) (by decide +kernel)
theorem m1290 : Cond.code yX11_image cX11_image 2 (some .int) ∈ gd := gd_mem 1290 (by decide +kernel) (by decide +kernel)
theorem m1295 : Cond.methodLink RL 172 yX11_back ∈ gd := gd_mem 1295 (by decide +kernel) (by decide +kernel)
theorem m1296 : Cond.instanceMethod yX11_back ∈ gd := gd_mem 1296 (by decide +kernel) (by decide +kernel)
theorem m1297 : Cond.selects RX11 yX11_back yX11_back ∈ gd := gd_mem 1297 (by decide +kernel) (by decide +kernel)
theorem m1298 : Cond.code yX11_back cX11_back 2 (some .int) ∈ gd := gd_mem 1298 (by decide +kernel) (by decide +kernel)
theorem m1303 : Cond.methodLink RL 176 yX11_about ∈ gd := gd_mem 1303 (by decide +kernel) (by decide +kernel)
theorem m1304 : Cond.instanceMethod yX11_about ∈ gd := gd_mem 1304 (by decide +kernel) (by decide +kernel)
theorem m1305 : Cond.selects RX11 yX11_about yX11_about ∈ gd := gd_mem 1305 (by decide +kernel) (by decide +kernel)
theorem m1306 : Cond.code yX11_about cX11_about 2 (some .int) ∈ gd := gd_mem 1306 (by decide +kernel) (by decide +kernel)
theorem m2066 : Cond.methodLink RL 171 yX12_image ∈ gd := gd_mem 2066 (by decide +kernel) (by decide +kernel)
theorem m2067 : Cond.instanceMethod yX12_image ∈ gd := gd_mem 2067 (by decide +kernel) (by decide +kernel)
theorem m2068 : Cond.selects RX12 yX12_image yX12_image ∈ gd := gd_mem 2068 (by decide +kernel) (by decide +kernel)
theorem m2069 : Cond.code yX12_image cX12_image 3 (some .int) ∈ gd := gd_mem 2069 (by decide +kernel) (by decide +kernel)
theorem m2073 : Cond.methodLink RL 175 yX12_back ∈ gd := gd_mem 2073 (by decide +kernel) (by decide +kernel)
theorem m2074 : Cond.instanceMethod yX12_back ∈ gd := gd_mem 2074 (by decide +kernel) (by decide +kernel)
theorem m2075 : Cond.selects RX12 yX12_back yX12_back ∈ gd := gd_mem 2075 (by decide +kernel) (by decide +kernel)
theorem m2076 : Cond.code yX12_back cX12_back 3 (some .int) ∈ gd := gd_mem 2076 (by decide +kernel) (by decide +kernel)
theorem m2077 : Cond.methodLink RL 179 yX12_about ∈ gd := gd_mem 2077 (by decide +kernel) (by decide +kernel)
theorem m2078 : Cond.instanceMethod yX12_about ∈ gd := gd_mem 2078 (by decide +kernel) (by decide +kernel)
theorem m2079 : Cond.selects RX12 yX12_about yX12_about ∈ gd := gd_mem 2079 (by decide +kernel) (by decide +kernel)
theorem m2080 : Cond.code yX12_about cX12_about 2 (some .int) ∈ gd := gd_mem 2080 (by decide +kernel) (by decide +kernel)
theorem dL_law_1572 : decode cL_law 1572 = .ok (.aload_n 1, 1) := by decide +kernel
theorem dL_law_1573 : decode cL_law 1573 = .ok (.aload_n 0, 1) := by decide +kernel
theorem dL_law_1574 : decode cL_law 1574 = .ok (.iload_n 3, 1) := by decide +kernel
theorem dL_law_1575 : decode cL_law 1575 = .ok (.iconst 1, 1) := by decide +kernel
theorem dL_law_1576 : decode cL_law 1576 = .ok (.iadd, 1) := by decide +kernel
theorem dL_law_1577 : decode cL_law 1577 = .ok (.iaload, 1) := by decide +kernel
theorem dL_law_1578 : decode cL_law 1578 = .ok (.invokevirtual 168, 3) := by decide +kernel
theorem dL_law_1581 : decode cL_law 1581 = .ok (.pop, 1) := by decide +kernel
theorem dL_law_1582 : decode cL_law 1582 = .ok (.aload_n 2, 1) := by decide +kernel
theorem dL_law_1583 : decode cL_law 1583 = .ok (.aload_n 0, 1) := by decide +kernel
theorem dL_law_1584 : decode cL_law 1584 = .ok (.iload_n 3, 1) := by decide +kernel
theorem dL_law_1585 : decode cL_law 1585 = .ok (.iconst 1, 1) := by decide +kernel
theorem dL_law_1586 : decode cL_law 1586 = .ok (.iadd, 1) := by decide +kernel
theorem dL_law_1587 : decode cL_law 1587 = .ok (.iaload, 1) := by decide +kernel
theorem dL_law_1588 : decode cL_law 1588 = .ok (.invokevirtual 171, 3) := by decide +kernel
theorem dL_law_1591 : decode cL_law 1591 = .ok (.pop, 1) := by decide +kernel
theorem dL_law_1592 : decode cL_law 1592 = .ok (.goto 49, 3) := by decide +kernel
theorem dL_law_1595 : decode cL_law 1595 = .ok (.aload_n 1, 1) := by decide +kernel
theorem dL_law_1596 : decode cL_law 1596 = .ok (.aload_n 0, 1) := by decide +kernel
theorem dL_law_1597 : decode cL_law 1597 = .ok (.iload_n 3, 1) := by decide +kernel
theorem dL_law_1598 : decode cL_law 1598 = .ok (.iconst 1, 1) := by decide +kernel
theorem dL_law_1599 : decode cL_law 1599 = .ok (.iadd, 1) := by decide +kernel
theorem dL_law_1600 : decode cL_law 1600 = .ok (.iaload, 1) := by decide +kernel
theorem dL_law_1601 : decode cL_law 1601 = .ok (.invokevirtual 172, 3) := by decide +kernel
theorem dL_law_1604 : decode cL_law 1604 = .ok (.pop, 1) := by decide +kernel
theorem dL_law_1605 : decode cL_law 1605 = .ok (.aload_n 2, 1) := by decide +kernel
theorem dL_law_1606 : decode cL_law 1606 = .ok (.aload_n 0, 1) := by decide +kernel
theorem dL_law_1607 : decode cL_law 1607 = .ok (.iload_n 3, 1) := by decide +kernel
theorem dL_law_1608 : decode cL_law 1608 = .ok (.iconst 1, 1) := by decide +kernel
theorem dL_law_1609 : decode cL_law 1609 = .ok (.iadd, 1) := by decide +kernel
theorem dL_law_1610 : decode cL_law 1610 = .ok (.iaload, 1) := by decide +kernel
theorem dL_law_1611 : decode cL_law 1611 = .ok (.invokevirtual 175, 3) := by decide +kernel
theorem dL_law_1614 : decode cL_law 1614 = .ok (.pop, 1) := by decide +kernel
theorem dL_law_1615 : decode cL_law 1615 = .ok (.goto 26, 3) := by decide +kernel
theorem dL_law_1618 : decode cL_law 1618 = .ok (.aload_n 1, 1) := by decide +kernel
theorem dL_law_1619 : decode cL_law 1619 = .ok (.aload_n 0, 1) := by decide +kernel
theorem dL_law_1620 : decode cL_law 1620 = .ok (.iload_n 3, 1) := by decide +kernel
theorem dL_law_1621 : decode cL_law 1621 = .ok (.iconst 1, 1) := by decide +kernel
theorem dL_law_1622 : decode cL_law 1622 = .ok (.iadd, 1) := by decide +kernel
theorem dL_law_1623 : decode cL_law 1623 = .ok (.iaload, 1) := by decide +kernel
theorem dL_law_1624 : decode cL_law 1624 = .ok (.invokevirtual 176, 3) := by decide +kernel
theorem dL_law_1627 : decode cL_law 1627 = .ok (.pop, 1) := by decide +kernel
theorem dL_law_1628 : decode cL_law 1628 = .ok (.aload_n 2, 1) := by decide +kernel
theorem dL_law_1629 : decode cL_law 1629 = .ok (.aload_n 0, 1) := by decide +kernel
theorem dL_law_1630 : decode cL_law 1630 = .ok (.iload_n 3, 1) := by decide +kernel
theorem dL_law_1631 : decode cL_law 1631 = .ok (.iconst 1, 1) := by decide +kernel
theorem dL_law_1632 : decode cL_law 1632 = .ok (.iadd, 1) := by decide +kernel
theorem dL_law_1633 : decode cL_law 1633 = .ok (.iaload, 1) := by decide +kernel
theorem dL_law_1634 : decode cL_law 1634 = .ok (.invokevirtual 179, 3) := by decide +kernel
theorem dL_law_1637 : decode cL_law 1637 = .ok (.pop, 1) := by decide +kernel
theorem dL_law_1638 : decode cL_law 1638 = .ok (.goto 3, 3) := by decide +kernel
set_option maxHeartbeats 4000000 in
set_option maxRecDepth 100000 in
theorem law_36 {p : Program} {l : Launch} {e : Env} {s : State} {m : MethodId} {below : List Frame} {meth : Method} {c : Code} {D : va_G} {k : KT} {A : Nat → Prop} {a : Nat → Nat} {z : SK} {b L : Nat} {xs : Nat → Int32} (hL : L ≤ 3072) (C0 : lw_At p s m meth c b L xs) (hK : cK D k s) (hZ : Sx A z s) (hbA : ¬ A b) {G : GS} {i0 : Int32} (hi0 : 0 ≤ i0.toInt) (hi6 : i0.toInt + 6 ≤ L) (hI : LI G) (hB_G : Bd G) {H : Heap} {locs : List Loc} {ls : Array Slot} (hW : Wd D k A a G H) (hS : va_S A s.heap H locs) (hl : lv_has ls 4 [(0, .ref b), (1, .ref (a 0)), (2, .ref (a 66)), (3, .int i0)]) (K : ∀ (G1 : GS) (H1 : Heap) (locs1 : List Loc) (ls1 : Array Slot), LI G1 → Bd G1 → Wd D k A a G1 H1 → va_S A s.heap H1 locs1 → lv_has ls1 4 [(0, .ref b), (1, .ref (a 0)), (2, .ref (a 66)), (3, .int i0)] → W p l e room_1 s m #[Value.ref b] below meth c H1 locs1 119 46443 (lw_Z below #[Value.ref b] s) (F0 m 1641 ls1 [])) : W p l e room_1 s m #[Value.ref b] below meth c H locs 119 46443 (lw_Z below #[Value.ref b] s) (F0 m 1572 ls []) := by
  obtain ⟨hx, hb, hr, hml, hown, hts, hX, hbl, hlocks, hgv⟩ := id C0
  have hown : s.vm.findClass RL = some m.cls := hown
  have hgd : ∀ w ∈ gd, w ∈ lw_tbl := fun w h => (List.mem_filter.mp h).1
  have hg : ∀ w ∈ gd, w.before #[Value.ref b] s = true := fun w h => hts w (hgd w h)
  rcases hI with ⟨hv_0_0, hv_0_1, hv_6_4, hj0, hj1, hj2, hj3, hj4, hj5, hj6, hj7, hj8, hj9, hj10, hj11⟩ | ⟨hv_0_0, hv_0_1, hv_6_4, hj0, hj1, hj2, hj3, hj4, hj5, hj6, hj7, hj8, hj9, hj10, hj11⟩
  · skip
    refine lv_aload_n hx hb dL_law_1572 rfl (lv_at hl 1 rfl) ?_
    refine lv_aload_n hx hb dL_law_1573 rfl (lv_at hl 0 rfl) ?_
    refine lv_iload_n hx hb dL_law_1574 rfl (lv_at hl 3 rfl) ?_
    refine lv_iconst (v := 1) hx hb dL_law_1575 (by decide) ?_
    refine lv_iadd hx hb dL_law_1576 ?_
    refine lv_topi (fun y_1 ey_1 => ?_)
    have ty_1 : y_1.toInt = i0.toInt + 1 := xI_add rfl rfl ey_1 (by omega) (by omega)
    refine va_sld hx hb hX hbl hbA hS (vin (by omega) (by omega)) dL_law_1577 ?_
    refine lv_topi (fun y_2 ey_2 => ?_)
    have u_3 : y_2.toInt = (xs (i0 + 1).toNatClampNeg).toInt := by rw [ey_2, ey_1]
    have b_4 : 0 ≤ (G.1 30 4).toInt ∧ (G.1 30 4).toInt ≤ 40 := hB_G.i 30 4 rfl rfl
    have b_5 : 0 ≤ (G.1 30 5).toInt ∧ (G.1 30 5).toInt ≤ 40 := hB_G.i 30 5 rfl rfl
    refine S_calli (va_runV (As := [.int y_2]) (rest := []) ⟨hx, hb, hml, hown, hts⟩ (k_Wimage l D k A a z G y_2 (by omega)) (cwV 1 hts (gd_V hgd m1287 m1288 m1289 m117 m1290) rfl rfl rfl (by decide +kernel) ⟨Nat.le_of_ble_eq_true rfl, Nat.le_of_ble_eq_true rfl⟩) (pre_V hW hB_G hK hZ hS kd_0 rfl) rfl rfl hl.1 rfl (lv_room (Nat.le_of_ble_eq_true rfl)) dL_law_1578 ⟨Nat.le_of_ble_eq_true rfl, Nat.le_of_ble_eq_true rfl⟩) hS (fun r_6 G_7 H locs hpo hW hS => ?_)
    have hX_10 : P_Wimage y_2 G r_6 G_7 := hpo
    obtain ⟨hB_G_7, hq_8, hp_9, -⟩ := hpo
    refine lv_pop hx hb dL_law_1581 rfl ?_
    refine lv_aload_n hx hb dL_law_1582 rfl (lv_at hl 2 rfl) ?_
    refine lv_aload_n hx hb dL_law_1583 rfl (lv_at hl 0 rfl) ?_
    refine lv_iload_n hx hb dL_law_1584 rfl (lv_at hl 3 rfl) ?_
    refine lv_iconst (v := 1) hx hb dL_law_1585 (by decide) ?_
    refine lv_iadd hx hb dL_law_1586 ?_
    refine lv_topi (fun y_11 ey_11 => ?_)
    have ty_11 : y_11.toInt = i0.toInt + 1 := xI_add rfl rfl ey_11 (by omega) (by omega)
    refine va_sld hx hb hX hbl hbA hS (vin (by omega) (by omega)) dL_law_1587 ?_
    refine lv_topi (fun y_12 ey_12 => ?_)
    have u_13 : y_12.toInt = (xs (i0 + 1).toNatClampNeg).toInt := by rw [ey_12, ey_11]
    have b_14 : 0 ≤ (G.1 66 78).toInt ∧ (G.1 66 78).toInt ≤ 40 := hB_G.i 66 78 rfl rfl
    have g_15 : (G_7.1 66 78).toInt = (G.1 66 78).toInt := by rw [show G_7.1 66 78 = (G.1 66 78) from (hq_8.i 66 78 (by decide) (by decide))]
    have b_16 : 0 ≤ (G.1 66 79).toInt ∧ (G.1 66 79).toInt ≤ 40 := hB_G.i 66 79 rfl rfl
    have g_17 : (G_7.1 66 79).toInt = (G.1 66 79).toInt := by rw [show G_7.1 66 79 = (G.1 66 79) from (hq_8.i 66 79 (by decide) (by decide))]
    refine S_calli (va_runV (As := [.int y_12]) (rest := []) ⟨hx, hb, hml, hown, hts⟩ (n_image l D k A a z G_7 y_12 (by omega)) (cwV 1 hts (gd_V hgd m2066 m2067 m2068 m131 m2069) rfl rfl rfl (by decide +kernel) ⟨Nat.le_of_ble_eq_true rfl, Nat.le_of_ble_eq_true rfl⟩) (pre_V hW hB_G_7 hK hZ hS kd_66 rfl) rfl rfl hl.1 rfl (lv_room (Nat.le_of_ble_eq_true rfl)) dL_law_1588 ⟨Nat.le_of_ble_eq_true rfl, Nat.le_of_ble_eq_true rfl⟩) hS (fun r_18 G_19 H locs hpo hW hS => ?_)
    have hX_22 : Q_image y_12 G_7 r_18 G_19 := hpo
    obtain ⟨hB_G_19, hq_20, hp_21, -⟩ := hpo
    obtain ⟨u_23, u_24⟩ := L_image_1 hX_10 hX_22 (by omega) (by omega)
    refine lv_pop hx hb dL_law_1591 rfl ?_
    refine lv_goto (tgt := 1641) hx hb dL_law_1592 (by decide) ?_
    have g_25 : gO G_19 = gO G := gO_fr (rs := [60, 117, 118]) (fs := [(30, 3)]) ((Fr.rf.call hq_8 (by decide) (by decide)).call hq_20 (by decide) (by decide)) (by decide) (by decide)
    have g_26 : gP G_19 = gP G := gP_fr (rs := [60, 117, 118]) (fs := [(30, 3)]) ((Fr.rf.call hq_8 (by decide) (by decide)).call hq_20 (by decide) (by decide)) (by decide) (by decide)
    have g_27 : gS G_19 = gS G := gS_fr (rs := [60, 117, 118]) (fs := [(30, 3)]) ((Fr.rf.call hq_8 (by decide) (by decide)).call hq_20 (by decide) (by decide)) (by decide) (by decide)
    have g_28 : gTE G_19 = gTE G := gTE_fr (rs := [60, 117, 118]) (fs := [(30, 3)]) ((Fr.rf.call hq_8 (by decide) (by decide)).call hq_20 (by decide) (by decide)) (by decide) (by decide)
    have g_29 : gW G_19 = gW G := gW_fr (rs := [60, 117, 118]) (fs := [(30, 3)]) ((Fr.rf.call hq_8 (by decide) (by decide)).call hq_20 (by decide) (by decide)) (by decide) (by decide)
    have b_30 : 0 ≤ (G.1 0 11).toInt ∧ (G.1 0 11).toInt ≤ 1600 := hB_G.i 0 11 rfl rfl
    have g_31 : (G_19.1 0 11).toInt = (G.1 0 11).toInt := by rw [show G_19.1 0 11 = (G.1 0 11) from ((hq_20.i 0 11 (by decide) (by decide)).trans (hq_8.i 0 11 (by decide) (by decide)))]
    have b_32 : 0 ≤ (G.1 3 7).toInt ∧ (G.1 3 7).toInt ≤ 4 := hB_G.i 3 7 rfl rfl
    have g_33 : (G_19.1 3 7).toInt = (G.1 3 7).toInt := by rw [show G_19.1 3 7 = (G.1 3 7) from ((hq_20.i 3 7 (by decide) (by decide)).trans (hq_8.i 3 7 (by decide) (by decide)))]
    have b_34 : (-1) ≤ (G.1 3 8).toInt ∧ (G.1 3 8).toInt ≤ 1600 := hB_G.i 3 8 rfl rfl
    have g_35 : (G_19.1 3 8).toInt = (G.1 3 8).toInt := by rw [show G_19.1 3 8 = (G.1 3 8) from ((hq_20.i 3 8 (by decide) (by decide)).trans (hq_8.i 3 8 (by decide) (by decide)))]
    have g_36 : (G_19.1 30 4).toInt = (G.1 30 4).toInt := by rw [show G_19.1 30 4 = (G.1 30 4) from ((hq_20.i 30 4 (by decide) (by decide)).trans ((hq_8.i 30 4 (by decide) (by decide)).trans (rfl)))]
    have g_37 : (G_19.1 30 5).toInt = (G.1 30 5).toInt := by rw [show G_19.1 30 5 = (G.1 30 5) from ((hq_20.i 30 5 (by decide) (by decide)).trans ((hq_8.i 30 5 (by decide) (by decide)).trans (rfl)))]
    have b_38 : 0 ≤ (G.1 31 6).toInt ∧ (G.1 31 6).toInt ≤ 100000 := hB_G.i 31 6 rfl rfl
    have g_39 : (G_19.1 31 6).toInt = (G.1 31 6).toInt := by rw [show G_19.1 31 6 = (G.1 31 6) from ((hq_20.i 31 6 (by decide) (by decide)).trans (hq_8.i 31 6 (by decide) (by decide)))]
    have b_40 : 0 ≤ (G.1 66 1).toInt ∧ (G.1 66 1).toInt ≤ 1600 := hB_G.i 66 1 rfl rfl
    have g_41 : (G_19.1 66 1).toInt = (G.1 66 1).toInt := by rw [show G_19.1 66 1 = (G.1 66 1) from ((hq_20.i 66 1 (by decide) (by decide)).trans (hq_8.i 66 1 (by decide) (by decide)))]
    have b_42 : 0 ≤ (G.1 66 2).toInt ∧ (G.1 66 2).toInt ≤ 4 := hB_G.i 66 2 rfl rfl
    have g_43 : (G_19.1 66 2).toInt = (G.1 66 2).toInt := by rw [show G_19.1 66 2 = (G.1 66 2) from ((hq_20.i 66 2 (by decide) (by decide)).trans (hq_8.i 66 2 (by decide) (by decide)))]
    have b_44 : (-1) ≤ (G.1 66 3).toInt ∧ (G.1 66 3).toInt ≤ 1600 := hB_G.i 66 3 rfl rfl
    have g_45 : (G_19.1 66 3).toInt = (G.1 66 3).toInt := by rw [show G_19.1 66 3 = (G.1 66 3) from ((hq_20.i 66 3 (by decide) (by decide)).trans (hq_8.i 66 3 (by decide) (by decide)))]
    have g_46 : (G_19.1 66 78).toInt = (G.1 66 78).toInt := by rw [show G_19.1 66 78 = (G.1 66 78) from ((hq_20.i 66 78 (by decide) (by decide)).trans ((hq_8.i 66 78 (by decide) (by decide)).trans (rfl)))]
    have g_47 : (G_19.1 66 79).toInt = (G.1 66 79).toInt := by rw [show G_19.1 66 79 = (G.1 66 79) from ((hq_20.i 66 79 (by decide) (by decide)).trans ((hq_8.i 66 79 (by decide) (by decide)).trans (rfl)))]
    have b_48 : 0 ≤ (G.1 66 86).toInt ∧ (G.1 66 86).toInt ≤ 100000 := hB_G.i 66 86 rfl rfl
    have g_49 : (G_19.1 66 86).toInt = (G.1 66 86).toInt := by rw [show G_19.1 66 86 = (G.1 66 86) from ((hq_20.i 66 86 (by decide) (by decide)).trans (hq_8.i 66 86 (by decide) (by decide)))]
    have b_50 : 0 ≤ (G.1 96 0).toInt ∧ (G.1 96 0).toInt ≤ 9 := hB_G.i 96 0 rfl rfl
    have g_51 : (G_19.1 96 0).toInt = (G.1 96 0).toInt := by rw [show G_19.1 96 0 = (G.1 96 0) from ((hq_20.i 96 0 (by decide) (by decide)).trans (hq_8.i 96 0 (by decide) (by decide)))]
    have b_52 : 0 ≤ (G.1 96 1).toInt ∧ (G.1 96 1).toInt ≤ 9 := hB_G.i 96 1 rfl rfl
    have g_53 : (G_19.1 96 1).toInt = (G.1 96 1).toInt := by rw [show G_19.1 96 1 = (G.1 96 1) from ((hq_20.i 96 1 (by decide) (by decide)).trans (hq_8.i 96 1 (by decide) (by decide)))]
    have b_54 : 0 ≤ (G.1 96 2).toInt ∧ (G.1 96 2).toInt ≤ 9 := hB_G.i 96 2 rfl rfl
    have g_55 : (G_19.1 96 2).toInt = (G.1 96 2).toInt := by rw [show G_19.1 96 2 = (G.1 96 2) from ((hq_20.i 96 2 (by decide) (by decide)).trans (hq_8.i 96 2 (by decide) (by decide)))]
    exact K G_19 _ _ _ (Or.inl ⟨((((hq_20.r 0 0 (by decide) (by decide)).trans (hq_8.r 0 0 (by decide) (by decide)))).trans (hv_0_0)), ((((hq_20.r 0 1 (by decide) (by decide)).trans (hq_8.r 0 1 (by decide) (by decide)))).trans (hv_0_1)), ((((hq_20.r 6 4 (by decide) (by decide)).trans (hq_8.r 6 4 (by decide) (by decide)))).trans (hv_6_4)), by omega, by omega, by omega, by omega, by omega, by omega, by omega, by omega, by omega, by omega, by omega, by omega, by omega⟩) hB_G_19 hW hS (lv_sub hl [0, 1, 2, 3] rfl)
  · skip
    refine lv_aload_n hx hb dL_law_1572 rfl (lv_at hl 1 rfl) ?_
    refine lv_aload_n hx hb dL_law_1573 rfl (lv_at hl 0 rfl) ?_
    refine lv_iload_n hx hb dL_law_1574 rfl (lv_at hl 3 rfl) ?_
    refine lv_iconst (v := 1) hx hb dL_law_1575 (by decide) ?_
    refine lv_iadd hx hb dL_law_1576 ?_
    refine lv_topi (fun y_1 ey_1 => ?_)
    have ty_1 : y_1.toInt = i0.toInt + 1 := xI_add rfl rfl ey_1 (by omega) (by omega)
    refine va_sld hx hb hX hbl hbA hS (vin (by omega) (by omega)) dL_law_1577 ?_
    refine lv_topi (fun y_2 ey_2 => ?_)
    have u_3 : y_2.toInt = (xs (i0 + 1).toNatClampNeg).toInt := by rw [ey_2, ey_1]
    have b_4 : 0 ≤ (G.1 30 4).toInt ∧ (G.1 30 4).toInt ≤ 40 := hB_G.i 30 4 rfl rfl
    have b_5 : 0 ≤ (G.1 30 5).toInt ∧ (G.1 30 5).toInt ≤ 40 := hB_G.i 30 5 rfl rfl
    refine S_calli (va_runV (As := [.int y_2]) (rest := []) ⟨hx, hb, hml, hown, hts⟩ (k_Wimage l D k A a z G y_2 (by omega)) (cwV 1 hts (gd_V hgd m1287 m1288 m1289 m117 m1290) rfl rfl rfl (by decide +kernel) ⟨Nat.le_of_ble_eq_true rfl, Nat.le_of_ble_eq_true rfl⟩) (pre_V hW hB_G hK hZ hS kd_0 rfl) rfl rfl hl.1 rfl (lv_room (Nat.le_of_ble_eq_true rfl)) dL_law_1578 ⟨Nat.le_of_ble_eq_true rfl, Nat.le_of_ble_eq_true rfl⟩) hS (fun r_6 G_7 H locs hpo hW hS => ?_)
    have hX_10 : P_Wimage y_2 G r_6 G_7 := hpo
    obtain ⟨hB_G_7, hq_8, hp_9, -⟩ := hpo
    refine lv_pop hx hb dL_law_1581 rfl ?_
    refine lv_aload_n hx hb dL_law_1582 rfl (lv_at hl 2 rfl) ?_
    refine lv_aload_n hx hb dL_law_1583 rfl (lv_at hl 0 rfl) ?_
    refine lv_iload_n hx hb dL_law_1584 rfl (lv_at hl 3 rfl) ?_
    refine lv_iconst (v := 1) hx hb dL_law_1585 (by decide) ?_
    refine lv_iadd hx hb dL_law_1586 ?_
    refine lv_topi (fun y_11 ey_11 => ?_)
    have ty_11 : y_11.toInt = i0.toInt + 1 := xI_add rfl rfl ey_11 (by omega) (by omega)
    refine va_sld hx hb hX hbl hbA hS (vin (by omega) (by omega)) dL_law_1587 ?_
    refine lv_topi (fun y_12 ey_12 => ?_)
    have u_13 : y_12.toInt = (xs (i0 + 1).toNatClampNeg).toInt := by rw [ey_12, ey_11]
    have b_14 : 0 ≤ (G.1 66 78).toInt ∧ (G.1 66 78).toInt ≤ 40 := hB_G.i 66 78 rfl rfl
    have g_15 : (G_7.1 66 78).toInt = (G.1 66 78).toInt := by rw [show G_7.1 66 78 = (G.1 66 78) from (hq_8.i 66 78 (by decide) (by decide))]
    have b_16 : 0 ≤ (G.1 66 79).toInt ∧ (G.1 66 79).toInt ≤ 40 := hB_G.i 66 79 rfl rfl
    have g_17 : (G_7.1 66 79).toInt = (G.1 66 79).toInt := by rw [show G_7.1 66 79 = (G.1 66 79) from (hq_8.i 66 79 (by decide) (by decide))]
    refine S_calli (va_runV (As := [.int y_12]) (rest := []) ⟨hx, hb, hml, hown, hts⟩ (n_image l D k A a z G_7 y_12 (by omega)) (cwV 1 hts (gd_V hgd m2066 m2067 m2068 m131 m2069) rfl rfl rfl (by decide +kernel) ⟨Nat.le_of_ble_eq_true rfl, Nat.le_of_ble_eq_true rfl⟩) (pre_V hW hB_G_7 hK hZ hS kd_66 rfl) rfl rfl hl.1 rfl (lv_room (Nat.le_of_ble_eq_true rfl)) dL_law_1588 ⟨Nat.le_of_ble_eq_true rfl, Nat.le_of_ble_eq_true rfl⟩) hS (fun r_18 G_19 H locs hpo hW hS => ?_)
    have hX_22 : Q_image y_12 G_7 r_18 G_19 := hpo
    obtain ⟨hB_G_19, hq_20, hp_21, -⟩ := hpo
    obtain ⟨u_23, u_24⟩ := L_image_2 hX_10 hX_22 (by omega) (by omega)
    refine lv_pop hx hb dL_law_1591 rfl ?_
    refine lv_goto (tgt := 1641) hx hb dL_law_1592 (by decide) ?_
    have g_25 : gO G_19 = gO G := gO_fr (rs := [60, 117, 118]) (fs := [(30, 3)]) ((Fr.rf.call hq_8 (by decide) (by decide)).call hq_20 (by decide) (by decide)) (by decide) (by decide)
    have g_26 : gP G_19 = gP G := gP_fr (rs := [60, 117, 118]) (fs := [(30, 3)]) ((Fr.rf.call hq_8 (by decide) (by decide)).call hq_20 (by decide) (by decide)) (by decide) (by decide)
    have g_27 : gS G_19 = gS G := gS_fr (rs := [60, 117, 118]) (fs := [(30, 3)]) ((Fr.rf.call hq_8 (by decide) (by decide)).call hq_20 (by decide) (by decide)) (by decide) (by decide)
    have g_28 : gTE G_19 = gTE G := gTE_fr (rs := [60, 117, 118]) (fs := [(30, 3)]) ((Fr.rf.call hq_8 (by decide) (by decide)).call hq_20 (by decide) (by decide)) (by decide) (by decide)
    have g_29 : gW G_19 = gW G := gW_fr (rs := [60, 117, 118]) (fs := [(30, 3)]) ((Fr.rf.call hq_8 (by decide) (by decide)).call hq_20 (by decide) (by decide)) (by decide) (by decide)
    have b_30 : 0 ≤ (G.1 0 11).toInt ∧ (G.1 0 11).toInt ≤ 1600 := hB_G.i 0 11 rfl rfl
    have g_31 : (G_19.1 0 11).toInt = (G.1 0 11).toInt := by rw [show G_19.1 0 11 = (G.1 0 11) from ((hq_20.i 0 11 (by decide) (by decide)).trans (hq_8.i 0 11 (by decide) (by decide)))]
    have b_32 : 0 ≤ (G.1 3 7).toInt ∧ (G.1 3 7).toInt ≤ 4 := hB_G.i 3 7 rfl rfl
    have g_33 : (G_19.1 3 7).toInt = (G.1 3 7).toInt := by rw [show G_19.1 3 7 = (G.1 3 7) from ((hq_20.i 3 7 (by decide) (by decide)).trans (hq_8.i 3 7 (by decide) (by decide)))]
    have b_34 : (-1) ≤ (G.1 3 8).toInt ∧ (G.1 3 8).toInt ≤ 1600 := hB_G.i 3 8 rfl rfl
    have g_35 : (G_19.1 3 8).toInt = (G.1 3 8).toInt := by rw [show G_19.1 3 8 = (G.1 3 8) from ((hq_20.i 3 8 (by decide) (by decide)).trans (hq_8.i 3 8 (by decide) (by decide)))]
    have g_36 : (G_19.1 30 4).toInt = (G.1 30 4).toInt := by rw [show G_19.1 30 4 = (G.1 30 4) from ((hq_20.i 30 4 (by decide) (by decide)).trans ((hq_8.i 30 4 (by decide) (by decide)).trans (rfl)))]
    have g_37 : (G_19.1 30 5).toInt = (G.1 30 5).toInt := by rw [show G_19.1 30 5 = (G.1 30 5) from ((hq_20.i 30 5 (by decide) (by decide)).trans ((hq_8.i 30 5 (by decide) (by decide)).trans (rfl)))]
    have b_38 : 0 ≤ (G.1 31 6).toInt ∧ (G.1 31 6).toInt ≤ 100000 := hB_G.i 31 6 rfl rfl
    have g_39 : (G_19.1 31 6).toInt = (G.1 31 6).toInt := by rw [show G_19.1 31 6 = (G.1 31 6) from ((hq_20.i 31 6 (by decide) (by decide)).trans (hq_8.i 31 6 (by decide) (by decide)))]
    have b_40 : 0 ≤ (G.1 66 1).toInt ∧ (G.1 66 1).toInt ≤ 1600 := hB_G.i 66 1 rfl rfl
    have g_41 : (G_19.1 66 1).toInt = (G.1 66 1).toInt := by rw [show G_19.1 66 1 = (G.1 66 1) from ((hq_20.i 66 1 (by decide) (by decide)).trans (hq_8.i 66 1 (by decide) (by decide)))]
    have b_42 : 0 ≤ (G.1 66 2).toInt ∧ (G.1 66 2).toInt ≤ 4 := hB_G.i 66 2 rfl rfl
    have g_43 : (G_19.1 66 2).toInt = (G.1 66 2).toInt := by rw [show G_19.1 66 2 = (G.1 66 2) from ((hq_20.i 66 2 (by decide) (by decide)).trans (hq_8.i 66 2 (by decide) (by decide)))]
    have b_44 : (-1) ≤ (G.1 66 3).toInt ∧ (G.1 66 3).toInt ≤ 1600 := hB_G.i 66 3 rfl rfl
    have g_45 : (G_19.1 66 3).toInt = (G.1 66 3).toInt := by rw [show G_19.1 66 3 = (G.1 66 3) from ((hq_20.i 66 3 (by decide) (by decide)).trans (hq_8.i 66 3 (by decide) (by decide)))]
    have g_46 : (G_19.1 66 78).toInt = (G.1 66 78).toInt := by rw [show G_19.1 66 78 = (G.1 66 78) from ((hq_20.i 66 78 (by decide) (by decide)).trans ((hq_8.i 66 78 (by decide) (by decide)).trans (rfl)))]
    have g_47 : (G_19.1 66 79).toInt = (G.1 66 79).toInt := by rw [show G_19.1 66 79 = (G.1 66 79) from ((hq_20.i 66 79 (by decide) (by decide)).trans ((hq_8.i 66 79 (by decide) (by decide)).trans (rfl)))]
    have b_48 : 0 ≤ (G.1 66 86).toInt ∧ (G.1 66 86).toInt ≤ 100000 := hB_G.i 66 86 rfl rfl
    have g_49 : (G_19.1 66 86).toInt = (G.1 66 86).toInt := by rw [show G_19.1 66 86 = (G.1 66 86) from ((hq_20.i 66 86 (by decide) (by decide)).trans (hq_8.i 66 86 (by decide) (by decide)))]
    have b_50 : 0 ≤ (G.1 96 0).toInt ∧ (G.1 96 0).toInt ≤ 9 := hB_G.i 96 0 rfl rfl
    have g_51 : (G_19.1 96 0).toInt = (G.1 96 0).toInt := by rw [show G_19.1 96 0 = (G.1 96 0) from ((hq_20.i 96 0 (by decide) (by decide)).trans (hq_8.i 96 0 (by decide) (by decide)))]
    have b_52 : 0 ≤ (G.1 96 1).toInt ∧ (G.1 96 1).toInt ≤ 9 := hB_G.i 96 1 rfl rfl
    have g_53 : (G_19.1 96 1).toInt = (G.1 96 1).toInt := by rw [show G_19.1 96 1 = (G.1 96 1) from ((hq_20.i 96 1 (by decide) (by decide)).trans (hq_8.i 96 1 (by decide) (by decide)))]
    have b_54 : 0 ≤ (G.1 96 2).toInt ∧ (G.1 96 2).toInt ≤ 9 := hB_G.i 96 2 rfl rfl
    have g_55 : (G_19.1 96 2).toInt = (G.1 96 2).toInt := by rw [show G_19.1 96 2 = (G.1 96 2) from ((hq_20.i 96 2 (by decide) (by decide)).trans (hq_8.i 96 2 (by decide) (by decide)))]
    exact K G_19 _ _ _ (Or.inr ⟨((((hq_20.r 0 0 (by decide) (by decide)).trans (hq_8.r 0 0 (by decide) (by decide)))).trans (hv_0_0)), ((((hq_20.r 0 1 (by decide) (by decide)).trans (hq_8.r 0 1 (by decide) (by decide)))).trans (hv_0_1)), ((((hq_20.r 6 4 (by decide) (by decide)).trans (hq_8.r 6 4 (by decide) (by decide)))).trans (hv_6_4)), by omega, by omega, by omega, by omega, by omega, by omega, by omega, by omega, by omega, by omega, by omega, by omega, by omega⟩) hB_G_19 hW hS (lv_sub hl [0, 1, 2, 3] rfl)

set_option maxHeartbeats 4000000 in
set_option maxRecDepth 100000 in
theorem law_37 {p : Program} {l : Launch} {e : Env} {s : State} {m : MethodId} {below : List Frame} {meth : Method} {c : Code} {D : va_G} {k : KT} {A : Nat → Prop} {a : Nat → Nat} {z : SK} {b L : Nat} {xs : Nat → Int32} (hL : L ≤ 3072) (C0 : lw_At p s m meth c b L xs) (hK : cK D k s) (hZ : Sx A z s) (hbA : ¬ A b) {G : GS} {i0 : Int32} (hi0 : 0 ≤ i0.toInt) (hi6 : i0.toInt + 6 ≤ L) (hI : LI G) (hB_G : Bd G) {H : Heap} {locs : List Loc} {ls : Array Slot} (hW : Wd D k A a G H) (hS : va_S A s.heap H locs) (hl : lv_has ls 4 [(0, .ref b), (1, .ref (a 0)), (2, .ref (a 66)), (3, .int i0)]) (K : ∀ (G1 : GS) (H1 : Heap) (locs1 : List Loc) (ls1 : Array Slot), LI G1 → Bd G1 → Wd D k A a G1 H1 → va_S A s.heap H1 locs1 → lv_has ls1 4 [(0, .ref b), (1, .ref (a 0)), (2, .ref (a 66)), (3, .int i0)] → W p l e room_1 s m #[Value.ref b] below meth c H1 locs1 119 46443 (lw_Z below #[Value.ref b] s) (F0 m 1641 ls1 [])) : W p l e room_1 s m #[Value.ref b] below meth c H locs 119 46443 (lw_Z below #[Value.ref b] s) (F0 m 1595 ls []) := by
  obtain ⟨hx, hb, hr, hml, hown, hts, hX, hbl, hlocks, hgv⟩ := id C0
  have hown : s.vm.findClass RL = some m.cls := hown
  have hgd : ∀ w ∈ gd, w ∈ lw_tbl := fun w h => (List.mem_filter.mp h).1
  have hg : ∀ w ∈ gd, w.before #[Value.ref b] s = true := fun w h => hts w (hgd w h)
  rcases hI with ⟨hv_0_0, hv_0_1, hv_6_4, hj0, hj1, hj2, hj3, hj4, hj5, hj6, hj7, hj8, hj9, hj10, hj11⟩ | ⟨hv_0_0, hv_0_1, hv_6_4, hj0, hj1, hj2, hj3, hj4, hj5, hj6, hj7, hj8, hj9, hj10, hj11⟩
  · skip
    refine lv_aload_n hx hb dL_law_1595 rfl (lv_at hl 1 rfl) ?_
    refine lv_aload_n hx hb dL_law_1596 rfl (lv_at hl 0 rfl) ?_
    refine lv_iload_n hx hb dL_law_1597 rfl (lv_at hl 3 rfl) ?_
    refine lv_iconst (v := 1) hx hb dL_law_1598 (by decide) ?_
    refine lv_iadd hx hb dL_law_1599 ?_
    refine lv_topi (fun y_1 ey_1 => ?_)
    have ty_1 : y_1.toInt = i0.toInt + 1 := xI_add rfl rfl ey_1 (by omega) (by omega)
    refine va_sld hx hb hX hbl hbA hS (vin (by omega) (by omega)) dL_law_1600 ?_
    refine lv_topi (fun y_2 ey_2 => ?_)
    have u_3 : y_2.toInt = (xs (i0 + 1).toNatClampNeg).toInt := by rw [ey_2, ey_1]
    have b_4 : 0 ≤ (G.1 30 4).toInt ∧ (G.1 30 4).toInt ≤ 40 := hB_G.i 30 4 rfl rfl
    have b_5 : 0 ≤ (G.1 30 5).toInt ∧ (G.1 30 5).toInt ≤ 40 := hB_G.i 30 5 rfl rfl
    refine S_calli (va_runV (As := [.int y_2]) (rest := []) ⟨hx, hb, hml, hown, hts⟩ (k_Wback l D k A a z G y_2 (by omega)) (cwV 1 hts (gd_V hgd m1295 m1296 m1297 m117 m1298) rfl rfl rfl (by decide +kernel) ⟨Nat.le_of_ble_eq_true rfl, Nat.le_of_ble_eq_true rfl⟩) (pre_V hW hB_G hK hZ hS kd_0 rfl) rfl rfl hl.1 rfl (lv_room (Nat.le_of_ble_eq_true rfl)) dL_law_1601 ⟨Nat.le_of_ble_eq_true rfl, Nat.le_of_ble_eq_true rfl⟩) hS (fun r_6 G_7 H locs hpo hW hS => ?_)
    have hX_10 : P_Wback y_2 G r_6 G_7 := hpo
    obtain ⟨hB_G_7, hq_8, hp_9, -⟩ := hpo
    refine lv_pop hx hb dL_law_1604 rfl ?_
    refine lv_aload_n hx hb dL_law_1605 rfl (lv_at hl 2 rfl) ?_
    refine lv_aload_n hx hb dL_law_1606 rfl (lv_at hl 0 rfl) ?_
    refine lv_iload_n hx hb dL_law_1607 rfl (lv_at hl 3 rfl) ?_
    refine lv_iconst (v := 1) hx hb dL_law_1608 (by decide) ?_
    refine lv_iadd hx hb dL_law_1609 ?_
    refine lv_topi (fun y_11 ey_11 => ?_)
    have ty_11 : y_11.toInt = i0.toInt + 1 := xI_add rfl rfl ey_11 (by omega) (by omega)
    refine va_sld hx hb hX hbl hbA hS (vin (by omega) (by omega)) dL_law_1610 ?_
    refine lv_topi (fun y_12 ey_12 => ?_)
    have u_13 : y_12.toInt = (xs (i0 + 1).toNatClampNeg).toInt := by rw [ey_12, ey_11]
    have b_14 : 0 ≤ (G.1 66 78).toInt ∧ (G.1 66 78).toInt ≤ 40 := hB_G.i 66 78 rfl rfl
    have g_15 : (G_7.1 66 78).toInt = (G.1 66 78).toInt := by rw [show G_7.1 66 78 = (G.1 66 78) from (hq_8.i 66 78 (by decide) (by decide))]
    have b_16 : 0 ≤ (G.1 66 79).toInt ∧ (G.1 66 79).toInt ≤ 40 := hB_G.i 66 79 rfl rfl
    have g_17 : (G_7.1 66 79).toInt = (G.1 66 79).toInt := by rw [show G_7.1 66 79 = (G.1 66 79) from (hq_8.i 66 79 (by decide) (by decide))]
    refine S_calli (va_runV (As := [.int y_12]) (rest := []) ⟨hx, hb, hml, hown, hts⟩ (n_back l D k A a z G_7 y_12 (by omega)) (cwV 1 hts (gd_V hgd m2073 m2074 m2075 m131 m2076) rfl rfl rfl (by decide +kernel) ⟨Nat.le_of_ble_eq_true rfl, Nat.le_of_ble_eq_true rfl⟩) (pre_V hW hB_G_7 hK hZ hS kd_66 rfl) rfl rfl hl.1 rfl (lv_room (Nat.le_of_ble_eq_true rfl)) dL_law_1611 ⟨Nat.le_of_ble_eq_true rfl, Nat.le_of_ble_eq_true rfl⟩) hS (fun r_18 G_19 H locs hpo hW hS => ?_)
    have hX_22 : Q_back y_12 G_7 r_18 G_19 := hpo
    obtain ⟨hB_G_19, hq_20, hp_21, -⟩ := hpo
    obtain ⟨u_23, u_24⟩ := L_back_1 hX_10 hX_22 (by omega) (by omega)
    refine lv_pop hx hb dL_law_1614 rfl ?_
    refine lv_goto (tgt := 1641) hx hb dL_law_1615 (by decide) ?_
    have g_25 : gO G_19 = gO G := gO_fr (rs := [58, 59, 110]) (fs := [(30, 4), (30, 5), (66, 78), (66, 79)]) ((Fr.rf.call hq_8 (by decide) (by decide)).call hq_20 (by decide) (by decide)) (by decide) (by decide)
    have g_26 : gP G_19 = gP G := gP_fr (rs := [58, 59, 110]) (fs := [(30, 4), (30, 5), (66, 78), (66, 79)]) ((Fr.rf.call hq_8 (by decide) (by decide)).call hq_20 (by decide) (by decide)) (by decide) (by decide)
    have g_27 : gS G_19 = gS G := gS_fr (rs := [58, 59, 110]) (fs := [(30, 4), (30, 5), (66, 78), (66, 79)]) ((Fr.rf.call hq_8 (by decide) (by decide)).call hq_20 (by decide) (by decide)) (by decide) (by decide)
    have g_28 : gTE G_19 = gTE G := gTE_fr (rs := [58, 59, 110]) (fs := [(30, 4), (30, 5), (66, 78), (66, 79)]) ((Fr.rf.call hq_8 (by decide) (by decide)).call hq_20 (by decide) (by decide)) (by decide) (by decide)
    have g_29 : gW G_19 = gW G := gW_fr (rs := [58, 59, 110]) (fs := [(30, 4), (30, 5), (66, 78), (66, 79)]) ((Fr.rf.call hq_8 (by decide) (by decide)).call hq_20 (by decide) (by decide)) (by decide) (by decide)
    have b_30 : 0 ≤ (G.1 0 11).toInt ∧ (G.1 0 11).toInt ≤ 1600 := hB_G.i 0 11 rfl rfl
    have g_31 : (G_19.1 0 11).toInt = (G.1 0 11).toInt := by rw [show G_19.1 0 11 = (G.1 0 11) from ((hq_20.i 0 11 (by decide) (by decide)).trans (hq_8.i 0 11 (by decide) (by decide)))]
    have b_32 : 0 ≤ (G.1 3 7).toInt ∧ (G.1 3 7).toInt ≤ 4 := hB_G.i 3 7 rfl rfl
    have g_33 : (G_19.1 3 7).toInt = (G.1 3 7).toInt := by rw [show G_19.1 3 7 = (G.1 3 7) from ((hq_20.i 3 7 (by decide) (by decide)).trans (hq_8.i 3 7 (by decide) (by decide)))]
    have b_34 : (-1) ≤ (G.1 3 8).toInt ∧ (G.1 3 8).toInt ≤ 1600 := hB_G.i 3 8 rfl rfl
    have g_35 : (G_19.1 3 8).toInt = (G.1 3 8).toInt := by rw [show G_19.1 3 8 = (G.1 3 8) from ((hq_20.i 3 8 (by decide) (by decide)).trans (hq_8.i 3 8 (by decide) (by decide)))]
    have b_36 : 0 ≤ (G_7.1 30 4).toInt ∧ (G_7.1 30 4).toInt ≤ 40 := hB_G_7.i 30 4 rfl rfl
    have g_37 : (G_19.1 30 4).toInt = (G_7.1 30 4).toInt := by rw [show G_19.1 30 4 = (G_7.1 30 4) from (hq_20.i 30 4 (by decide) (by decide))]
    have b_38 : 0 ≤ (G_7.1 30 5).toInt ∧ (G_7.1 30 5).toInt ≤ 40 := hB_G_7.i 30 5 rfl rfl
    have g_39 : (G_19.1 30 5).toInt = (G_7.1 30 5).toInt := by rw [show G_19.1 30 5 = (G_7.1 30 5) from (hq_20.i 30 5 (by decide) (by decide))]
    have b_40 : 0 ≤ (G.1 31 6).toInt ∧ (G.1 31 6).toInt ≤ 100000 := hB_G.i 31 6 rfl rfl
    have g_41 : (G_19.1 31 6).toInt = (G.1 31 6).toInt := by rw [show G_19.1 31 6 = (G.1 31 6) from ((hq_20.i 31 6 (by decide) (by decide)).trans (hq_8.i 31 6 (by decide) (by decide)))]
    have b_42 : 0 ≤ (G.1 66 1).toInt ∧ (G.1 66 1).toInt ≤ 1600 := hB_G.i 66 1 rfl rfl
    have g_43 : (G_19.1 66 1).toInt = (G.1 66 1).toInt := by rw [show G_19.1 66 1 = (G.1 66 1) from ((hq_20.i 66 1 (by decide) (by decide)).trans (hq_8.i 66 1 (by decide) (by decide)))]
    have b_44 : 0 ≤ (G.1 66 2).toInt ∧ (G.1 66 2).toInt ≤ 4 := hB_G.i 66 2 rfl rfl
    have g_45 : (G_19.1 66 2).toInt = (G.1 66 2).toInt := by rw [show G_19.1 66 2 = (G.1 66 2) from ((hq_20.i 66 2 (by decide) (by decide)).trans (hq_8.i 66 2 (by decide) (by decide)))]
    have b_46 : (-1) ≤ (G.1 66 3).toInt ∧ (G.1 66 3).toInt ≤ 1600 := hB_G.i 66 3 rfl rfl
    have g_47 : (G_19.1 66 3).toInt = (G.1 66 3).toInt := by rw [show G_19.1 66 3 = (G.1 66 3) from ((hq_20.i 66 3 (by decide) (by decide)).trans (hq_8.i 66 3 (by decide) (by decide)))]
    have b_48 : 0 ≤ (G_19.1 66 78).toInt ∧ (G_19.1 66 78).toInt ≤ 40 := hB_G_19.i 66 78 rfl rfl
    have b_49 : 0 ≤ (G_19.1 66 79).toInt ∧ (G_19.1 66 79).toInt ≤ 40 := hB_G_19.i 66 79 rfl rfl
    have b_50 : 0 ≤ (G.1 66 86).toInt ∧ (G.1 66 86).toInt ≤ 100000 := hB_G.i 66 86 rfl rfl
    have g_51 : (G_19.1 66 86).toInt = (G.1 66 86).toInt := by rw [show G_19.1 66 86 = (G.1 66 86) from ((hq_20.i 66 86 (by decide) (by decide)).trans (hq_8.i 66 86 (by decide) (by decide)))]
    have b_52 : 0 ≤ (G.1 96 0).toInt ∧ (G.1 96 0).toInt ≤ 9 := hB_G.i 96 0 rfl rfl
    have g_53 : (G_19.1 96 0).toInt = (G.1 96 0).toInt := by rw [show G_19.1 96 0 = (G.1 96 0) from ((hq_20.i 96 0 (by decide) (by decide)).trans (hq_8.i 96 0 (by decide) (by decide)))]
    have b_54 : 0 ≤ (G.1 96 1).toInt ∧ (G.1 96 1).toInt ≤ 9 := hB_G.i 96 1 rfl rfl
    have g_55 : (G_19.1 96 1).toInt = (G.1 96 1).toInt := by rw [show G_19.1 96 1 = (G.1 96 1) from ((hq_20.i 96 1 (by decide) (by decide)).trans (hq_8.i 96 1 (by decide) (by decide)))]
    have b_56 : 0 ≤ (G.1 96 2).toInt ∧ (G.1 96 2).toInt ≤ 9 := hB_G.i 96 2 rfl rfl
    have g_57 : (G_19.1 96 2).toInt = (G.1 96 2).toInt := by rw [show G_19.1 96 2 = (G.1 96 2) from ((hq_20.i 96 2 (by decide) (by decide)).trans (hq_8.i 96 2 (by decide) (by decide)))]
    exact K G_19 _ _ _ (Or.inl ⟨((((hq_20.r 0 0 (by decide) (by decide)).trans (hq_8.r 0 0 (by decide) (by decide)))).trans (hv_0_0)), ((((hq_20.r 0 1 (by decide) (by decide)).trans (hq_8.r 0 1 (by decide) (by decide)))).trans (hv_0_1)), ((((hq_20.r 6 4 (by decide) (by decide)).trans (hq_8.r 6 4 (by decide) (by decide)))).trans (hv_6_4)), by omega, by omega, by omega, by omega, by omega, by omega, by omega, by omega, by omega, by omega, by omega, by omega, by omega⟩) hB_G_19 hW hS (lv_sub hl [0, 1, 2, 3] rfl)
  · skip
    refine lv_aload_n hx hb dL_law_1595 rfl (lv_at hl 1 rfl) ?_
    refine lv_aload_n hx hb dL_law_1596 rfl (lv_at hl 0 rfl) ?_
    refine lv_iload_n hx hb dL_law_1597 rfl (lv_at hl 3 rfl) ?_
    refine lv_iconst (v := 1) hx hb dL_law_1598 (by decide) ?_
    refine lv_iadd hx hb dL_law_1599 ?_
    refine lv_topi (fun y_1 ey_1 => ?_)
    have ty_1 : y_1.toInt = i0.toInt + 1 := xI_add rfl rfl ey_1 (by omega) (by omega)
    refine va_sld hx hb hX hbl hbA hS (vin (by omega) (by omega)) dL_law_1600 ?_
    refine lv_topi (fun y_2 ey_2 => ?_)
    have u_3 : y_2.toInt = (xs (i0 + 1).toNatClampNeg).toInt := by rw [ey_2, ey_1]
    have b_4 : 0 ≤ (G.1 30 4).toInt ∧ (G.1 30 4).toInt ≤ 40 := hB_G.i 30 4 rfl rfl
    have b_5 : 0 ≤ (G.1 30 5).toInt ∧ (G.1 30 5).toInt ≤ 40 := hB_G.i 30 5 rfl rfl
    refine S_calli (va_runV (As := [.int y_2]) (rest := []) ⟨hx, hb, hml, hown, hts⟩ (k_Wback l D k A a z G y_2 (by omega)) (cwV 1 hts (gd_V hgd m1295 m1296 m1297 m117 m1298) rfl rfl rfl (by decide +kernel) ⟨Nat.le_of_ble_eq_true rfl, Nat.le_of_ble_eq_true rfl⟩) (pre_V hW hB_G hK hZ hS kd_0 rfl) rfl rfl hl.1 rfl (lv_room (Nat.le_of_ble_eq_true rfl)) dL_law_1601 ⟨Nat.le_of_ble_eq_true rfl, Nat.le_of_ble_eq_true rfl⟩) hS (fun r_6 G_7 H locs hpo hW hS => ?_)
    have hX_10 : P_Wback y_2 G r_6 G_7 := hpo
    obtain ⟨hB_G_7, hq_8, hp_9, -⟩ := hpo
    refine lv_pop hx hb dL_law_1604 rfl ?_
    refine lv_aload_n hx hb dL_law_1605 rfl (lv_at hl 2 rfl) ?_
    refine lv_aload_n hx hb dL_law_1606 rfl (lv_at hl 0 rfl) ?_
    refine lv_iload_n hx hb dL_law_1607 rfl (lv_at hl 3 rfl) ?_
    refine lv_iconst (v := 1) hx hb dL_law_1608 (by decide) ?_
    refine lv_iadd hx hb dL_law_1609 ?_
    refine lv_topi (fun y_11 ey_11 => ?_)
    have ty_11 : y_11.toInt = i0.toInt + 1 := xI_add rfl rfl ey_11 (by omega) (by omega)
    refine va_sld hx hb hX hbl hbA hS (vin (by omega) (by omega)) dL_law_1610 ?_
    refine lv_topi (fun y_12 ey_12 => ?_)
    have u_13 : y_12.toInt = (xs (i0 + 1).toNatClampNeg).toInt := by rw [ey_12, ey_11]
    have b_14 : 0 ≤ (G.1 66 78).toInt ∧ (G.1 66 78).toInt ≤ 40 := hB_G.i 66 78 rfl rfl
    have g_15 : (G_7.1 66 78).toInt = (G.1 66 78).toInt := by rw [show G_7.1 66 78 = (G.1 66 78) from (hq_8.i 66 78 (by decide) (by decide))]
    have b_16 : 0 ≤ (G.1 66 79).toInt ∧ (G.1 66 79).toInt ≤ 40 := hB_G.i 66 79 rfl rfl
    have g_17 : (G_7.1 66 79).toInt = (G.1 66 79).toInt := by rw [show G_7.1 66 79 = (G.1 66 79) from (hq_8.i 66 79 (by decide) (by decide))]
    refine S_calli (va_runV (As := [.int y_12]) (rest := []) ⟨hx, hb, hml, hown, hts⟩ (n_back l D k A a z G_7 y_12 (by omega)) (cwV 1 hts (gd_V hgd m2073 m2074 m2075 m131 m2076) rfl rfl rfl (by decide +kernel) ⟨Nat.le_of_ble_eq_true rfl, Nat.le_of_ble_eq_true rfl⟩) (pre_V hW hB_G_7 hK hZ hS kd_66 rfl) rfl rfl hl.1 rfl (lv_room (Nat.le_of_ble_eq_true rfl)) dL_law_1611 ⟨Nat.le_of_ble_eq_true rfl, Nat.le_of_ble_eq_true rfl⟩) hS (fun r_18 G_19 H locs hpo hW hS => ?_)
    have hX_22 : Q_back y_12 G_7 r_18 G_19 := hpo
    obtain ⟨hB_G_19, hq_20, hp_21, -⟩ := hpo
    obtain ⟨u_23, u_24⟩ := L_back_2 hX_10 hX_22 (by omega) (by omega)
    refine lv_pop hx hb dL_law_1614 rfl ?_
    refine lv_goto (tgt := 1641) hx hb dL_law_1615 (by decide) ?_
    have g_25 : gO G_19 = gO G := gO_fr (rs := [58, 59, 110]) (fs := [(30, 4), (30, 5), (66, 78), (66, 79)]) ((Fr.rf.call hq_8 (by decide) (by decide)).call hq_20 (by decide) (by decide)) (by decide) (by decide)
    have g_26 : gP G_19 = gP G := gP_fr (rs := [58, 59, 110]) (fs := [(30, 4), (30, 5), (66, 78), (66, 79)]) ((Fr.rf.call hq_8 (by decide) (by decide)).call hq_20 (by decide) (by decide)) (by decide) (by decide)
    have g_27 : gS G_19 = gS G := gS_fr (rs := [58, 59, 110]) (fs := [(30, 4), (30, 5), (66, 78), (66, 79)]) ((Fr.rf.call hq_8 (by decide) (by decide)).call hq_20 (by decide) (by decide)) (by decide) (by decide)
    have g_28 : gTE G_19 = gTE G := gTE_fr (rs := [58, 59, 110]) (fs := [(30, 4), (30, 5), (66, 78), (66, 79)]) ((Fr.rf.call hq_8 (by decide) (by decide)).call hq_20 (by decide) (by decide)) (by decide) (by decide)
    have g_29 : gW G_19 = gW G := gW_fr (rs := [58, 59, 110]) (fs := [(30, 4), (30, 5), (66, 78), (66, 79)]) ((Fr.rf.call hq_8 (by decide) (by decide)).call hq_20 (by decide) (by decide)) (by decide) (by decide)
    have b_30 : 0 ≤ (G.1 0 11).toInt ∧ (G.1 0 11).toInt ≤ 1600 := hB_G.i 0 11 rfl rfl
    have g_31 : (G_19.1 0 11).toInt = (G.1 0 11).toInt := by rw [show G_19.1 0 11 = (G.1 0 11) from ((hq_20.i 0 11 (by decide) (by decide)).trans (hq_8.i 0 11 (by decide) (by decide)))]
    have b_32 : 0 ≤ (G.1 3 7).toInt ∧ (G.1 3 7).toInt ≤ 4 := hB_G.i 3 7 rfl rfl
    have g_33 : (G_19.1 3 7).toInt = (G.1 3 7).toInt := by rw [show G_19.1 3 7 = (G.1 3 7) from ((hq_20.i 3 7 (by decide) (by decide)).trans (hq_8.i 3 7 (by decide) (by decide)))]
    have b_34 : (-1) ≤ (G.1 3 8).toInt ∧ (G.1 3 8).toInt ≤ 1600 := hB_G.i 3 8 rfl rfl
    have g_35 : (G_19.1 3 8).toInt = (G.1 3 8).toInt := by rw [show G_19.1 3 8 = (G.1 3 8) from ((hq_20.i 3 8 (by decide) (by decide)).trans (hq_8.i 3 8 (by decide) (by decide)))]
    have b_36 : 0 ≤ (G_7.1 30 4).toInt ∧ (G_7.1 30 4).toInt ≤ 40 := hB_G_7.i 30 4 rfl rfl
    have g_37 : (G_19.1 30 4).toInt = (G_7.1 30 4).toInt := by rw [show G_19.1 30 4 = (G_7.1 30 4) from (hq_20.i 30 4 (by decide) (by decide))]
    have b_38 : 0 ≤ (G_7.1 30 5).toInt ∧ (G_7.1 30 5).toInt ≤ 40 := hB_G_7.i 30 5 rfl rfl
    have g_39 : (G_19.1 30 5).toInt = (G_7.1 30 5).toInt := by rw [show G_19.1 30 5 = (G_7.1 30 5) from (hq_20.i 30 5 (by decide) (by decide))]
    have b_40 : 0 ≤ (G.1 31 6).toInt ∧ (G.1 31 6).toInt ≤ 100000 := hB_G.i 31 6 rfl rfl
    have g_41 : (G_19.1 31 6).toInt = (G.1 31 6).toInt := by rw [show G_19.1 31 6 = (G.1 31 6) from ((hq_20.i 31 6 (by decide) (by decide)).trans (hq_8.i 31 6 (by decide) (by decide)))]
    have b_42 : 0 ≤ (G.1 66 1).toInt ∧ (G.1 66 1).toInt ≤ 1600 := hB_G.i 66 1 rfl rfl
    have g_43 : (G_19.1 66 1).toInt = (G.1 66 1).toInt := by rw [show G_19.1 66 1 = (G.1 66 1) from ((hq_20.i 66 1 (by decide) (by decide)).trans (hq_8.i 66 1 (by decide) (by decide)))]
    have b_44 : 0 ≤ (G.1 66 2).toInt ∧ (G.1 66 2).toInt ≤ 4 := hB_G.i 66 2 rfl rfl
    have g_45 : (G_19.1 66 2).toInt = (G.1 66 2).toInt := by rw [show G_19.1 66 2 = (G.1 66 2) from ((hq_20.i 66 2 (by decide) (by decide)).trans (hq_8.i 66 2 (by decide) (by decide)))]
    have b_46 : (-1) ≤ (G.1 66 3).toInt ∧ (G.1 66 3).toInt ≤ 1600 := hB_G.i 66 3 rfl rfl
    have g_47 : (G_19.1 66 3).toInt = (G.1 66 3).toInt := by rw [show G_19.1 66 3 = (G.1 66 3) from ((hq_20.i 66 3 (by decide) (by decide)).trans (hq_8.i 66 3 (by decide) (by decide)))]
    have b_48 : 0 ≤ (G_19.1 66 78).toInt ∧ (G_19.1 66 78).toInt ≤ 40 := hB_G_19.i 66 78 rfl rfl
    have b_49 : 0 ≤ (G_19.1 66 79).toInt ∧ (G_19.1 66 79).toInt ≤ 40 := hB_G_19.i 66 79 rfl rfl
    have b_50 : 0 ≤ (G.1 66 86).toInt ∧ (G.1 66 86).toInt ≤ 100000 := hB_G.i 66 86 rfl rfl
    have g_51 : (G_19.1 66 86).toInt = (G.1 66 86).toInt := by rw [show G_19.1 66 86 = (G.1 66 86) from ((hq_20.i 66 86 (by decide) (by decide)).trans (hq_8.i 66 86 (by decide) (by decide)))]
    have b_52 : 0 ≤ (G.1 96 0).toInt ∧ (G.1 96 0).toInt ≤ 9 := hB_G.i 96 0 rfl rfl
    have g_53 : (G_19.1 96 0).toInt = (G.1 96 0).toInt := by rw [show G_19.1 96 0 = (G.1 96 0) from ((hq_20.i 96 0 (by decide) (by decide)).trans (hq_8.i 96 0 (by decide) (by decide)))]
    have b_54 : 0 ≤ (G.1 96 1).toInt ∧ (G.1 96 1).toInt ≤ 9 := hB_G.i 96 1 rfl rfl
    have g_55 : (G_19.1 96 1).toInt = (G.1 96 1).toInt := by rw [show G_19.1 96 1 = (G.1 96 1) from ((hq_20.i 96 1 (by decide) (by decide)).trans (hq_8.i 96 1 (by decide) (by decide)))]
    have b_56 : 0 ≤ (G.1 96 2).toInt ∧ (G.1 96 2).toInt ≤ 9 := hB_G.i 96 2 rfl rfl
    have g_57 : (G_19.1 96 2).toInt = (G.1 96 2).toInt := by rw [show G_19.1 96 2 = (G.1 96 2) from ((hq_20.i 96 2 (by decide) (by decide)).trans (hq_8.i 96 2 (by decide) (by decide)))]
    exact K G_19 _ _ _ (Or.inr ⟨((((hq_20.r 0 0 (by decide) (by decide)).trans (hq_8.r 0 0 (by decide) (by decide)))).trans (hv_0_0)), ((((hq_20.r 0 1 (by decide) (by decide)).trans (hq_8.r 0 1 (by decide) (by decide)))).trans (hv_0_1)), ((((hq_20.r 6 4 (by decide) (by decide)).trans (hq_8.r 6 4 (by decide) (by decide)))).trans (hv_6_4)), by omega, by omega, by omega, by omega, by omega, by omega, by omega, by omega, by omega, by omega, by omega, by omega, by omega⟩) hB_G_19 hW hS (lv_sub hl [0, 1, 2, 3] rfl)

set_option maxHeartbeats 4000000 in
set_option maxRecDepth 100000 in
theorem law_38 {p : Program} {l : Launch} {e : Env} {s : State} {m : MethodId} {below : List Frame} {meth : Method} {c : Code} {D : va_G} {k : KT} {A : Nat → Prop} {a : Nat → Nat} {z : SK} {b L : Nat} {xs : Nat → Int32} (hL : L ≤ 3072) (C0 : lw_At p s m meth c b L xs) (hK : cK D k s) (hZ : Sx A z s) (hbA : ¬ A b) {G : GS} {i0 : Int32} (hi0 : 0 ≤ i0.toInt) (hi6 : i0.toInt + 6 ≤ L) (hI : LI G) (hB_G : Bd G) {H : Heap} {locs : List Loc} {ls : Array Slot} (hW : Wd D k A a G H) (hS : va_S A s.heap H locs) (hl : lv_has ls 4 [(0, .ref b), (1, .ref (a 0)), (2, .ref (a 66)), (3, .int i0)]) (K : ∀ (G1 : GS) (H1 : Heap) (locs1 : List Loc) (ls1 : Array Slot), LI G1 → Bd G1 → Wd D k A a G1 H1 → va_S A s.heap H1 locs1 → lv_has ls1 4 [(0, .ref b), (1, .ref (a 0)), (2, .ref (a 66)), (3, .int i0)] → W p l e room_1 s m #[Value.ref b] below meth c H1 locs1 119 46443 (lw_Z below #[Value.ref b] s) (F0 m 1641 ls1 [])) : W p l e room_1 s m #[Value.ref b] below meth c H locs 119 46443 (lw_Z below #[Value.ref b] s) (F0 m 1618 ls []) := by
  obtain ⟨hx, hb, hr, hml, hown, hts, hX, hbl, hlocks, hgv⟩ := id C0
  have hown : s.vm.findClass RL = some m.cls := hown
  have hgd : ∀ w ∈ gd, w ∈ lw_tbl := fun w h => (List.mem_filter.mp h).1
  have hg : ∀ w ∈ gd, w.before #[Value.ref b] s = true := fun w h => hts w (hgd w h)
  rcases hI with ⟨hv_0_0, hv_0_1, hv_6_4, hj0, hj1, hj2, hj3, hj4, hj5, hj6, hj7, hj8, hj9, hj10, hj11⟩ | ⟨hv_0_0, hv_0_1, hv_6_4, hj0, hj1, hj2, hj3, hj4, hj5, hj6, hj7, hj8, hj9, hj10, hj11⟩
  · skip
    refine lv_aload_n hx hb dL_law_1618 rfl (lv_at hl 1 rfl) ?_
    refine lv_aload_n hx hb dL_law_1619 rfl (lv_at hl 0 rfl) ?_
    refine lv_iload_n hx hb dL_law_1620 rfl (lv_at hl 3 rfl) ?_
    refine lv_iconst (v := 1) hx hb dL_law_1621 (by decide) ?_
    refine lv_iadd hx hb dL_law_1622 ?_
    refine lv_topi (fun y_1 ey_1 => ?_)
    have ty_1 : y_1.toInt = i0.toInt + 1 := xI_add rfl rfl ey_1 (by omega) (by omega)
    refine va_sld hx hb hX hbl hbA hS (vin (by omega) (by omega)) dL_law_1623 ?_
    refine lv_topi (fun y_2 ey_2 => ?_)
    have u_3 : y_2.toInt = (xs (i0 + 1).toNatClampNeg).toInt := by rw [ey_2, ey_1]
    refine S_calli (va_runV (As := [.int y_2]) (rest := []) ⟨hx, hb, hml, hown, hts⟩ (k_Wabout_1 l D k A a z G y_2 hv_0_0 hv_0_1 hv_6_4) (cwV 1 hts (gd_V hgd m1303 m1304 m1305 m117 m1306) rfl rfl rfl (by decide +kernel) ⟨Nat.le_of_ble_eq_true rfl, Nat.le_of_ble_eq_true rfl⟩) (pre_V hW hB_G hK hZ hS kd_0 rfl) rfl rfl hl.1 rfl (lv_room (Nat.le_of_ble_eq_true rfl)) dL_law_1624 ⟨Nat.le_of_ble_eq_true rfl, Nat.le_of_ble_eq_true rfl⟩) hS (fun r_4 G_5 H locs hpo hW hS => ?_)
    have hX_8 : P_Wabout_1 y_2 G r_4 G_5 := hpo
    obtain ⟨hB_G_5, hq_6, -⟩ := hpo
    refine lv_pop hx hb dL_law_1627 rfl ?_
    refine lv_aload_n hx hb dL_law_1628 rfl (lv_at hl 2 rfl) ?_
    refine lv_aload_n hx hb dL_law_1629 rfl (lv_at hl 0 rfl) ?_
    refine lv_iload_n hx hb dL_law_1630 rfl (lv_at hl 3 rfl) ?_
    refine lv_iconst (v := 1) hx hb dL_law_1631 (by decide) ?_
    refine lv_iadd hx hb dL_law_1632 ?_
    refine lv_topi (fun y_9 ey_9 => ?_)
    have ty_9 : y_9.toInt = i0.toInt + 1 := xI_add rfl rfl ey_9 (by omega) (by omega)
    refine va_sld hx hb hX hbl hbA hS (vin (by omega) (by omega)) dL_law_1633 ?_
    refine lv_topi (fun y_10 ey_10 => ?_)
    have u_11 : y_10.toInt = (xs (i0 + 1).toNatClampNeg).toInt := by rw [ey_10, ey_9]
    refine S_calli (va_runV (As := [.int y_10]) (rest := []) ⟨hx, hb, hml, hown, hts⟩ (n_about l D k A a z G_5 y_10 ) (cwV 1 hts (gd_V hgd m2077 m2078 m2079 m131 m2080) rfl rfl rfl (by decide +kernel) ⟨Nat.le_of_ble_eq_true rfl, Nat.le_of_ble_eq_true rfl⟩) (pre_V hW hB_G_5 hK hZ hS kd_66 rfl) rfl rfl hl.1 rfl (lv_room (Nat.le_of_ble_eq_true rfl)) dL_law_1634 ⟨Nat.le_of_ble_eq_true rfl, Nat.le_of_ble_eq_true rfl⟩) hS (fun r_12 G_13 H locs hpo hW hS => ?_)
    have hX_16 : Q_about y_10 G_5 r_12 G_13 := hpo
    obtain ⟨hB_G_13, hq_14, -⟩ := hpo
    refine lv_pop hx hb dL_law_1637 rfl ?_
    refine lv_goto (tgt := 1641) hx hb dL_law_1638 (by decide) ?_
    have g_17 : gIA G_13 = gIA G := gIA_fr (rs := []) (fs := []) ((Fr.rf.call hq_6 (by decide) (by decide)).call hq_14 (by decide) (by decide)) (by decide) (by decide)
    have g_18 : gO G_13 = gO G := gO_fr (rs := []) (fs := []) ((Fr.rf.call hq_6 (by decide) (by decide)).call hq_14 (by decide) (by decide)) (by decide) (by decide)
    have g_19 : gP G_13 = gP G := gP_fr (rs := []) (fs := []) ((Fr.rf.call hq_6 (by decide) (by decide)).call hq_14 (by decide) (by decide)) (by decide) (by decide)
    have g_20 : gS G_13 = gS G := gS_fr (rs := []) (fs := []) ((Fr.rf.call hq_6 (by decide) (by decide)).call hq_14 (by decide) (by decide)) (by decide) (by decide)
    have g_21 : gTE G_13 = gTE G := gTE_fr (rs := []) (fs := []) ((Fr.rf.call hq_6 (by decide) (by decide)).call hq_14 (by decide) (by decide)) (by decide) (by decide)
    have g_22 : gW G_13 = gW G := gW_fr (rs := []) (fs := []) ((Fr.rf.call hq_6 (by decide) (by decide)).call hq_14 (by decide) (by decide)) (by decide) (by decide)
    have b_23 : 0 ≤ (G.1 0 11).toInt ∧ (G.1 0 11).toInt ≤ 1600 := hB_G.i 0 11 rfl rfl
    have g_24 : (G_13.1 0 11).toInt = (G.1 0 11).toInt := by rw [show G_13.1 0 11 = (G.1 0 11) from ((hq_14.i 0 11 (by decide) (by decide)).trans (hq_6.i 0 11 (by decide) (by decide)))]
    have b_25 : 0 ≤ (G.1 3 7).toInt ∧ (G.1 3 7).toInt ≤ 4 := hB_G.i 3 7 rfl rfl
    have g_26 : (G_13.1 3 7).toInt = (G.1 3 7).toInt := by rw [show G_13.1 3 7 = (G.1 3 7) from ((hq_14.i 3 7 (by decide) (by decide)).trans (hq_6.i 3 7 (by decide) (by decide)))]
    have b_27 : (-1) ≤ (G.1 3 8).toInt ∧ (G.1 3 8).toInt ≤ 1600 := hB_G.i 3 8 rfl rfl
    have g_28 : (G_13.1 3 8).toInt = (G.1 3 8).toInt := by rw [show G_13.1 3 8 = (G.1 3 8) from ((hq_14.i 3 8 (by decide) (by decide)).trans (hq_6.i 3 8 (by decide) (by decide)))]
    have b_29 : 0 ≤ (G.1 30 4).toInt ∧ (G.1 30 4).toInt ≤ 40 := hB_G.i 30 4 rfl rfl
    have g_30 : (G_13.1 30 4).toInt = (G.1 30 4).toInt := by rw [show G_13.1 30 4 = (G.1 30 4) from ((hq_14.i 30 4 (by decide) (by decide)).trans (hq_6.i 30 4 (by decide) (by decide)))]
    have b_31 : 0 ≤ (G.1 30 5).toInt ∧ (G.1 30 5).toInt ≤ 40 := hB_G.i 30 5 rfl rfl
    have g_32 : (G_13.1 30 5).toInt = (G.1 30 5).toInt := by rw [show G_13.1 30 5 = (G.1 30 5) from ((hq_14.i 30 5 (by decide) (by decide)).trans (hq_6.i 30 5 (by decide) (by decide)))]
    have b_33 : 0 ≤ (G.1 31 6).toInt ∧ (G.1 31 6).toInt ≤ 100000 := hB_G.i 31 6 rfl rfl
    have g_34 : (G_13.1 31 6).toInt = (G.1 31 6).toInt := by rw [show G_13.1 31 6 = (G.1 31 6) from ((hq_14.i 31 6 (by decide) (by decide)).trans (hq_6.i 31 6 (by decide) (by decide)))]
    have b_35 : 0 ≤ (G.1 66 1).toInt ∧ (G.1 66 1).toInt ≤ 1600 := hB_G.i 66 1 rfl rfl
    have g_36 : (G_13.1 66 1).toInt = (G.1 66 1).toInt := by rw [show G_13.1 66 1 = (G.1 66 1) from ((hq_14.i 66 1 (by decide) (by decide)).trans (hq_6.i 66 1 (by decide) (by decide)))]
    have b_37 : 0 ≤ (G.1 66 2).toInt ∧ (G.1 66 2).toInt ≤ 4 := hB_G.i 66 2 rfl rfl
    have g_38 : (G_13.1 66 2).toInt = (G.1 66 2).toInt := by rw [show G_13.1 66 2 = (G.1 66 2) from ((hq_14.i 66 2 (by decide) (by decide)).trans (hq_6.i 66 2 (by decide) (by decide)))]
    have b_39 : (-1) ≤ (G.1 66 3).toInt ∧ (G.1 66 3).toInt ≤ 1600 := hB_G.i 66 3 rfl rfl
    have g_40 : (G_13.1 66 3).toInt = (G.1 66 3).toInt := by rw [show G_13.1 66 3 = (G.1 66 3) from ((hq_14.i 66 3 (by decide) (by decide)).trans (hq_6.i 66 3 (by decide) (by decide)))]
    have b_41 : 0 ≤ (G.1 66 78).toInt ∧ (G.1 66 78).toInt ≤ 40 := hB_G.i 66 78 rfl rfl
    have g_42 : (G_13.1 66 78).toInt = (G.1 66 78).toInt := by rw [show G_13.1 66 78 = (G.1 66 78) from ((hq_14.i 66 78 (by decide) (by decide)).trans (hq_6.i 66 78 (by decide) (by decide)))]
    have b_43 : 0 ≤ (G.1 66 79).toInt ∧ (G.1 66 79).toInt ≤ 40 := hB_G.i 66 79 rfl rfl
    have g_44 : (G_13.1 66 79).toInt = (G.1 66 79).toInt := by rw [show G_13.1 66 79 = (G.1 66 79) from ((hq_14.i 66 79 (by decide) (by decide)).trans (hq_6.i 66 79 (by decide) (by decide)))]
    have b_45 : 0 ≤ (G.1 66 86).toInt ∧ (G.1 66 86).toInt ≤ 100000 := hB_G.i 66 86 rfl rfl
    have g_46 : (G_13.1 66 86).toInt = (G.1 66 86).toInt := by rw [show G_13.1 66 86 = (G.1 66 86) from ((hq_14.i 66 86 (by decide) (by decide)).trans (hq_6.i 66 86 (by decide) (by decide)))]
    have b_47 : 0 ≤ (G.1 96 0).toInt ∧ (G.1 96 0).toInt ≤ 9 := hB_G.i 96 0 rfl rfl
    have g_48 : (G_13.1 96 0).toInt = (G.1 96 0).toInt := by rw [show G_13.1 96 0 = (G.1 96 0) from ((hq_14.i 96 0 (by decide) (by decide)).trans (hq_6.i 96 0 (by decide) (by decide)))]
    have b_49 : 0 ≤ (G.1 96 1).toInt ∧ (G.1 96 1).toInt ≤ 9 := hB_G.i 96 1 rfl rfl
    have g_50 : (G_13.1 96 1).toInt = (G.1 96 1).toInt := by rw [show G_13.1 96 1 = (G.1 96 1) from ((hq_14.i 96 1 (by decide) (by decide)).trans (hq_6.i 96 1 (by decide) (by decide)))]
    have b_51 : 0 ≤ (G.1 96 2).toInt ∧ (G.1 96 2).toInt ≤ 9 := hB_G.i 96 2 rfl rfl
    have g_52 : (G_13.1 96 2).toInt = (G.1 96 2).toInt := by rw [show G_13.1 96 2 = (G.1 96 2) from ((hq_14.i 96 2 (by decide) (by decide)).trans (hq_6.i 96 2 (by decide) (by decide)))]
    exact K G_13 _ _ _ (Or.inl ⟨((((hq_14.r 0 0 (by decide) (by decide)).trans (hq_6.r 0 0 (by decide) (by decide)))).trans (hv_0_0)), ((((hq_14.r 0 1 (by decide) (by decide)).trans (hq_6.r 0 1 (by decide) (by decide)))).trans (hv_0_1)), ((((hq_14.r 6 4 (by decide) (by decide)).trans (hq_6.r 6 4 (by decide) (by decide)))).trans (hv_6_4)), by omega, by omega, by omega, by omega, by omega, by omega, by omega, by omega, by omega, by omega, by omega, by omega, by omega⟩) hB_G_13 hW hS (lv_sub hl [0, 1, 2, 3] rfl)
  · skip
    refine lv_aload_n hx hb dL_law_1618 rfl (lv_at hl 1 rfl) ?_
    refine lv_aload_n hx hb dL_law_1619 rfl (lv_at hl 0 rfl) ?_
    refine lv_iload_n hx hb dL_law_1620 rfl (lv_at hl 3 rfl) ?_
    refine lv_iconst (v := 1) hx hb dL_law_1621 (by decide) ?_
    refine lv_iadd hx hb dL_law_1622 ?_
    refine lv_topi (fun y_1 ey_1 => ?_)
    have ty_1 : y_1.toInt = i0.toInt + 1 := xI_add rfl rfl ey_1 (by omega) (by omega)
    refine va_sld hx hb hX hbl hbA hS (vin (by omega) (by omega)) dL_law_1623 ?_
    refine lv_topi (fun y_2 ey_2 => ?_)
    have u_3 : y_2.toInt = (xs (i0 + 1).toNatClampNeg).toInt := by rw [ey_2, ey_1]
    refine S_calli (va_runV (As := [.int y_2]) (rest := []) ⟨hx, hb, hml, hown, hts⟩ (k_Wabout_2 l D k A a z G y_2 hv_0_0 hv_0_1 hv_6_4) (cwV 1 hts (gd_V hgd m1303 m1304 m1305 m117 m1306) rfl rfl rfl (by decide +kernel) ⟨Nat.le_of_ble_eq_true rfl, Nat.le_of_ble_eq_true rfl⟩) (pre_V hW hB_G hK hZ hS kd_0 rfl) rfl rfl hl.1 rfl (lv_room (Nat.le_of_ble_eq_true rfl)) dL_law_1624 ⟨Nat.le_of_ble_eq_true rfl, Nat.le_of_ble_eq_true rfl⟩) hS (fun r_4 G_5 H locs hpo hW hS => ?_)
    have hX_8 : P_Wabout_2 y_2 G r_4 G_5 := hpo
    obtain ⟨hB_G_5, hq_6, -⟩ := hpo
    refine lv_pop hx hb dL_law_1627 rfl ?_
    refine lv_aload_n hx hb dL_law_1628 rfl (lv_at hl 2 rfl) ?_
    refine lv_aload_n hx hb dL_law_1629 rfl (lv_at hl 0 rfl) ?_
    refine lv_iload_n hx hb dL_law_1630 rfl (lv_at hl 3 rfl) ?_
    refine lv_iconst (v := 1) hx hb dL_law_1631 (by decide) ?_
    refine lv_iadd hx hb dL_law_1632 ?_
    refine lv_topi (fun y_9 ey_9 => ?_)
    have ty_9 : y_9.toInt = i0.toInt + 1 := xI_add rfl rfl ey_9 (by omega) (by omega)
    refine va_sld hx hb hX hbl hbA hS (vin (by omega) (by omega)) dL_law_1633 ?_
    refine lv_topi (fun y_10 ey_10 => ?_)
    have u_11 : y_10.toInt = (xs (i0 + 1).toNatClampNeg).toInt := by rw [ey_10, ey_9]
    refine S_calli (va_runV (As := [.int y_10]) (rest := []) ⟨hx, hb, hml, hown, hts⟩ (n_about l D k A a z G_5 y_10 ) (cwV 1 hts (gd_V hgd m2077 m2078 m2079 m131 m2080) rfl rfl rfl (by decide +kernel) ⟨Nat.le_of_ble_eq_true rfl, Nat.le_of_ble_eq_true rfl⟩) (pre_V hW hB_G_5 hK hZ hS kd_66 rfl) rfl rfl hl.1 rfl (lv_room (Nat.le_of_ble_eq_true rfl)) dL_law_1634 ⟨Nat.le_of_ble_eq_true rfl, Nat.le_of_ble_eq_true rfl⟩) hS (fun r_12 G_13 H locs hpo hW hS => ?_)
    have hX_16 : Q_about y_10 G_5 r_12 G_13 := hpo
    obtain ⟨hB_G_13, hq_14, -⟩ := hpo
    refine lv_pop hx hb dL_law_1637 rfl ?_
    refine lv_goto (tgt := 1641) hx hb dL_law_1638 (by decide) ?_
    have g_17 : gIB G_13 = gIB G := gIB_fr (rs := []) (fs := []) ((Fr.rf.call hq_6 (by decide) (by decide)).call hq_14 (by decide) (by decide)) (by decide) (by decide)
    have g_18 : gO G_13 = gO G := gO_fr (rs := []) (fs := []) ((Fr.rf.call hq_6 (by decide) (by decide)).call hq_14 (by decide) (by decide)) (by decide) (by decide)
    have g_19 : gP G_13 = gP G := gP_fr (rs := []) (fs := []) ((Fr.rf.call hq_6 (by decide) (by decide)).call hq_14 (by decide) (by decide)) (by decide) (by decide)
    have g_20 : gS G_13 = gS G := gS_fr (rs := []) (fs := []) ((Fr.rf.call hq_6 (by decide) (by decide)).call hq_14 (by decide) (by decide)) (by decide) (by decide)
    have g_21 : gTE G_13 = gTE G := gTE_fr (rs := []) (fs := []) ((Fr.rf.call hq_6 (by decide) (by decide)).call hq_14 (by decide) (by decide)) (by decide) (by decide)
    have g_22 : gW G_13 = gW G := gW_fr (rs := []) (fs := []) ((Fr.rf.call hq_6 (by decide) (by decide)).call hq_14 (by decide) (by decide)) (by decide) (by decide)
    have b_23 : 0 ≤ (G.1 0 11).toInt ∧ (G.1 0 11).toInt ≤ 1600 := hB_G.i 0 11 rfl rfl
    have g_24 : (G_13.1 0 11).toInt = (G.1 0 11).toInt := by rw [show G_13.1 0 11 = (G.1 0 11) from ((hq_14.i 0 11 (by decide) (by decide)).trans (hq_6.i 0 11 (by decide) (by decide)))]
    have b_25 : 0 ≤ (G.1 3 7).toInt ∧ (G.1 3 7).toInt ≤ 4 := hB_G.i 3 7 rfl rfl
    have g_26 : (G_13.1 3 7).toInt = (G.1 3 7).toInt := by rw [show G_13.1 3 7 = (G.1 3 7) from ((hq_14.i 3 7 (by decide) (by decide)).trans (hq_6.i 3 7 (by decide) (by decide)))]
    have b_27 : (-1) ≤ (G.1 3 8).toInt ∧ (G.1 3 8).toInt ≤ 1600 := hB_G.i 3 8 rfl rfl
    have g_28 : (G_13.1 3 8).toInt = (G.1 3 8).toInt := by rw [show G_13.1 3 8 = (G.1 3 8) from ((hq_14.i 3 8 (by decide) (by decide)).trans (hq_6.i 3 8 (by decide) (by decide)))]
    have b_29 : 0 ≤ (G.1 30 4).toInt ∧ (G.1 30 4).toInt ≤ 40 := hB_G.i 30 4 rfl rfl
    have g_30 : (G_13.1 30 4).toInt = (G.1 30 4).toInt := by rw [show G_13.1 30 4 = (G.1 30 4) from ((hq_14.i 30 4 (by decide) (by decide)).trans (hq_6.i 30 4 (by decide) (by decide)))]
    have b_31 : 0 ≤ (G.1 30 5).toInt ∧ (G.1 30 5).toInt ≤ 40 := hB_G.i 30 5 rfl rfl
    have g_32 : (G_13.1 30 5).toInt = (G.1 30 5).toInt := by rw [show G_13.1 30 5 = (G.1 30 5) from ((hq_14.i 30 5 (by decide) (by decide)).trans (hq_6.i 30 5 (by decide) (by decide)))]
    have b_33 : 0 ≤ (G.1 31 6).toInt ∧ (G.1 31 6).toInt ≤ 100000 := hB_G.i 31 6 rfl rfl
    have g_34 : (G_13.1 31 6).toInt = (G.1 31 6).toInt := by rw [show G_13.1 31 6 = (G.1 31 6) from ((hq_14.i 31 6 (by decide) (by decide)).trans (hq_6.i 31 6 (by decide) (by decide)))]
    have b_35 : 0 ≤ (G.1 66 1).toInt ∧ (G.1 66 1).toInt ≤ 1600 := hB_G.i 66 1 rfl rfl
    have g_36 : (G_13.1 66 1).toInt = (G.1 66 1).toInt := by rw [show G_13.1 66 1 = (G.1 66 1) from ((hq_14.i 66 1 (by decide) (by decide)).trans (hq_6.i 66 1 (by decide) (by decide)))]
    have b_37 : 0 ≤ (G.1 66 2).toInt ∧ (G.1 66 2).toInt ≤ 4 := hB_G.i 66 2 rfl rfl
    have g_38 : (G_13.1 66 2).toInt = (G.1 66 2).toInt := by rw [show G_13.1 66 2 = (G.1 66 2) from ((hq_14.i 66 2 (by decide) (by decide)).trans (hq_6.i 66 2 (by decide) (by decide)))]
    have b_39 : (-1) ≤ (G.1 66 3).toInt ∧ (G.1 66 3).toInt ≤ 1600 := hB_G.i 66 3 rfl rfl
    have g_40 : (G_13.1 66 3).toInt = (G.1 66 3).toInt := by rw [show G_13.1 66 3 = (G.1 66 3) from ((hq_14.i 66 3 (by decide) (by decide)).trans (hq_6.i 66 3 (by decide) (by decide)))]
    have b_41 : 0 ≤ (G.1 66 78).toInt ∧ (G.1 66 78).toInt ≤ 40 := hB_G.i 66 78 rfl rfl
    have g_42 : (G_13.1 66 78).toInt = (G.1 66 78).toInt := by rw [show G_13.1 66 78 = (G.1 66 78) from ((hq_14.i 66 78 (by decide) (by decide)).trans (hq_6.i 66 78 (by decide) (by decide)))]
    have b_43 : 0 ≤ (G.1 66 79).toInt ∧ (G.1 66 79).toInt ≤ 40 := hB_G.i 66 79 rfl rfl
    have g_44 : (G_13.1 66 79).toInt = (G.1 66 79).toInt := by rw [show G_13.1 66 79 = (G.1 66 79) from ((hq_14.i 66 79 (by decide) (by decide)).trans (hq_6.i 66 79 (by decide) (by decide)))]
    have b_45 : 0 ≤ (G.1 66 86).toInt ∧ (G.1 66 86).toInt ≤ 100000 := hB_G.i 66 86 rfl rfl
    have g_46 : (G_13.1 66 86).toInt = (G.1 66 86).toInt := by rw [show G_13.1 66 86 = (G.1 66 86) from ((hq_14.i 66 86 (by decide) (by decide)).trans (hq_6.i 66 86 (by decide) (by decide)))]
    have b_47 : 0 ≤ (G.1 96 0).toInt ∧ (G.1 96 0).toInt ≤ 9 := hB_G.i 96 0 rfl rfl
    have g_48 : (G_13.1 96 0).toInt = (G.1 96 0).toInt := by rw [show G_13.1 96 0 = (G.1 96 0) from ((hq_14.i 96 0 (by decide) (by decide)).trans (hq_6.i 96 0 (by decide) (by decide)))]
    have b_49 : 0 ≤ (G.1 96 1).toInt ∧ (G.1 96 1).toInt ≤ 9 := hB_G.i 96 1 rfl rfl
    have g_50 : (G_13.1 96 1).toInt = (G.1 96 1).toInt := by rw [show G_13.1 96 1 = (G.1 96 1) from ((hq_14.i 96 1 (by decide) (by decide)).trans (hq_6.i 96 1 (by decide) (by decide)))]
    have b_51 : 0 ≤ (G.1 96 2).toInt ∧ (G.1 96 2).toInt ≤ 9 := hB_G.i 96 2 rfl rfl
    have g_52 : (G_13.1 96 2).toInt = (G.1 96 2).toInt := by rw [show G_13.1 96 2 = (G.1 96 2) from ((hq_14.i 96 2 (by decide) (by decide)).trans (hq_6.i 96 2 (by decide) (by decide)))]
    exact K G_13 _ _ _ (Or.inr ⟨((((hq_14.r 0 0 (by decide) (by decide)).trans (hq_6.r 0 0 (by decide) (by decide)))).trans (hv_0_0)), ((((hq_14.r 0 1 (by decide) (by decide)).trans (hq_6.r 0 1 (by decide) (by decide)))).trans (hv_0_1)), ((((hq_14.r 6 4 (by decide) (by decide)).trans (hq_6.r 6 4 (by decide) (by decide)))).trans (hv_6_4)), by omega, by omega, by omega, by omega, by omega, by omega, by omega, by omega, by omega, by omega, by omega, by omega, by omega⟩) hB_G_13 hW hS (lv_sub hl [0, 1, 2, 3] rfl)
