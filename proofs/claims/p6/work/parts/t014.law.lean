set_option maxHeartbeats 4000000 in
set_option maxRecDepth 100000 in
theorem law_35 {p : Program} {l : Launch} {e : Env} {s : State} {m : MethodId} {below : List Frame} {meth : Method} {c : Code} {D : va_G} {k : KT} {A : Nat → Prop} {a : Nat → Nat} {z : SK} {b L : Nat} {xs : Nat → Int32} (hL : L ≤ 3072) (C0 : lw_At p s m meth c b L xs) (hK : cK D k s) (hZ : Sx A z s) (hbA : ¬ A b) {G : GS} {i0 : Int32} (hi0 : 0 ≤ i0.toInt) (hi6 : i0.toInt + 6 ≤ L) (hI : LI G) (hB_G : Bd G) {H : Heap} {locs : List Loc} {ls : Array Slot} (hW : Wd D k A a G H) (hS : va_S A s.heap H locs) (hl : lv_has ls 4 [(0, .ref b), (1, .ref (a 0)), (2, .ref (a 66)), (3, .int i0)]) (K : ∀ (G1 : GS) (H1 : Heap) (locs1 : List Loc) (ls1 : Array Slot), LI G1 → Bd G1 → Wd D k A a G1 H1 → va_S A s.heap H1 locs1 → lv_has ls1 4 [(0, .ref b), (1, .ref (a 0)), (2, .ref (a 66)), (3, .int i0)] → W p l e room_1 s m #[Value.ref b] below meth c H1 locs1 119 46443 (lw_Z below #[Value.ref b] s) (F0 m 1641 ls1 [])) : W p l e room_1 s m #[Value.ref b] below meth c H locs 119 46443 (lw_Z below #[Value.ref b] s) (F0 m 1529 ls []) := by
  obtain ⟨hx, hb, hr, hml, hown, hts, hX, hbl, hlocks, hgv⟩ := id C0
  have hown : s.vm.findClass RL = some m.cls := hown
  have hgd : ∀ w ∈ gd, w ∈ lw_tbl := fun w h => (List.mem_filter.mp h).1
  have hg : ∀ w ∈ gd, w.before #[Value.ref b] s = true := fun w h => hts w (hgd w h)
  rcases hI with ⟨hv_0_0, hv_0_1, hv_6_4, hj0, hj1, hj2, hj3, hj4, hj5, hj6, hj7, hj8, hj9, hj10, hj11⟩ | ⟨hv_0_0, hv_0_1, hv_6_4, hj0, hj1, hj2, hj3, hj4, hj5, hj6, hj7, hj8, hj9, hj10, hj11⟩
  · skip
    refine lv_aload_n hx hb dL_law_1529 rfl (lv_at hl 1 rfl) ?_
    refine lv_aload_n hx hb dL_law_1530 rfl (lv_at hl 0 rfl) ?_
    refine lv_iload_n hx hb dL_law_1531 rfl (lv_at hl 3 rfl) ?_
    refine lv_iconst (v := 1) hx hb dL_law_1532 (by decide) ?_
    refine lv_iadd hx hb dL_law_1533 ?_
    refine lv_topi (fun y_1 ey_1 => ?_)
    have ty_1 : y_1.toInt = i0.toInt + 1 := xI_add rfl rfl ey_1 (by omega) (by omega)
    refine va_sld hx hb hX hbl hbA hS (vin (by omega) (by omega)) dL_law_1534 ?_
    refine lv_topi (fun y_2 ey_2 => ?_)
    have u_3 : y_2.toInt = (xs (i0 + 1).toNatClampNeg).toInt := by rw [ey_2, ey_1]
    refine lv_aload_n hx hb dL_law_1535 rfl (lv_at hl 0 rfl) ?_
    refine lv_iload_n hx hb dL_law_1536 rfl (lv_at hl 3 rfl) ?_
    refine lv_iconst (v := 2) hx hb dL_law_1537 (by decide) ?_
    refine lv_iadd hx hb dL_law_1538 ?_
    refine lv_topi (fun y_4 ey_4 => ?_)
    have ty_4 : y_4.toInt = i0.toInt + 2 := xI_add rfl rfl ey_4 (by omega) (by omega)
    refine va_sld hx hb hX hbl hbA hS (vin (by omega) (by omega)) dL_law_1539 ?_
    refine lv_topi (fun y_5 ey_5 => ?_)
    have u_6 : y_5.toInt = (xs (i0 + 2).toNatClampNeg).toInt := by rw [ey_5, ey_4]
    refine lv_aload_n hx hb dL_law_1540 rfl (lv_at hl 0 rfl) ?_
    refine lv_iload_n hx hb dL_law_1541 rfl (lv_at hl 3 rfl) ?_
    refine lv_iconst (v := 3) hx hb dL_law_1542 (by decide) ?_
    refine lv_iadd hx hb dL_law_1543 ?_
    refine lv_topi (fun y_7 ey_7 => ?_)
    have ty_7 : y_7.toInt = i0.toInt + 3 := xI_add rfl rfl ey_7 (by omega) (by omega)
    refine va_sld hx hb hX hbl hbA hS (vin (by omega) (by omega)) dL_law_1544 ?_
    refine lv_topi (fun y_8 ey_8 => ?_)
    have u_9 : y_8.toInt = (xs (i0 + 3).toNatClampNeg).toInt := by rw [ey_8, ey_7]
    refine S_calll (va_runV (As := [.int y_2, .int y_5, .int y_8]) (rest := []) ⟨hx, hb, hml, hown, hts⟩ (k_Wchance_1 l D k A a z G y_2 y_5 y_8 hv_0_0 hv_0_1 hv_6_4) (cwV 3 hts (gd_V hgd m1279 m1280 m1281 m117 m1282) rfl rfl rfl (by decide +kernel) ⟨Nat.le_of_ble_eq_true rfl, Nat.le_of_ble_eq_true rfl⟩) (pre_V hW hB_G hK hZ hS kd_0 rfl) rfl rfl hl.1 rfl (lv_room (Nat.le_of_ble_eq_true rfl)) dL_law_1545 ⟨Nat.le_of_ble_eq_true rfl, Nat.le_of_ble_eq_true rfl⟩) hS (fun r_10 G_11 H locs hpo hW hS => ?_)
    have hX_14 : P_Wchance_1 y_2 y_5 y_8 G r_10 G_11 := hpo
    obtain ⟨hB_G_11, hq_12, -⟩ := hpo
    refine lv_pop2_2 hx hb dL_law_1548 rfl ?_
    refine lv_aload_n hx hb dL_law_1549 rfl (lv_at hl 2 rfl) ?_
    refine lv_aload_n hx hb dL_law_1550 rfl (lv_at hl 0 rfl) ?_
    refine lv_iload_n hx hb dL_law_1551 rfl (lv_at hl 3 rfl) ?_
    refine lv_iconst (v := 1) hx hb dL_law_1552 (by decide) ?_
    refine lv_iadd hx hb dL_law_1553 ?_
    refine lv_topi (fun y_15 ey_15 => ?_)
    have ty_15 : y_15.toInt = i0.toInt + 1 := xI_add rfl rfl ey_15 (by omega) (by omega)
    refine va_sld hx hb hX hbl hbA hS (vin (by omega) (by omega)) dL_law_1554 ?_
    refine lv_topi (fun y_16 ey_16 => ?_)
    have u_17 : y_16.toInt = (xs (i0 + 1).toNatClampNeg).toInt := by rw [ey_16, ey_15]
    refine lv_aload_n hx hb dL_law_1555 rfl (lv_at hl 0 rfl) ?_
    refine lv_iload_n hx hb dL_law_1556 rfl (lv_at hl 3 rfl) ?_
    refine lv_iconst (v := 2) hx hb dL_law_1557 (by decide) ?_
    refine lv_iadd hx hb dL_law_1558 ?_
    refine lv_topi (fun y_18 ey_18 => ?_)
    have ty_18 : y_18.toInt = i0.toInt + 2 := xI_add rfl rfl ey_18 (by omega) (by omega)
    refine va_sld hx hb hX hbl hbA hS (vin (by omega) (by omega)) dL_law_1559 ?_
    refine lv_topi (fun y_19 ey_19 => ?_)
    have u_20 : y_19.toInt = (xs (i0 + 2).toNatClampNeg).toInt := by rw [ey_19, ey_18]
    refine lv_aload_n hx hb dL_law_1560 rfl (lv_at hl 0 rfl) ?_
    refine lv_iload_n hx hb dL_law_1561 rfl (lv_at hl 3 rfl) ?_
    refine lv_iconst (v := 3) hx hb dL_law_1562 (by decide) ?_
    refine lv_iadd hx hb dL_law_1563 ?_
    refine lv_topi (fun y_21 ey_21 => ?_)
    have ty_21 : y_21.toInt = i0.toInt + 3 := xI_add rfl rfl ey_21 (by omega) (by omega)
    refine va_sld hx hb hX hbl hbA hS (vin (by omega) (by omega)) dL_law_1564 ?_
    refine lv_topi (fun y_22 ey_22 => ?_)
    have u_23 : y_22.toInt = (xs (i0 + 3).toNatClampNeg).toInt := by rw [ey_22, ey_21]
    have g_24 : gP G_11 = gP G := gP_fr (rs := [37, 38, 39]) (fs := [(6, 3)]) (Fr.rf.call hq_12 (by decide) (by decide)) (by decide) (by decide)
    have g_25 : gS G_11 = gS G := gS_fr (rs := [37, 38, 39]) (fs := [(6, 3)]) (Fr.rf.call hq_12 (by decide) (by decide)) (by decide) (by decide)
    refine S_calll (va_runV (As := [.int y_16, .int y_19, .int y_22]) (rest := []) ⟨hx, hb, hml, hown, hts⟩ (n_chance l D k A a z G_11 y_16 y_19 y_22 (by omega) (by omega)) (cwV 3 hts (gd_V hgd m2059 m2060 m2061 m131 m2062) rfl rfl rfl (by decide +kernel) ⟨Nat.le_of_ble_eq_true rfl, Nat.le_of_ble_eq_true rfl⟩) (pre_V hW hB_G_11 hK hZ hS kd_66 rfl) rfl rfl hl.1 rfl (lv_room (Nat.le_of_ble_eq_true rfl)) dL_law_1565 ⟨Nat.le_of_ble_eq_true rfl, Nat.le_of_ble_eq_true rfl⟩) hS (fun r_26 G_27 H locs hpo hW hS => ?_)
    have hX_30 : Q_chance y_16 y_19 y_22 G_11 r_26 G_27 := hpo
    obtain ⟨hB_G_27, hq_28, -⟩ := hpo
    have u_31 := L_chance_1 hX_14 hX_30 (by omega) (by omega) (by omega) (by omega)
    refine lv_pop2_2 hx hb dL_law_1568 rfl ?_
    refine lv_goto (tgt := 1641) hx hb dL_law_1569 (by decide) ?_
    have g_32 : gO G_27 = gO G := gO_fr (rs := [37, 38, 39, 76, 97, 98]) (fs := [(6, 3), (66, 59), (66, 60), (66, 61), (66, 62), (66, 63)]) ((Fr.rf.call hq_12 (by decide) (by decide)).call hq_28 (by decide) (by decide)) (by decide) (by decide)
    have g_33 : gP G_27 = gP G := gP_fr (rs := [37, 38, 39, 76, 97, 98]) (fs := [(6, 3), (66, 59), (66, 60), (66, 61), (66, 62), (66, 63)]) ((Fr.rf.call hq_12 (by decide) (by decide)).call hq_28 (by decide) (by decide)) (by decide) (by decide)
    have g_34 : gS G_27 = gS G := gS_fr (rs := [37, 38, 39, 76, 97, 98]) (fs := [(6, 3), (66, 59), (66, 60), (66, 61), (66, 62), (66, 63)]) ((Fr.rf.call hq_12 (by decide) (by decide)).call hq_28 (by decide) (by decide)) (by decide) (by decide)
    have g_35 : gTE G_27 = gTE G := gTE_fr (rs := [37, 38, 39, 76, 97, 98]) (fs := [(6, 3), (66, 59), (66, 60), (66, 61), (66, 62), (66, 63)]) ((Fr.rf.call hq_12 (by decide) (by decide)).call hq_28 (by decide) (by decide)) (by decide) (by decide)
    have g_36 : gW G_27 = gW G := gW_fr (rs := [37, 38, 39, 76, 97, 98]) (fs := [(6, 3), (66, 59), (66, 60), (66, 61), (66, 62), (66, 63)]) ((Fr.rf.call hq_12 (by decide) (by decide)).call hq_28 (by decide) (by decide)) (by decide) (by decide)
    have b_37 : 0 ≤ (G.1 0 11).toInt ∧ (G.1 0 11).toInt ≤ 1600 := hB_G.i 0 11 rfl rfl
    have g_38 : (G_27.1 0 11).toInt = (G.1 0 11).toInt := by rw [show G_27.1 0 11 = (G.1 0 11) from ((hq_28.i 0 11 (by decide) (by decide)).trans (hq_12.i 0 11 (by decide) (by decide)))]
    have b_39 : 0 ≤ (G.1 3 7).toInt ∧ (G.1 3 7).toInt ≤ 4 := hB_G.i 3 7 rfl rfl
    have g_40 : (G_27.1 3 7).toInt = (G.1 3 7).toInt := by rw [show G_27.1 3 7 = (G.1 3 7) from ((hq_28.i 3 7 (by decide) (by decide)).trans (hq_12.i 3 7 (by decide) (by decide)))]
    have b_41 : (-1) ≤ (G.1 3 8).toInt ∧ (G.1 3 8).toInt ≤ 1600 := hB_G.i 3 8 rfl rfl
    have g_42 : (G_27.1 3 8).toInt = (G.1 3 8).toInt := by rw [show G_27.1 3 8 = (G.1 3 8) from ((hq_28.i 3 8 (by decide) (by decide)).trans (hq_12.i 3 8 (by decide) (by decide)))]
    have b_43 : 0 ≤ (G.1 30 4).toInt ∧ (G.1 30 4).toInt ≤ 40 := hB_G.i 30 4 rfl rfl
    have g_44 : (G_27.1 30 4).toInt = (G.1 30 4).toInt := by rw [show G_27.1 30 4 = (G.1 30 4) from ((hq_28.i 30 4 (by decide) (by decide)).trans (hq_12.i 30 4 (by decide) (by decide)))]
    have b_45 : 0 ≤ (G.1 30 5).toInt ∧ (G.1 30 5).toInt ≤ 40 := hB_G.i 30 5 rfl rfl
    have g_46 : (G_27.1 30 5).toInt = (G.1 30 5).toInt := by rw [show G_27.1 30 5 = (G.1 30 5) from ((hq_28.i 30 5 (by decide) (by decide)).trans (hq_12.i 30 5 (by decide) (by decide)))]
    have b_47 : 0 ≤ (G.1 31 6).toInt ∧ (G.1 31 6).toInt ≤ 100000 := hB_G.i 31 6 rfl rfl
    have g_48 : (G_27.1 31 6).toInt = (G.1 31 6).toInt := by rw [show G_27.1 31 6 = (G.1 31 6) from ((hq_28.i 31 6 (by decide) (by decide)).trans (hq_12.i 31 6 (by decide) (by decide)))]
    have b_49 : 0 ≤ (G.1 66 1).toInt ∧ (G.1 66 1).toInt ≤ 1600 := hB_G.i 66 1 rfl rfl
    have g_50 : (G_27.1 66 1).toInt = (G.1 66 1).toInt := by rw [show G_27.1 66 1 = (G.1 66 1) from ((hq_28.i 66 1 (by decide) (by decide)).trans (hq_12.i 66 1 (by decide) (by decide)))]
    have b_51 : 0 ≤ (G.1 66 2).toInt ∧ (G.1 66 2).toInt ≤ 4 := hB_G.i 66 2 rfl rfl
    have g_52 : (G_27.1 66 2).toInt = (G.1 66 2).toInt := by rw [show G_27.1 66 2 = (G.1 66 2) from ((hq_28.i 66 2 (by decide) (by decide)).trans (hq_12.i 66 2 (by decide) (by decide)))]
    have b_53 : (-1) ≤ (G.1 66 3).toInt ∧ (G.1 66 3).toInt ≤ 1600 := hB_G.i 66 3 rfl rfl
    have g_54 : (G_27.1 66 3).toInt = (G.1 66 3).toInt := by rw [show G_27.1 66 3 = (G.1 66 3) from ((hq_28.i 66 3 (by decide) (by decide)).trans (hq_12.i 66 3 (by decide) (by decide)))]
    have b_55 : 0 ≤ (G.1 66 78).toInt ∧ (G.1 66 78).toInt ≤ 40 := hB_G.i 66 78 rfl rfl
    have g_56 : (G_27.1 66 78).toInt = (G.1 66 78).toInt := by rw [show G_27.1 66 78 = (G.1 66 78) from ((hq_28.i 66 78 (by decide) (by decide)).trans (hq_12.i 66 78 (by decide) (by decide)))]
    have b_57 : 0 ≤ (G.1 66 79).toInt ∧ (G.1 66 79).toInt ≤ 40 := hB_G.i 66 79 rfl rfl
    have g_58 : (G_27.1 66 79).toInt = (G.1 66 79).toInt := by rw [show G_27.1 66 79 = (G.1 66 79) from ((hq_28.i 66 79 (by decide) (by decide)).trans (hq_12.i 66 79 (by decide) (by decide)))]
    have b_59 : 0 ≤ (G.1 66 86).toInt ∧ (G.1 66 86).toInt ≤ 100000 := hB_G.i 66 86 rfl rfl
    have g_60 : (G_27.1 66 86).toInt = (G.1 66 86).toInt := by rw [show G_27.1 66 86 = (G.1 66 86) from ((hq_28.i 66 86 (by decide) (by decide)).trans (hq_12.i 66 86 (by decide) (by decide)))]
    have b_61 : 0 ≤ (G.1 96 0).toInt ∧ (G.1 96 0).toInt ≤ 9 := hB_G.i 96 0 rfl rfl
    have g_62 : (G_27.1 96 0).toInt = (G.1 96 0).toInt := by rw [show G_27.1 96 0 = (G.1 96 0) from ((hq_28.i 96 0 (by decide) (by decide)).trans (hq_12.i 96 0 (by decide) (by decide)))]
    have b_63 : 0 ≤ (G.1 96 1).toInt ∧ (G.1 96 1).toInt ≤ 9 := hB_G.i 96 1 rfl rfl
    have g_64 : (G_27.1 96 1).toInt = (G.1 96 1).toInt := by rw [show G_27.1 96 1 = (G.1 96 1) from ((hq_28.i 96 1 (by decide) (by decide)).trans (hq_12.i 96 1 (by decide) (by decide)))]
    have b_65 : 0 ≤ (G.1 96 2).toInt ∧ (G.1 96 2).toInt ≤ 9 := hB_G.i 96 2 rfl rfl
    have g_66 : (G_27.1 96 2).toInt = (G.1 96 2).toInt := by rw [show G_27.1 96 2 = (G.1 96 2) from ((hq_28.i 96 2 (by decide) (by decide)).trans (hq_12.i 96 2 (by decide) (by decide)))]
    exact K G_27 _ _ _ (Or.inl ⟨((((hq_28.r 0 0 (by decide) (by decide)).trans (hq_12.r 0 0 (by decide) (by decide)))).trans (hv_0_0)), ((((hq_28.r 0 1 (by decide) (by decide)).trans (hq_12.r 0 1 (by decide) (by decide)))).trans (hv_0_1)), ((((hq_28.r 6 4 (by decide) (by decide)).trans (hq_12.r 6 4 (by decide) (by decide)))).trans (hv_6_4)), by omega, by omega, by omega, by omega, by omega, by omega, by omega, by omega, by omega, by omega, by omega, by omega, by omega⟩) hB_G_27 hW hS (lv_sub hl [0, 1, 2, 3] rfl)
  · skip
    refine lv_aload_n hx hb dL_law_1529 rfl (lv_at hl 1 rfl) ?_
    refine lv_aload_n hx hb dL_law_1530 rfl (lv_at hl 0 rfl) ?_
    refine lv_iload_n hx hb dL_law_1531 rfl (lv_at hl 3 rfl) ?_
    refine lv_iconst (v := 1) hx hb dL_law_1532 (by decide) ?_
    refine lv_iadd hx hb dL_law_1533 ?_
    refine lv_topi (fun y_1 ey_1 => ?_)
    have ty_1 : y_1.toInt = i0.toInt + 1 := xI_add rfl rfl ey_1 (by omega) (by omega)
    refine va_sld hx hb hX hbl hbA hS (vin (by omega) (by omega)) dL_law_1534 ?_
    refine lv_topi (fun y_2 ey_2 => ?_)
    have u_3 : y_2.toInt = (xs (i0 + 1).toNatClampNeg).toInt := by rw [ey_2, ey_1]
    refine lv_aload_n hx hb dL_law_1535 rfl (lv_at hl 0 rfl) ?_
    refine lv_iload_n hx hb dL_law_1536 rfl (lv_at hl 3 rfl) ?_
    refine lv_iconst (v := 2) hx hb dL_law_1537 (by decide) ?_
    refine lv_iadd hx hb dL_law_1538 ?_
    refine lv_topi (fun y_4 ey_4 => ?_)
    have ty_4 : y_4.toInt = i0.toInt + 2 := xI_add rfl rfl ey_4 (by omega) (by omega)
    refine va_sld hx hb hX hbl hbA hS (vin (by omega) (by omega)) dL_law_1539 ?_
    refine lv_topi (fun y_5 ey_5 => ?_)
    have u_6 : y_5.toInt = (xs (i0 + 2).toNatClampNeg).toInt := by rw [ey_5, ey_4]
    refine lv_aload_n hx hb dL_law_1540 rfl (lv_at hl 0 rfl) ?_
    refine lv_iload_n hx hb dL_law_1541 rfl (lv_at hl 3 rfl) ?_
    refine lv_iconst (v := 3) hx hb dL_law_1542 (by decide) ?_
    refine lv_iadd hx hb dL_law_1543 ?_
    refine lv_topi (fun y_7 ey_7 => ?_)
    have ty_7 : y_7.toInt = i0.toInt + 3 := xI_add rfl rfl ey_7 (by omega) (by omega)
    refine va_sld hx hb hX hbl hbA hS (vin (by omega) (by omega)) dL_law_1544 ?_
    refine lv_topi (fun y_8 ey_8 => ?_)
    have u_9 : y_8.toInt = (xs (i0 + 3).toNatClampNeg).toInt := by rw [ey_8, ey_7]
    refine S_calll (va_runV (As := [.int y_2, .int y_5, .int y_8]) (rest := []) ⟨hx, hb, hml, hown, hts⟩ (k_Wchance_2 l D k A a z G y_2 y_5 y_8 hv_0_0 hv_0_1 hv_6_4) (cwV 3 hts (gd_V hgd m1279 m1280 m1281 m117 m1282) rfl rfl rfl (by decide +kernel) ⟨Nat.le_of_ble_eq_true rfl, Nat.le_of_ble_eq_true rfl⟩) (pre_V hW hB_G hK hZ hS kd_0 rfl) rfl rfl hl.1 rfl (lv_room (Nat.le_of_ble_eq_true rfl)) dL_law_1545 ⟨Nat.le_of_ble_eq_true rfl, Nat.le_of_ble_eq_true rfl⟩) hS (fun r_10 G_11 H locs hpo hW hS => ?_)
    have hX_14 : P_Wchance_2 y_2 y_5 y_8 G r_10 G_11 := hpo
    obtain ⟨hB_G_11, hq_12, -⟩ := hpo
    refine lv_pop2_2 hx hb dL_law_1548 rfl ?_
    refine lv_aload_n hx hb dL_law_1549 rfl (lv_at hl 2 rfl) ?_
    refine lv_aload_n hx hb dL_law_1550 rfl (lv_at hl 0 rfl) ?_
    refine lv_iload_n hx hb dL_law_1551 rfl (lv_at hl 3 rfl) ?_
    refine lv_iconst (v := 1) hx hb dL_law_1552 (by decide) ?_
    refine lv_iadd hx hb dL_law_1553 ?_
    refine lv_topi (fun y_15 ey_15 => ?_)
    have ty_15 : y_15.toInt = i0.toInt + 1 := xI_add rfl rfl ey_15 (by omega) (by omega)
    refine va_sld hx hb hX hbl hbA hS (vin (by omega) (by omega)) dL_law_1554 ?_
    refine lv_topi (fun y_16 ey_16 => ?_)
    have u_17 : y_16.toInt = (xs (i0 + 1).toNatClampNeg).toInt := by rw [ey_16, ey_15]
    refine lv_aload_n hx hb dL_law_1555 rfl (lv_at hl 0 rfl) ?_
    refine lv_iload_n hx hb dL_law_1556 rfl (lv_at hl 3 rfl) ?_
    refine lv_iconst (v := 2) hx hb dL_law_1557 (by decide) ?_
    refine lv_iadd hx hb dL_law_1558 ?_
    refine lv_topi (fun y_18 ey_18 => ?_)
    have ty_18 : y_18.toInt = i0.toInt + 2 := xI_add rfl rfl ey_18 (by omega) (by omega)
    refine va_sld hx hb hX hbl hbA hS (vin (by omega) (by omega)) dL_law_1559 ?_
    refine lv_topi (fun y_19 ey_19 => ?_)
    have u_20 : y_19.toInt = (xs (i0 + 2).toNatClampNeg).toInt := by rw [ey_19, ey_18]
    refine lv_aload_n hx hb dL_law_1560 rfl (lv_at hl 0 rfl) ?_
    refine lv_iload_n hx hb dL_law_1561 rfl (lv_at hl 3 rfl) ?_
    refine lv_iconst (v := 3) hx hb dL_law_1562 (by decide) ?_
    refine lv_iadd hx hb dL_law_1563 ?_
    refine lv_topi (fun y_21 ey_21 => ?_)
    have ty_21 : y_21.toInt = i0.toInt + 3 := xI_add rfl rfl ey_21 (by omega) (by omega)
    refine va_sld hx hb hX hbl hbA hS (vin (by omega) (by omega)) dL_law_1564 ?_
    refine lv_topi (fun y_22 ey_22 => ?_)
    have u_23 : y_22.toInt = (xs (i0 + 3).toNatClampNeg).toInt := by rw [ey_22, ey_21]
    have g_24 : gP G_11 = gP G := gP_fr (rs := [37, 38, 39]) (fs := [(6, 3)]) (Fr.rf.call hq_12 (by decide) (by decide)) (by decide) (by decide)
    have g_25 : gS G_11 = gS G := gS_fr (rs := [37, 38, 39]) (fs := [(6, 3)]) (Fr.rf.call hq_12 (by decide) (by decide)) (by decide) (by decide)
    refine S_calll (va_runV (As := [.int y_16, .int y_19, .int y_22]) (rest := []) ⟨hx, hb, hml, hown, hts⟩ (n_chance l D k A a z G_11 y_16 y_19 y_22 (by omega) (by omega)) (cwV 3 hts (gd_V hgd m2059 m2060 m2061 m131 m2062) rfl rfl rfl (by decide +kernel) ⟨Nat.le_of_ble_eq_true rfl, Nat.le_of_ble_eq_true rfl⟩) (pre_V hW hB_G_11 hK hZ hS kd_66 rfl) rfl rfl hl.1 rfl (lv_room (Nat.le_of_ble_eq_true rfl)) dL_law_1565 ⟨Nat.le_of_ble_eq_true rfl, Nat.le_of_ble_eq_true rfl⟩) hS (fun r_26 G_27 H locs hpo hW hS => ?_)
    have hX_30 : Q_chance y_16 y_19 y_22 G_11 r_26 G_27 := hpo
    obtain ⟨hB_G_27, hq_28, -⟩ := hpo
    have u_31 := L_chance_2 hX_14 hX_30 (by omega) (by omega) (by omega) (by omega)
    refine lv_pop2_2 hx hb dL_law_1568 rfl ?_
    refine lv_goto (tgt := 1641) hx hb dL_law_1569 (by decide) ?_
    have g_32 : gO G_27 = gO G := gO_fr (rs := [37, 38, 39, 76, 97, 98]) (fs := [(6, 3), (66, 59), (66, 60), (66, 61), (66, 62), (66, 63)]) ((Fr.rf.call hq_12 (by decide) (by decide)).call hq_28 (by decide) (by decide)) (by decide) (by decide)
    have g_33 : gP G_27 = gP G := gP_fr (rs := [37, 38, 39, 76, 97, 98]) (fs := [(6, 3), (66, 59), (66, 60), (66, 61), (66, 62), (66, 63)]) ((Fr.rf.call hq_12 (by decide) (by decide)).call hq_28 (by decide) (by decide)) (by decide) (by decide)
    have g_34 : gS G_27 = gS G := gS_fr (rs := [37, 38, 39, 76, 97, 98]) (fs := [(6, 3), (66, 59), (66, 60), (66, 61), (66, 62), (66, 63)]) ((Fr.rf.call hq_12 (by decide) (by decide)).call hq_28 (by decide) (by decide)) (by decide) (by decide)
    have g_35 : gTE G_27 = gTE G := gTE_fr (rs := [37, 38, 39, 76, 97, 98]) (fs := [(6, 3), (66, 59), (66, 60), (66, 61), (66, 62), (66, 63)]) ((Fr.rf.call hq_12 (by decide) (by decide)).call hq_28 (by decide) (by decide)) (by decide) (by decide)
    have g_36 : gW G_27 = gW G := gW_fr (rs := [37, 38, 39, 76, 97, 98]) (fs := [(6, 3), (66, 59), (66, 60), (66, 61), (66, 62), (66, 63)]) ((Fr.rf.call hq_12 (by decide) (by decide)).call hq_28 (by decide) (by decide)) (by decide) (by decide)
    have b_37 : 0 ≤ (G.1 0 11).toInt ∧ (G.1 0 11).toInt ≤ 1600 := hB_G.i 0 11 rfl rfl
    have g_38 : (G_27.1 0 11).toInt = (G.1 0 11).toInt := by rw [show G_27.1 0 11 = (G.1 0 11) from ((hq_28.i 0 11 (by decide) (by decide)).trans (hq_12.i 0 11 (by decide) (by decide)))]
    have b_39 : 0 ≤ (G.1 3 7).toInt ∧ (G.1 3 7).toInt ≤ 4 := hB_G.i 3 7 rfl rfl
    have g_40 : (G_27.1 3 7).toInt = (G.1 3 7).toInt := by rw [show G_27.1 3 7 = (G.1 3 7) from ((hq_28.i 3 7 (by decide) (by decide)).trans (hq_12.i 3 7 (by decide) (by decide)))]
    have b_41 : (-1) ≤ (G.1 3 8).toInt ∧ (G.1 3 8).toInt ≤ 1600 := hB_G.i 3 8 rfl rfl
    have g_42 : (G_27.1 3 8).toInt = (G.1 3 8).toInt := by rw [show G_27.1 3 8 = (G.1 3 8) from ((hq_28.i 3 8 (by decide) (by decide)).trans (hq_12.i 3 8 (by decide) (by decide)))]
    have b_43 : 0 ≤ (G.1 30 4).toInt ∧ (G.1 30 4).toInt ≤ 40 := hB_G.i 30 4 rfl rfl
    have g_44 : (G_27.1 30 4).toInt = (G.1 30 4).toInt := by rw [show G_27.1 30 4 = (G.1 30 4) from ((hq_28.i 30 4 (by decide) (by decide)).trans (hq_12.i 30 4 (by decide) (by decide)))]
    have b_45 : 0 ≤ (G.1 30 5).toInt ∧ (G.1 30 5).toInt ≤ 40 := hB_G.i 30 5 rfl rfl
    have g_46 : (G_27.1 30 5).toInt = (G.1 30 5).toInt := by rw [show G_27.1 30 5 = (G.1 30 5) from ((hq_28.i 30 5 (by decide) (by decide)).trans (hq_12.i 30 5 (by decide) (by decide)))]
    have b_47 : 0 ≤ (G.1 31 6).toInt ∧ (G.1 31 6).toInt ≤ 100000 := hB_G.i 31 6 rfl rfl
    have g_48 : (G_27.1 31 6).toInt = (G.1 31 6).toInt := by rw [show G_27.1 31 6 = (G.1 31 6) from ((hq_28.i 31 6 (by decide) (by decide)).trans (hq_12.i 31 6 (by decide) (by decide)))]
    have b_49 : 0 ≤ (G.1 66 1).toInt ∧ (G.1 66 1).toInt ≤ 1600 := hB_G.i 66 1 rfl rfl
    have g_50 : (G_27.1 66 1).toInt = (G.1 66 1).toInt := by rw [show G_27.1 66 1 = (G.1 66 1) from ((hq_28.i 66 1 (by decide) (by decide)).trans (hq_12.i 66 1 (by decide) (by decide)))]
    have b_51 : 0 ≤ (G.1 66 2).toInt ∧ (G.1 66 2).toInt ≤ 4 := hB_G.i 66 2 rfl rfl
    have g_52 : (G_27.1 66 2).toInt = (G.1 66 2).toInt := by rw [show G_27.1 66 2 = (G.1 66 2) from ((hq_28.i 66 2 (by decide) (by decide)).trans (hq_12.i 66 2 (by decide) (by decide)))]
    have b_53 : (-1) ≤ (G.1 66 3).toInt ∧ (G.1 66 3).toInt ≤ 1600 := hB_G.i 66 3 rfl rfl
    have g_54 : (G_27.1 66 3).toInt = (G.1 66 3).toInt := by rw [show G_27.1 66 3 = (G.1 66 3) from ((hq_28.i 66 3 (by decide) (by decide)).trans (hq_12.i 66 3 (by decide) (by decide)))]
    have b_55 : 0 ≤ (G.1 66 78).toInt ∧ (G.1 66 78).toInt ≤ 40 := hB_G.i 66 78 rfl rfl
    have g_56 : (G_27.1 66 78).toInt = (G.1 66 78).toInt := by rw [show G_27.1 66 78 = (G.1 66 78) from ((hq_28.i 66 78 (by decide) (by decide)).trans (hq_12.i 66 78 (by decide) (by decide)))]
    have b_57 : 0 ≤ (G.1 66 79).toInt ∧ (G.1 66 79).toInt ≤ 40 := hB_G.i 66 79 rfl rfl
    have g_58 : (G_27.1 66 79).toInt = (G.1 66 79).toInt := by rw [show G_27.1 66 79 = (G.1 66 79) from ((hq_28.i 66 79 (by decide) (by decide)).trans (hq_12.i 66 79 (by decide) (by decide)))]
    have b_59 : 0 ≤ (G.1 66 86).toInt ∧ (G.1 66 86).toInt ≤ 100000 := hB_G.i 66 86 rfl rfl
    have g_60 : (G_27.1 66 86).toInt = (G.1 66 86).toInt := by rw [show G_27.1 66 86 = (G.1 66 86) from ((hq_28.i 66 86 (by decide) (by decide)).trans (hq_12.i 66 86 (by decide) (by decide)))]
    have b_61 : 0 ≤ (G.1 96 0).toInt ∧ (G.1 96 0).toInt ≤ 9 := hB_G.i 96 0 rfl rfl
    have g_62 : (G_27.1 96 0).toInt = (G.1 96 0).toInt := by rw [show G_27.1 96 0 = (G.1 96 0) from ((hq_28.i 96 0 (by decide) (by decide)).trans (hq_12.i 96 0 (by decide) (by decide)))]
    have b_63 : 0 ≤ (G.1 96 1).toInt ∧ (G.1 96 1).toInt ≤ 9 := hB_G.i 96 1 rfl rfl
    have g_64 : (G_27.1 96 1).toInt = (G.1 96 1).toInt := by rw [show G_27.1 96 1 = (G.1 96 1) from ((hq_28.i 96 1 (by decide) (by decide)).trans (hq_12.i 96 1 (by decide) (by decide)))]
    have b_65 : 0 ≤ (G.1 96 2).toInt ∧ (G.1 96 2).toInt ≤ 9 := hB_G.i 96 2 rfl rfl
    have g_66 : (G_27.1 96 2).toInt = (G.1 96 2).toInt := by rw [show G_27.1 96 2 = (G.1 96 2) from ((hq_28.i 96 2 (by decide) (by decide)).trans (hq_12.i 96 2 (by decide) (by decide)))]
    exact K G_27 _ _ _ (Or.inr ⟨((((hq_28.r 0 0 (by decide) (by decide)).trans (hq_12.r 0 0 (by decide) (by decide)))).trans (hv_0_0)), ((((hq_28.r 0 1 (by decide) (by decide)).trans (hq_12.r 0 1 (by decide) (by decide)))).trans (hv_0_1)), ((((hq_28.r 6 4 (by decide) (by decide)).trans (hq_12.r 6 4 (by decide) (by decide)))).trans (hv_6_4)), by omega, by omega, by omega, by omega, by omega, by omega, by omega, by omega, by omega, by omega, by omega, by omega, by omega⟩) hB_G_27 hW hS (lv_sub hl [0, 1, 2, 3] rfl)
