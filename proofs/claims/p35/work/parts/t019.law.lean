theorem m1303 : Cond.methodLink RL 176 yX11_about ∈ gd := gd_mem 1303 (by decide +kernel) (by decide +kernel)
theorem m1304 : Cond.instanceMethod yX11_about ∈ gd := gd_mem 1304 (by decide +kernel) (by decide +kernel)
theorem m1305 : Cond.selects RX11 yX11_about yX11_about ∈ gd := gd_mem 1305 (by decide +kernel) (by decide +kernel)
theorem m1306 : Cond.code yX11_about cX11_about 2 (some .int) ∈ gd := gd_mem 1306 (by decide +kernel) (by decide +kernel)
theorem m2077 : Cond.methodLink RL 179 yX12_about ∈ gd := gd_mem 2077 (by decide +kernel) (by decide +kernel)
theorem m2078 : Cond.instanceMethod yX12_about ∈ gd := gd_mem 2078 (by decide +kernel) (by decide +kernel)
theorem m2079 : Cond.selects RX12 yX12_about yX12_about ∈ gd := gd_mem 2079 (by decide +kernel) (by decide +kernel)
theorem m2080 : Cond.code yX12_about cX12_about 2 (some .int) ∈ gd := gd_mem 2080 (by decide +kernel) (by decide +kernel)
theorem dL_law_1618 : decode cL_law 1618 = .ok (.aload_n 1, 1) := by decide +kernel
theorem dL_law_1619 : decode cL_law 1619 = .ok (.aload_n 0, 1) := by decide +kernel
theorem dL_law_1620 : decode cL_law 1620 = .ok (.iload_n 3, 1) := by decide +kernel
theorem dL_law_1621 : decode cL_law 1621 = .ok (.iconst 1, 1) := by decide +kernel
theorem dL_law_1622 : decode cL_law 1622 = .ok (.iadd, 1) := by decide +kernel
theorem dL_law_1623 : decode cL_law 1623 = .ok (.iaload, 1) := by decide +kernel
theorem dL_law_1624 : decode cL_law 1624 = .ok (.invokevirtual 176, 3) := by decide +kernel
theorem dL_law_1627 : decode cL_law 1627 = .ok (.pop, 1) := by decide +kernel
theorem dL_law_1628 : decode cL_law 1628 = .ok (.aload_n 2, 1) := by decide +kernel
theorem dL_law_1629 : decode cL_law 1629 = .ok (.aload_n 0, 1) := by decide +kernel
theorem dL_law_1630 : decode cL_law 1630 = .ok (.iload_n 3, 1) := by decide +kernel
theorem dL_law_1631 : decode cL_law 1631 = .ok (.iconst 1, 1) := by decide +kernel
theorem dL_law_1632 : decode cL_law 1632 = .ok (.iadd, 1) := by decide +kernel
theorem dL_law_1633 : decode cL_law 1633 = .ok (.iaload, 1) := by decide +kernel
theorem dL_law_1634 : decode cL_law 1634 = .ok (.invokevirtual 179, 3) := by decide +kernel
theorem dL_law_1637 : decode cL_law 1637 = .ok (.pop, 1) := by decide +kernel
theorem dL_law_1638 : decode cL_law 1638 = .ok (.goto 3, 3) := by decide +kernel
set_option maxHeartbeats 4000000 in
set_option maxRecDepth 100000 in
theorem law_38 {p : Program} {l : Launch} {e : Env} {s : State} {m : MethodId} {below : List Frame} {meth : Method} {c : Code} {D : va_G} {k : KT} {A : Nat → Prop} {a : Nat → Nat} {z : SK} {b L : Nat} {xs : Nat → Int32} (hL : L ≤ 3072) (C0 : lw_At p s m meth c b L xs) (hK : cK D k s) (hZ : Sx A z s) (hbA : ¬ A b) {G : GS} {i0 : Int32} (hi0 : 0 ≤ i0.toInt) (hi6 : i0.toInt + 6 ≤ L) (hI : LI G) (hB_G : Bd G) {H : Heap} {locs : List Loc} {ls : Array Slot} (hW : Wd D k A a G H) (hS : va_S A s.heap H locs) (hl : lv_has ls 4 [(0, .ref b), (1, .ref (a 0)), (2, .ref (a 66)), (3, .int i0)]) (K : ∀ (G1 : GS) (H1 : Heap) (locs1 : List Loc) (ls1 : Array Slot), LI G1 → Bd G1 → Wd D k A a G1 H1 → va_S A s.heap H1 locs1 → lv_has ls1 4 [(0, .ref b), (1, .ref (a 0)), (2, .ref (a 66)), (3, .int i0)] → W p l e room_1 s m #[Value.ref b] below meth c H1 locs1 119 46443 (lw_Z below #[Value.ref b] s) (F0 m 1641 ls1 [])) : W p l e room_1 s m #[Value.ref b] below meth c H locs 119 46443 (lw_Z below #[Value.ref b] s) (F0 m 1618 ls []) := by
  obtain ⟨hx, hb, hr, hml, hown, hts, hX, hbl, hlocks, hgv⟩ := id C0
  have hown : s.vm.findClass RL = some m.cls := hown
  have hgd : ∀ w ∈ gd, w ∈ lw_tbl := fun w h => (List.mem_filter.mp h).1
  have hg : ∀ w ∈ gd, w.before #[Value.ref b] s = true := fun w h => hts w (hgd w h)
  rcases hI with ⟨hv_0_0, hv_0_1, hv_6_4, hj0, hj1, hj2, hj3, hj4, hj5, hj6, hj7, hj8⟩ | ⟨hv_0_0, hv_0_1, hv_6_4, hj0, hj1, hj2, hj3, hj4, hj5, hj6, hj7, hj8⟩
  · skip
    refine lv_aload_n hx hb dL_law_1618 rfl (lv_at hl 1 rfl) ?_
    refine lv_aload_n hx hb dL_law_1619 rfl (lv_at hl 0 rfl) ?_
    refine lv_iload_n hx hb dL_law_1620 rfl (lv_at hl 3 rfl) ?_
    refine lv_iconst (v := 1) hx hb dL_law_1621 (by decide) ?_
    refine lv_iadd hx hb dL_law_1622 ?_
    refine lv_topi (fun y_1 ey_1 => ?_)
    have ty_1 : y_1.toInt = i0.toInt + 1 := xI_add rfl rfl ey_1 (by omega) (by omega)
    refine va_sld hx hb hX hbl hbA hS (vin (by omega) (by omega)) dL_law_1623 ?_
    refine lv_topi (fun y_2 ey_2 => ?_)
    have u_3 : y_2.toInt = (xs (i0 + 1).toNatClampNeg).toInt := by rw [ey_2, ey_1]
    refine S_calli (va_runV (As := [.int y_2]) (rest := []) ⟨hx, hb, hml, hown, hts⟩ (k_Wabout_1 l D k A a z G y_2 hv_0_0 hv_0_1 hv_6_4) (cwV 1 hts (gd_V hgd m1303 m1304 m1305 m117 m1306) rfl rfl rfl (by decide +kernel) ⟨Nat.le_of_ble_eq_true rfl, Nat.le_of_ble_eq_true rfl⟩) (pre_V hW hB_G hK hZ hS kd_0 rfl) rfl rfl hl.1 rfl (lv_room (Nat.le_of_ble_eq_true rfl)) dL_law_1624 ⟨Nat.le_of_ble_eq_true rfl, Nat.le_of_ble_eq_true rfl⟩) hS (fun r_4 G_5 H locs hpo hW hS => ?_)
    obtain ⟨hB_G_5, hq_6⟩ := hpo
    refine lv_pop hx hb dL_law_1627 rfl ?_
    refine lv_aload_n hx hb dL_law_1628 rfl (lv_at hl 2 rfl) ?_
    refine lv_aload_n hx hb dL_law_1629 rfl (lv_at hl 0 rfl) ?_
    refine lv_iload_n hx hb dL_law_1630 rfl (lv_at hl 3 rfl) ?_
    refine lv_iconst (v := 1) hx hb dL_law_1631 (by decide) ?_
    refine lv_iadd hx hb dL_law_1632 ?_
    refine lv_topi (fun y_8 ey_8 => ?_)
    have ty_8 : y_8.toInt = i0.toInt + 1 := xI_add rfl rfl ey_8 (by omega) (by omega)
    refine va_sld hx hb hX hbl hbA hS (vin (by omega) (by omega)) dL_law_1633 ?_
    refine lv_topi (fun y_9 ey_9 => ?_)
    have u_10 : y_9.toInt = (xs (i0 + 1).toNatClampNeg).toInt := by rw [ey_9, ey_8]
    refine S_calli (va_runV (As := [.int y_9]) (rest := []) ⟨hx, hb, hml, hown, hts⟩ (n_about l D k A a z G_5 y_9 ) (cwV 1 hts (gd_V hgd m2077 m2078 m2079 m131 m2080) rfl rfl rfl (by decide +kernel) ⟨Nat.le_of_ble_eq_true rfl, Nat.le_of_ble_eq_true rfl⟩) (pre_V hW hB_G_5 hK hZ hS kd_66 rfl) rfl rfl hl.1 rfl (lv_room (Nat.le_of_ble_eq_true rfl)) dL_law_1634 ⟨Nat.le_of_ble_eq_true rfl, Nat.le_of_ble_eq_true rfl⟩) hS (fun r_11 G_12 H locs hpo hW hS => ?_)
    obtain ⟨hB_G_12, hq_13⟩ := hpo
    refine lv_pop hx hb dL_law_1637 rfl ?_
    refine lv_goto (tgt := 1641) hx hb dL_law_1638 (by decide) ?_
    have g_15 : gO G_12 = gO G := gO_fr (rs := []) (fs := []) ((Fr.rf.call hq_6 (by decide) (by decide)).call hq_13 (by decide) (by decide)) (by decide) (by decide)
    have g_16 : gP G_12 = gP G := gP_fr (rs := []) (fs := []) ((Fr.rf.call hq_6 (by decide) (by decide)).call hq_13 (by decide) (by decide)) (by decide) (by decide)
    have g_17 : gS G_12 = gS G := gS_fr (rs := []) (fs := []) ((Fr.rf.call hq_6 (by decide) (by decide)).call hq_13 (by decide) (by decide)) (by decide) (by decide)
    have g_18 : gW G_12 = gW G := gW_fr (rs := []) (fs := []) ((Fr.rf.call hq_6 (by decide) (by decide)).call hq_13 (by decide) (by decide)) (by decide) (by decide)
    have b_19 : 0 ≤ (G.1 0 11).toInt ∧ (G.1 0 11).toInt ≤ 1600 := hB_G.i 0 11 rfl rfl
    have g_20 : (G_12.1 0 11).toInt = (G.1 0 11).toInt := by rw [show G_12.1 0 11 = (G.1 0 11) from ((hq_13.i 0 11 (by decide) (by decide)).trans (hq_6.i 0 11 (by decide) (by decide)))]
    have b_21 : 0 ≤ (G.1 30 4).toInt ∧ (G.1 30 4).toInt ≤ 40 := hB_G.i 30 4 rfl rfl
    have g_22 : (G_12.1 30 4).toInt = (G.1 30 4).toInt := by rw [show G_12.1 30 4 = (G.1 30 4) from ((hq_13.i 30 4 (by decide) (by decide)).trans (hq_6.i 30 4 (by decide) (by decide)))]
    have b_23 : 0 ≤ (G.1 30 5).toInt ∧ (G.1 30 5).toInt ≤ 40 := hB_G.i 30 5 rfl rfl
    have g_24 : (G_12.1 30 5).toInt = (G.1 30 5).toInt := by rw [show G_12.1 30 5 = (G.1 30 5) from ((hq_13.i 30 5 (by decide) (by decide)).trans (hq_6.i 30 5 (by decide) (by decide)))]
    have b_25 : 0 ≤ (G.1 31 6).toInt ∧ (G.1 31 6).toInt ≤ 100000 := hB_G.i 31 6 rfl rfl
    have g_26 : (G_12.1 31 6).toInt = (G.1 31 6).toInt := by rw [show G_12.1 31 6 = (G.1 31 6) from ((hq_13.i 31 6 (by decide) (by decide)).trans (hq_6.i 31 6 (by decide) (by decide)))]
    have b_27 : 0 ≤ (G.1 66 1).toInt ∧ (G.1 66 1).toInt ≤ 1600 := hB_G.i 66 1 rfl rfl
    have g_28 : (G_12.1 66 1).toInt = (G.1 66 1).toInt := by rw [show G_12.1 66 1 = (G.1 66 1) from ((hq_13.i 66 1 (by decide) (by decide)).trans (hq_6.i 66 1 (by decide) (by decide)))]
    have b_29 : 0 ≤ (G.1 66 78).toInt ∧ (G.1 66 78).toInt ≤ 40 := hB_G.i 66 78 rfl rfl
    have g_30 : (G_12.1 66 78).toInt = (G.1 66 78).toInt := by rw [show G_12.1 66 78 = (G.1 66 78) from ((hq_13.i 66 78 (by decide) (by decide)).trans (hq_6.i 66 78 (by decide) (by decide)))]
    have b_31 : 0 ≤ (G.1 66 79).toInt ∧ (G.1 66 79).toInt ≤ 40 := hB_G.i 66 79 rfl rfl
    have g_32 : (G_12.1 66 79).toInt = (G.1 66 79).toInt := by rw [show G_12.1 66 79 = (G.1 66 79) from ((hq_13.i 66 79 (by decide) (by decide)).trans (hq_6.i 66 79 (by decide) (by decide)))]
    have b_33 : 0 ≤ (G.1 66 86).toInt ∧ (G.1 66 86).toInt ≤ 100000 := hB_G.i 66 86 rfl rfl
    have g_34 : (G_12.1 66 86).toInt = (G.1 66 86).toInt := by rw [show G_12.1 66 86 = (G.1 66 86) from ((hq_13.i 66 86 (by decide) (by decide)).trans (hq_6.i 66 86 (by decide) (by decide)))]
    have b_35 : 0 ≤ (G.1 96 0).toInt ∧ (G.1 96 0).toInt ≤ 9 := hB_G.i 96 0 rfl rfl
    have g_36 : (G_12.1 96 0).toInt = (G.1 96 0).toInt := by rw [show G_12.1 96 0 = (G.1 96 0) from ((hq_13.i 96 0 (by decide) (by decide)).trans (hq_6.i 96 0 (by decide) (by decide)))]
    have b_37 : 0 ≤ (G.1 96 1).toInt ∧ (G.1 96 1).toInt ≤ 9 := hB_G.i 96 1 rfl rfl
    have g_38 : (G_12.1 96 1).toInt = (G.1 96 1).toInt := by rw [show G_12.1 96 1 = (G.1 96 1) from ((hq_13.i 96 1 (by decide) (by decide)).trans (hq_6.i 96 1 (by decide) (by decide)))]
    have b_39 : 0 ≤ (G.1 96 2).toInt ∧ (G.1 96 2).toInt ≤ 9 := hB_G.i 96 2 rfl rfl
    have g_40 : (G_12.1 96 2).toInt = (G.1 96 2).toInt := by rw [show G_12.1 96 2 = (G.1 96 2) from ((hq_13.i 96 2 (by decide) (by decide)).trans (hq_6.i 96 2 (by decide) (by decide)))]
    exact K G_12 _ _ _ (Or.inl ⟨((((hq_13.r 0 0 (by decide) (by decide)).trans (hq_6.r 0 0 (by decide) (by decide)))).trans (hv_0_0)), ((((hq_13.r 0 1 (by decide) (by decide)).trans (hq_6.r 0 1 (by decide) (by decide)))).trans (hv_0_1)), ((((hq_13.r 6 4 (by decide) (by decide)).trans (hq_6.r 6 4 (by decide) (by decide)))).trans (hv_6_4)), by omega, by omega, by omega, by omega, by omega, by omega, by omega, by omega, by omega⟩) hB_G_12 hW hS (lv_sub hl [0, 1, 2, 3] rfl)
  · skip
    refine lv_aload_n hx hb dL_law_1618 rfl (lv_at hl 1 rfl) ?_
    refine lv_aload_n hx hb dL_law_1619 rfl (lv_at hl 0 rfl) ?_
    refine lv_iload_n hx hb dL_law_1620 rfl (lv_at hl 3 rfl) ?_
    refine lv_iconst (v := 1) hx hb dL_law_1621 (by decide) ?_
    refine lv_iadd hx hb dL_law_1622 ?_
    refine lv_topi (fun y_1 ey_1 => ?_)
    have ty_1 : y_1.toInt = i0.toInt + 1 := xI_add rfl rfl ey_1 (by omega) (by omega)
    refine va_sld hx hb hX hbl hbA hS (vin (by omega) (by omega)) dL_law_1623 ?_
    refine lv_topi (fun y_2 ey_2 => ?_)
    have u_3 : y_2.toInt = (xs (i0 + 1).toNatClampNeg).toInt := by rw [ey_2, ey_1]
    refine S_calli (va_runV (As := [.int y_2]) (rest := []) ⟨hx, hb, hml, hown, hts⟩ (k_Wabout_2 l D k A a z G y_2 hv_0_0 hv_0_1 hv_6_4) (cwV 1 hts (gd_V hgd m1303 m1304 m1305 m117 m1306) rfl rfl rfl (by decide +kernel) ⟨Nat.le_of_ble_eq_true rfl, Nat.le_of_ble_eq_true rfl⟩) (pre_V hW hB_G hK hZ hS kd_0 rfl) rfl rfl hl.1 rfl (lv_room (Nat.le_of_ble_eq_true rfl)) dL_law_1624 ⟨Nat.le_of_ble_eq_true rfl, Nat.le_of_ble_eq_true rfl⟩) hS (fun r_4 G_5 H locs hpo hW hS => ?_)
    obtain ⟨hB_G_5, hq_6⟩ := hpo
    refine lv_pop hx hb dL_law_1627 rfl ?_
    refine lv_aload_n hx hb dL_law_1628 rfl (lv_at hl 2 rfl) ?_
    refine lv_aload_n hx hb dL_law_1629 rfl (lv_at hl 0 rfl) ?_
    refine lv_iload_n hx hb dL_law_1630 rfl (lv_at hl 3 rfl) ?_
    refine lv_iconst (v := 1) hx hb dL_law_1631 (by decide) ?_
    refine lv_iadd hx hb dL_law_1632 ?_
    refine lv_topi (fun y_8 ey_8 => ?_)
    have ty_8 : y_8.toInt = i0.toInt + 1 := xI_add rfl rfl ey_8 (by omega) (by omega)
    refine va_sld hx hb hX hbl hbA hS (vin (by omega) (by omega)) dL_law_1633 ?_
    refine lv_topi (fun y_9 ey_9 => ?_)
    have u_10 : y_9.toInt = (xs (i0 + 1).toNatClampNeg).toInt := by rw [ey_9, ey_8]
    refine S_calli (va_runV (As := [.int y_9]) (rest := []) ⟨hx, hb, hml, hown, hts⟩ (n_about l D k A a z G_5 y_9 ) (cwV 1 hts (gd_V hgd m2077 m2078 m2079 m131 m2080) rfl rfl rfl (by decide +kernel) ⟨Nat.le_of_ble_eq_true rfl, Nat.le_of_ble_eq_true rfl⟩) (pre_V hW hB_G_5 hK hZ hS kd_66 rfl) rfl rfl hl.1 rfl (lv_room (Nat.le_of_ble_eq_true rfl)) dL_law_1634 ⟨Nat.le_of_ble_eq_true rfl, Nat.le_of_ble_eq_true rfl⟩) hS (fun r_11 G_12 H locs hpo hW hS => ?_)
    obtain ⟨hB_G_12, hq_13⟩ := hpo
    refine lv_pop hx hb dL_law_1637 rfl ?_
    refine lv_goto (tgt := 1641) hx hb dL_law_1638 (by decide) ?_
    have g_15 : gO G_12 = gO G := gO_fr (rs := []) (fs := []) ((Fr.rf.call hq_6 (by decide) (by decide)).call hq_13 (by decide) (by decide)) (by decide) (by decide)
    have g_16 : gP G_12 = gP G := gP_fr (rs := []) (fs := []) ((Fr.rf.call hq_6 (by decide) (by decide)).call hq_13 (by decide) (by decide)) (by decide) (by decide)
    have g_17 : gS G_12 = gS G := gS_fr (rs := []) (fs := []) ((Fr.rf.call hq_6 (by decide) (by decide)).call hq_13 (by decide) (by decide)) (by decide) (by decide)
    have g_18 : gW G_12 = gW G := gW_fr (rs := []) (fs := []) ((Fr.rf.call hq_6 (by decide) (by decide)).call hq_13 (by decide) (by decide)) (by decide) (by decide)
    have b_19 : 0 ≤ (G.1 0 11).toInt ∧ (G.1 0 11).toInt ≤ 1600 := hB_G.i 0 11 rfl rfl
    have g_20 : (G_12.1 0 11).toInt = (G.1 0 11).toInt := by rw [show G_12.1 0 11 = (G.1 0 11) from ((hq_13.i 0 11 (by decide) (by decide)).trans (hq_6.i 0 11 (by decide) (by decide)))]
    have b_21 : 0 ≤ (G.1 30 4).toInt ∧ (G.1 30 4).toInt ≤ 40 := hB_G.i 30 4 rfl rfl
    have g_22 : (G_12.1 30 4).toInt = (G.1 30 4).toInt := by rw [show G_12.1 30 4 = (G.1 30 4) from ((hq_13.i 30 4 (by decide) (by decide)).trans (hq_6.i 30 4 (by decide) (by decide)))]
    have b_23 : 0 ≤ (G.1 30 5).toInt ∧ (G.1 30 5).toInt ≤ 40 := hB_G.i 30 5 rfl rfl
    have g_24 : (G_12.1 30 5).toInt = (G.1 30 5).toInt := by rw [show G_12.1 30 5 = (G.1 30 5) from ((hq_13.i 30 5 (by decide) (by decide)).trans (hq_6.i 30 5 (by decide) (by decide)))]
    have b_25 : 0 ≤ (G.1 31 6).toInt ∧ (G.1 31 6).toInt ≤ 100000 := hB_G.i 31 6 rfl rfl
    have g_26 : (G_12.1 31 6).toInt = (G.1 31 6).toInt := by rw [show G_12.1 31 6 = (G.1 31 6) from ((hq_13.i 31 6 (by decide) (by decide)).trans (hq_6.i 31 6 (by decide) (by decide)))]
    have b_27 : 0 ≤ (G.1 66 1).toInt ∧ (G.1 66 1).toInt ≤ 1600 := hB_G.i 66 1 rfl rfl
    have g_28 : (G_12.1 66 1).toInt = (G.1 66 1).toInt := by rw [show G_12.1 66 1 = (G.1 66 1) from ((hq_13.i 66 1 (by decide) (by decide)).trans (hq_6.i 66 1 (by decide) (by decide)))]
    have b_29 : 0 ≤ (G.1 66 78).toInt ∧ (G.1 66 78).toInt ≤ 40 := hB_G.i 66 78 rfl rfl
    have g_30 : (G_12.1 66 78).toInt = (G.1 66 78).toInt := by rw [show G_12.1 66 78 = (G.1 66 78) from ((hq_13.i 66 78 (by decide) (by decide)).trans (hq_6.i 66 78 (by decide) (by decide)))]
    have b_31 : 0 ≤ (G.1 66 79).toInt ∧ (G.1 66 79).toInt ≤ 40 := hB_G.i 66 79 rfl rfl
    have g_32 : (G_12.1 66 79).toInt = (G.1 66 79).toInt := by rw [show G_12.1 66 79 = (G.1 66 79) from ((hq_13.i 66 79 (by decide) (by decide)).trans (hq_6.i 66 79 (by decide) (by decide)))]
    have b_33 : 0 ≤ (G.1 66 86).toInt ∧ (G.1 66 86).toInt ≤ 100000 := hB_G.i 66 86 rfl rfl
    have g_34 : (G_12.1 66 86).toInt = (G.1 66 86).toInt := by rw [show G_12.1 66 86 = (G.1 66 86) from ((hq_13.i 66 86 (by decide) (by decide)).trans (hq_6.i 66 86 (by decide) (by decide)))]
    have b_35 : 0 ≤ (G.1 96 0).toInt ∧ (G.1 96 0).toInt ≤ 9 := hB_G.i 96 0 rfl rfl
    have g_36 : (G_12.1 96 0).toInt = (G.1 96 0).toInt := by rw [show G_12.1 96 0 = (G.1 96 0) from ((hq_13.i 96 0 (by decide) (by decide)).trans (hq_6.i 96 0 (by decide) (by decide)))]
    have b_37 : 0 ≤ (G.1 96 1).toInt ∧ (G.1 96 1).toInt ≤ 9 := hB_G.i 96 1 rfl rfl
    have g_38 : (G_12.1 96 1).toInt = (G.1 96 1).toInt := by rw [show G_12.1 96 1 = (G.1 96 1) from ((hq_13.i 96 1 (by decide) (by decide)).trans (hq_6.i 96 1 (by decide) (by decide)))]
    have b_39 : 0 ≤ (G.1 96 2).toInt ∧ (G.1 96 2).toInt ≤ 9 := hB_G.i 96 2 rfl rfl
    have g_40 : (G_12.1 96 2).toInt = (G.1 96 2).toInt := by rw [show G_12.1 96 2 = (G.1 96 2) from ((hq_13.i 96 2 (by decide) (by decide)).trans (hq_6.i 96 2 (by decide) (by decide)))]
    exact K G_12 _ _ _ (Or.inr ⟨((((hq_13.r 0 0 (by decide) (by decide)).trans (hq_6.r 0 0 (by decide) (by decide)))).trans (hv_0_0)), ((((hq_13.r 0 1 (by decide) (by decide)).trans (hq_6.r 0 1 (by decide) (by decide)))).trans (hv_0_1)), ((((hq_13.r 6 4 (by decide) (by decide)).trans (hq_6.r 6 4 (by decide) (by decide)))).trans (hv_6_4)), by omega, by omega, by omega, by omega, by omega, by omega, by omega, by omega, by omega⟩) hB_G_12 hW hS (lv_sub hl [0, 1, 2, 3] rfl)
