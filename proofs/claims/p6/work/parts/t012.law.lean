set_option maxHeartbeats 4000000 in
set_option maxRecDepth 100000 in
theorem law_23 {p : Program} {l : Launch} {e : Env} {s : State} {m : MethodId} {below : List Frame} {meth : Method} {c : Code} {D : va_G} {k : KT} {A : Nat → Prop} {a : Nat → Nat} {z : SK} {b L : Nat} {xs : Nat → Int32} (hL : L ≤ 3072) (C0 : lw_At p s m meth c b L xs) (hK : cK D k s) (hZ : Sx A z s) (hbA : ¬ A b) {G : GS} {i0 : Int32} (hi0 : 0 ≤ i0.toInt) (hi6 : i0.toInt + 6 ≤ L) (hI : LI G) (hB_G : Bd G) {H : Heap} {locs : List Loc} {ls : Array Slot} (hW : Wd D k A a G H) (hS : va_S A s.heap H locs) (hl : lv_has ls 4 [(0, .ref b), (1, .ref (a 0)), (2, .ref (a 66)), (3, .int i0)]) (K : ∀ (G1 : GS) (H1 : Heap) (locs1 : List Loc) (ls1 : Array Slot), LI G1 → Bd G1 → Wd D k A a G1 H1 → va_S A s.heap H1 locs1 → lv_has ls1 4 [(0, .ref b), (1, .ref (a 0)), (2, .ref (a 66)), (3, .int i0)] → W p l e room_1 s m #[Value.ref b] below meth c H1 locs1 119 46443 (lw_Z below #[Value.ref b] s) (F0 m 1641 ls1 [])) : W p l e room_1 s m #[Value.ref b] below meth c H locs 119 46443 (lw_Z below #[Value.ref b] s) (F0 m 1273 ls []) := by
  obtain ⟨hx, hb, hr, hml, hown, hts, hX, hbl, hlocks, hgv⟩ := id C0
  have hown : s.vm.findClass RL = some m.cls := hown
  have hgd : ∀ w ∈ gd, w ∈ lw_tbl := fun w h => (List.mem_filter.mp h).1
  have hg : ∀ w ∈ gd, w.before #[Value.ref b] s = true := fun w h => hts w (hgd w h)
  rcases hI with ⟨hv_0_0, hv_0_1, hv_6_4, hj0, hj1, hj2, hj3, hj4, hj5, hj6, hj7, hj8, hj9, hj10, hj11⟩ | ⟨hv_0_0, hv_0_1, hv_6_4, hj0, hj1, hj2, hj3, hj4, hj5, hj6, hj7, hj8, hj9, hj10, hj11⟩
  · skip
    refine lv_aload_n hx hb dL_law_1273 rfl (lv_at hl 1 rfl) ?_
    refine lv_aload_n hx hb dL_law_1274 rfl (lv_at hl 0 rfl) ?_
    refine lv_iload_n hx hb dL_law_1275 rfl (lv_at hl 3 rfl) ?_
    refine lv_iconst (v := 1) hx hb dL_law_1276 (by decide) ?_
    refine lv_iadd hx hb dL_law_1277 ?_
    refine lv_topi (fun y_1 ey_1 => ?_)
    have ty_1 : y_1.toInt = i0.toInt + 1 := xI_add rfl rfl ey_1 (by omega) (by omega)
    refine va_sld hx hb hX hbl hbA hS (vin (by omega) (by omega)) dL_law_1278 ?_
    refine lv_topi (fun y_2 ey_2 => ?_)
    have u_3 : y_2.toInt = (xs (i0 + 1).toNatClampNeg).toInt := by rw [ey_2, ey_1]
    have b_4 : 0 ≤ (G.1 30 4).toInt ∧ (G.1 30 4).toInt ≤ 40 := hB_G.i 30 4 rfl rfl
    have b_5 : 0 ≤ (G.1 30 5).toInt ∧ (G.1 30 5).toInt ≤ 40 := hB_G.i 30 5 rfl rfl
    refine S_calli (va_runV (As := [.int y_2]) (rest := []) ⟨hx, hb, hml, hown, hts⟩ (k_Wgo_1 l D k A a z G y_2 hv_0_0 hv_0_1 hv_6_4 (by omega)) (cwV 1 hts (gd_V hgd m1182 m1183 m1184 m117 m1185) rfl rfl rfl (by decide +kernel) ⟨Nat.le_of_ble_eq_true rfl, Nat.le_of_ble_eq_true rfl⟩) (pre_V hW hB_G hK hZ hS kd_0 rfl) rfl rfl hl.1 rfl (lv_room (Nat.le_of_ble_eq_true rfl)) dL_law_1279 ⟨Nat.le_of_ble_eq_true rfl, Nat.le_of_ble_eq_true rfl⟩) hS (fun r_6 G_7 H locs hpo hW hS => ?_)
    have hX_10 : P_Wgo_1 y_2 G r_6 G_7 := hpo
    obtain ⟨hB_G_7, hq_8, hp_9, -⟩ := hpo
    refine lv_pop hx hb dL_law_1282 rfl ?_
    refine lv_aload_n hx hb dL_law_1283 rfl (lv_at hl 2 rfl) ?_
    refine lv_aload_n hx hb dL_law_1284 rfl (lv_at hl 0 rfl) ?_
    refine lv_iload_n hx hb dL_law_1285 rfl (lv_at hl 3 rfl) ?_
    refine lv_iconst (v := 1) hx hb dL_law_1286 (by decide) ?_
    refine lv_iadd hx hb dL_law_1287 ?_
    refine lv_topi (fun y_11 ey_11 => ?_)
    have ty_11 : y_11.toInt = i0.toInt + 1 := xI_add rfl rfl ey_11 (by omega) (by omega)
    refine va_sld hx hb hX hbl hbA hS (vin (by omega) (by omega)) dL_law_1288 ?_
    refine lv_topi (fun y_12 ey_12 => ?_)
    have u_13 : y_12.toInt = (xs (i0 + 1).toNatClampNeg).toInt := by rw [ey_12, ey_11]
    have g_14 : gP G_7 = gP G := gP_fr (rs := [37, 38, 39, 58, 59]) (fs := [(6, 3), (30, 4), (30, 5)]) (Fr.rf.call hq_8 (by decide) (by decide)) (by decide) (by decide)
    have b_15 : 0 ≤ (G.1 66 78).toInt ∧ (G.1 66 78).toInt ≤ 40 := hB_G.i 66 78 rfl rfl
    have g_16 : (G_7.1 66 78).toInt = (G.1 66 78).toInt := by rw [show G_7.1 66 78 = (G.1 66 78) from (hq_8.i 66 78 (by decide) (by decide))]
    have b_17 : 0 ≤ (G.1 66 79).toInt ∧ (G.1 66 79).toInt ≤ 40 := hB_G.i 66 79 rfl rfl
    have g_18 : (G_7.1 66 79).toInt = (G.1 66 79).toInt := by rw [show G_7.1 66 79 = (G.1 66 79) from (hq_8.i 66 79 (by decide) (by decide))]
    have b_19 : 0 ≤ (G.1 96 0).toInt ∧ (G.1 96 0).toInt ≤ 9 := hB_G.i 96 0 rfl rfl
    have g_20 : (G_7.1 96 0).toInt = (G.1 96 0).toInt := by rw [show G_7.1 96 0 = (G.1 96 0) from (hq_8.i 96 0 (by decide) (by decide))]
    have b_21 : 0 ≤ (G.1 96 1).toInt ∧ (G.1 96 1).toInt ≤ 9 := hB_G.i 96 1 rfl rfl
    have g_22 : (G_7.1 96 1).toInt = (G.1 96 1).toInt := by rw [show G_7.1 96 1 = (G.1 96 1) from (hq_8.i 96 1 (by decide) (by decide))]
    have b_23 : 0 ≤ (G.1 96 2).toInt ∧ (G.1 96 2).toInt ≤ 9 := hB_G.i 96 2 rfl rfl
    have g_24 : (G_7.1 96 2).toInt = (G.1 96 2).toInt := by rw [show G_7.1 96 2 = (G.1 96 2) from (hq_8.i 96 2 (by decide) (by decide))]
    refine S_calli (va_runV (As := [.int y_12]) (rest := []) ⟨hx, hb, hml, hown, hts⟩ (n_go l D k A a z G_7 y_12 (by omega) (by omega) (by omega)) (cwV 1 hts (gd_V hgd m1999 m2000 m2001 m131 m2002) rfl rfl rfl (by decide +kernel) ⟨Nat.le_of_ble_eq_true rfl, Nat.le_of_ble_eq_true rfl⟩) (pre_V hW hB_G_7 hK hZ hS kd_66 rfl) rfl rfl hl.1 rfl (lv_room (Nat.le_of_ble_eq_true rfl)) dL_law_1289 ⟨Nat.le_of_ble_eq_true rfl, Nat.le_of_ble_eq_true rfl⟩) hS (fun r_25 G_26 H locs hpo hW hS => ?_)
    have hX_29 : Q_go y_12 G_7 r_25 G_26 := hpo
    obtain ⟨hB_G_26, hq_27, hp_28, -⟩ := hpo
    obtain ⟨u_30, u_31⟩ := L_go_1 hX_10 hX_29 (by omega) (by omega) (by omega)
    refine lv_pop hx hb dL_law_1292 rfl ?_
    refine lv_goto (tgt := 1641) hx hb dL_law_1293 (by decide) ?_
    have g_32 : gO G_26 = gO G := gO_fr (rs := [37, 38, 39, 58, 59, 76, 97, 98, 110, 111]) (fs := [(6, 3), (30, 4), (30, 5), (66, 59), (66, 60), (66, 61), (66, 62), (66, 63), (66, 78), (66, 79)]) ((Fr.rf.call hq_8 (by decide) (by decide)).call hq_27 (by decide) (by decide)) (by decide) (by decide)
    have g_33 : gP G_26 = gP G := gP_fr (rs := [37, 38, 39, 58, 59, 76, 97, 98, 110, 111]) (fs := [(6, 3), (30, 4), (30, 5), (66, 59), (66, 60), (66, 61), (66, 62), (66, 63), (66, 78), (66, 79)]) ((Fr.rf.call hq_8 (by decide) (by decide)).call hq_27 (by decide) (by decide)) (by decide) (by decide)
    have g_34 : gS G_26 = gS G := gS_fr (rs := [37, 38, 39, 58, 59, 76, 97, 98, 110, 111]) (fs := [(6, 3), (30, 4), (30, 5), (66, 59), (66, 60), (66, 61), (66, 62), (66, 63), (66, 78), (66, 79)]) ((Fr.rf.call hq_8 (by decide) (by decide)).call hq_27 (by decide) (by decide)) (by decide) (by decide)
    have g_35 : gTE G_26 = gTE G := gTE_fr (rs := [37, 38, 39, 58, 59, 76, 97, 98, 110, 111]) (fs := [(6, 3), (30, 4), (30, 5), (66, 59), (66, 60), (66, 61), (66, 62), (66, 63), (66, 78), (66, 79)]) ((Fr.rf.call hq_8 (by decide) (by decide)).call hq_27 (by decide) (by decide)) (by decide) (by decide)
    have g_36 : gW G_26 = gW G := gW_fr (rs := [37, 38, 39, 58, 59, 76, 97, 98, 110, 111]) (fs := [(6, 3), (30, 4), (30, 5), (66, 59), (66, 60), (66, 61), (66, 62), (66, 63), (66, 78), (66, 79)]) ((Fr.rf.call hq_8 (by decide) (by decide)).call hq_27 (by decide) (by decide)) (by decide) (by decide)
    have b_37 : 0 ≤ (G.1 0 11).toInt ∧ (G.1 0 11).toInt ≤ 1600 := hB_G.i 0 11 rfl rfl
    have g_38 : (G_26.1 0 11).toInt = (G.1 0 11).toInt := by rw [show G_26.1 0 11 = (G.1 0 11) from ((hq_27.i 0 11 (by decide) (by decide)).trans (hq_8.i 0 11 (by decide) (by decide)))]
    have b_39 : 0 ≤ (G.1 3 7).toInt ∧ (G.1 3 7).toInt ≤ 4 := hB_G.i 3 7 rfl rfl
    have g_40 : (G_26.1 3 7).toInt = (G.1 3 7).toInt := by rw [show G_26.1 3 7 = (G.1 3 7) from ((hq_27.i 3 7 (by decide) (by decide)).trans (hq_8.i 3 7 (by decide) (by decide)))]
    have b_41 : (-1) ≤ (G.1 3 8).toInt ∧ (G.1 3 8).toInt ≤ 1600 := hB_G.i 3 8 rfl rfl
    have g_42 : (G_26.1 3 8).toInt = (G.1 3 8).toInt := by rw [show G_26.1 3 8 = (G.1 3 8) from ((hq_27.i 3 8 (by decide) (by decide)).trans (hq_8.i 3 8 (by decide) (by decide)))]
    have b_43 : 0 ≤ (G_7.1 30 4).toInt ∧ (G_7.1 30 4).toInt ≤ 40 := hB_G_7.i 30 4 rfl rfl
    have g_44 : (G_26.1 30 4).toInt = (G_7.1 30 4).toInt := by rw [show G_26.1 30 4 = (G_7.1 30 4) from (hq_27.i 30 4 (by decide) (by decide))]
    have b_45 : 0 ≤ (G_7.1 30 5).toInt ∧ (G_7.1 30 5).toInt ≤ 40 := hB_G_7.i 30 5 rfl rfl
    have g_46 : (G_26.1 30 5).toInt = (G_7.1 30 5).toInt := by rw [show G_26.1 30 5 = (G_7.1 30 5) from (hq_27.i 30 5 (by decide) (by decide))]
    have b_47 : 0 ≤ (G.1 31 6).toInt ∧ (G.1 31 6).toInt ≤ 100000 := hB_G.i 31 6 rfl rfl
    have g_48 : (G_26.1 31 6).toInt = (G.1 31 6).toInt := by rw [show G_26.1 31 6 = (G.1 31 6) from ((hq_27.i 31 6 (by decide) (by decide)).trans (hq_8.i 31 6 (by decide) (by decide)))]
    have b_49 : 0 ≤ (G.1 66 1).toInt ∧ (G.1 66 1).toInt ≤ 1600 := hB_G.i 66 1 rfl rfl
    have g_50 : (G_26.1 66 1).toInt = (G.1 66 1).toInt := by rw [show G_26.1 66 1 = (G.1 66 1) from ((hq_27.i 66 1 (by decide) (by decide)).trans (hq_8.i 66 1 (by decide) (by decide)))]
    have b_51 : 0 ≤ (G.1 66 2).toInt ∧ (G.1 66 2).toInt ≤ 4 := hB_G.i 66 2 rfl rfl
    have g_52 : (G_26.1 66 2).toInt = (G.1 66 2).toInt := by rw [show G_26.1 66 2 = (G.1 66 2) from ((hq_27.i 66 2 (by decide) (by decide)).trans (hq_8.i 66 2 (by decide) (by decide)))]
    have b_53 : (-1) ≤ (G.1 66 3).toInt ∧ (G.1 66 3).toInt ≤ 1600 := hB_G.i 66 3 rfl rfl
    have g_54 : (G_26.1 66 3).toInt = (G.1 66 3).toInt := by rw [show G_26.1 66 3 = (G.1 66 3) from ((hq_27.i 66 3 (by decide) (by decide)).trans (hq_8.i 66 3 (by decide) (by decide)))]
    have b_55 : 0 ≤ (G_26.1 66 78).toInt ∧ (G_26.1 66 78).toInt ≤ 40 := hB_G_26.i 66 78 rfl rfl
    have b_56 : 0 ≤ (G_26.1 66 79).toInt ∧ (G_26.1 66 79).toInt ≤ 40 := hB_G_26.i 66 79 rfl rfl
    have b_57 : 0 ≤ (G.1 66 86).toInt ∧ (G.1 66 86).toInt ≤ 100000 := hB_G.i 66 86 rfl rfl
    have g_58 : (G_26.1 66 86).toInt = (G.1 66 86).toInt := by rw [show G_26.1 66 86 = (G.1 66 86) from ((hq_27.i 66 86 (by decide) (by decide)).trans (hq_8.i 66 86 (by decide) (by decide)))]
    have g_59 : (G_26.1 96 0).toInt = (G.1 96 0).toInt := by rw [show G_26.1 96 0 = (G.1 96 0) from ((hq_27.i 96 0 (by decide) (by decide)).trans ((hq_8.i 96 0 (by decide) (by decide)).trans (rfl)))]
    have g_60 : (G_26.1 96 1).toInt = (G.1 96 1).toInt := by rw [show G_26.1 96 1 = (G.1 96 1) from ((hq_27.i 96 1 (by decide) (by decide)).trans ((hq_8.i 96 1 (by decide) (by decide)).trans (rfl)))]
    have g_61 : (G_26.1 96 2).toInt = (G.1 96 2).toInt := by rw [show G_26.1 96 2 = (G.1 96 2) from ((hq_27.i 96 2 (by decide) (by decide)).trans ((hq_8.i 96 2 (by decide) (by decide)).trans (rfl)))]
    exact K G_26 _ _ _ (Or.inl ⟨((((hq_27.r 0 0 (by decide) (by decide)).trans (hq_8.r 0 0 (by decide) (by decide)))).trans (hv_0_0)), ((((hq_27.r 0 1 (by decide) (by decide)).trans (hq_8.r 0 1 (by decide) (by decide)))).trans (hv_0_1)), ((((hq_27.r 6 4 (by decide) (by decide)).trans (hq_8.r 6 4 (by decide) (by decide)))).trans (hv_6_4)), by omega, by omega, by omega, by omega, by omega, by omega, by omega, by omega, by omega, by omega, by omega, by omega, by omega⟩) hB_G_26 hW hS (lv_sub hl [0, 1, 2, 3] rfl)
  · skip
    refine lv_aload_n hx hb dL_law_1273 rfl (lv_at hl 1 rfl) ?_
    refine lv_aload_n hx hb dL_law_1274 rfl (lv_at hl 0 rfl) ?_
    refine lv_iload_n hx hb dL_law_1275 rfl (lv_at hl 3 rfl) ?_
    refine lv_iconst (v := 1) hx hb dL_law_1276 (by decide) ?_
    refine lv_iadd hx hb dL_law_1277 ?_
    refine lv_topi (fun y_1 ey_1 => ?_)
    have ty_1 : y_1.toInt = i0.toInt + 1 := xI_add rfl rfl ey_1 (by omega) (by omega)
    refine va_sld hx hb hX hbl hbA hS (vin (by omega) (by omega)) dL_law_1278 ?_
    refine lv_topi (fun y_2 ey_2 => ?_)
    have u_3 : y_2.toInt = (xs (i0 + 1).toNatClampNeg).toInt := by rw [ey_2, ey_1]
    have b_4 : 0 ≤ (G.1 30 4).toInt ∧ (G.1 30 4).toInt ≤ 40 := hB_G.i 30 4 rfl rfl
    have b_5 : 0 ≤ (G.1 30 5).toInt ∧ (G.1 30 5).toInt ≤ 40 := hB_G.i 30 5 rfl rfl
    refine S_calli (va_runV (As := [.int y_2]) (rest := []) ⟨hx, hb, hml, hown, hts⟩ (k_Wgo_2 l D k A a z G y_2 hv_0_0 hv_0_1 hv_6_4 (by omega)) (cwV 1 hts (gd_V hgd m1182 m1183 m1184 m117 m1185) rfl rfl rfl (by decide +kernel) ⟨Nat.le_of_ble_eq_true rfl, Nat.le_of_ble_eq_true rfl⟩) (pre_V hW hB_G hK hZ hS kd_0 rfl) rfl rfl hl.1 rfl (lv_room (Nat.le_of_ble_eq_true rfl)) dL_law_1279 ⟨Nat.le_of_ble_eq_true rfl, Nat.le_of_ble_eq_true rfl⟩) hS (fun r_6 G_7 H locs hpo hW hS => ?_)
    have hX_10 : P_Wgo_2 y_2 G r_6 G_7 := hpo
    obtain ⟨hB_G_7, hq_8, hp_9, -⟩ := hpo
    refine lv_pop hx hb dL_law_1282 rfl ?_
    refine lv_aload_n hx hb dL_law_1283 rfl (lv_at hl 2 rfl) ?_
    refine lv_aload_n hx hb dL_law_1284 rfl (lv_at hl 0 rfl) ?_
    refine lv_iload_n hx hb dL_law_1285 rfl (lv_at hl 3 rfl) ?_
    refine lv_iconst (v := 1) hx hb dL_law_1286 (by decide) ?_
    refine lv_iadd hx hb dL_law_1287 ?_
    refine lv_topi (fun y_11 ey_11 => ?_)
    have ty_11 : y_11.toInt = i0.toInt + 1 := xI_add rfl rfl ey_11 (by omega) (by omega)
    refine va_sld hx hb hX hbl hbA hS (vin (by omega) (by omega)) dL_law_1288 ?_
    refine lv_topi (fun y_12 ey_12 => ?_)
    have u_13 : y_12.toInt = (xs (i0 + 1).toNatClampNeg).toInt := by rw [ey_12, ey_11]
    have g_14 : gP G_7 = gP G := gP_fr (rs := [37, 38, 39, 58, 59]) (fs := [(6, 3), (30, 4), (30, 5)]) (Fr.rf.call hq_8 (by decide) (by decide)) (by decide) (by decide)
    have b_15 : 0 ≤ (G.1 66 78).toInt ∧ (G.1 66 78).toInt ≤ 40 := hB_G.i 66 78 rfl rfl
    have g_16 : (G_7.1 66 78).toInt = (G.1 66 78).toInt := by rw [show G_7.1 66 78 = (G.1 66 78) from (hq_8.i 66 78 (by decide) (by decide))]
    have b_17 : 0 ≤ (G.1 66 79).toInt ∧ (G.1 66 79).toInt ≤ 40 := hB_G.i 66 79 rfl rfl
    have g_18 : (G_7.1 66 79).toInt = (G.1 66 79).toInt := by rw [show G_7.1 66 79 = (G.1 66 79) from (hq_8.i 66 79 (by decide) (by decide))]
    have b_19 : 0 ≤ (G.1 96 0).toInt ∧ (G.1 96 0).toInt ≤ 9 := hB_G.i 96 0 rfl rfl
    have g_20 : (G_7.1 96 0).toInt = (G.1 96 0).toInt := by rw [show G_7.1 96 0 = (G.1 96 0) from (hq_8.i 96 0 (by decide) (by decide))]
    have b_21 : 0 ≤ (G.1 96 1).toInt ∧ (G.1 96 1).toInt ≤ 9 := hB_G.i 96 1 rfl rfl
    have g_22 : (G_7.1 96 1).toInt = (G.1 96 1).toInt := by rw [show G_7.1 96 1 = (G.1 96 1) from (hq_8.i 96 1 (by decide) (by decide))]
    have b_23 : 0 ≤ (G.1 96 2).toInt ∧ (G.1 96 2).toInt ≤ 9 := hB_G.i 96 2 rfl rfl
    have g_24 : (G_7.1 96 2).toInt = (G.1 96 2).toInt := by rw [show G_7.1 96 2 = (G.1 96 2) from (hq_8.i 96 2 (by decide) (by decide))]
    refine S_calli (va_runV (As := [.int y_12]) (rest := []) ⟨hx, hb, hml, hown, hts⟩ (n_go l D k A a z G_7 y_12 (by omega) (by omega) (by omega)) (cwV 1 hts (gd_V hgd m1999 m2000 m2001 m131 m2002) rfl rfl rfl (by decide +kernel) ⟨Nat.le_of_ble_eq_true rfl, Nat.le_of_ble_eq_true rfl⟩) (pre_V hW hB_G_7 hK hZ hS kd_66 rfl) rfl rfl hl.1 rfl (lv_room (Nat.le_of_ble_eq_true rfl)) dL_law_1289 ⟨Nat.le_of_ble_eq_true rfl, Nat.le_of_ble_eq_true rfl⟩) hS (fun r_25 G_26 H locs hpo hW hS => ?_)
    have hX_29 : Q_go y_12 G_7 r_25 G_26 := hpo
    obtain ⟨hB_G_26, hq_27, hp_28, -⟩ := hpo
    obtain ⟨u_30, u_31⟩ := L_go_2 hX_10 hX_29 (by omega) (by omega) (by omega)
    refine lv_pop hx hb dL_law_1292 rfl ?_
    refine lv_goto (tgt := 1641) hx hb dL_law_1293 (by decide) ?_
    have g_32 : gO G_26 = gO G := gO_fr (rs := [37, 38, 39, 58, 59, 76, 97, 98, 110, 111]) (fs := [(6, 3), (30, 4), (30, 5), (66, 59), (66, 60), (66, 61), (66, 62), (66, 63), (66, 78), (66, 79)]) ((Fr.rf.call hq_8 (by decide) (by decide)).call hq_27 (by decide) (by decide)) (by decide) (by decide)
    have g_33 : gP G_26 = gP G := gP_fr (rs := [37, 38, 39, 58, 59, 76, 97, 98, 110, 111]) (fs := [(6, 3), (30, 4), (30, 5), (66, 59), (66, 60), (66, 61), (66, 62), (66, 63), (66, 78), (66, 79)]) ((Fr.rf.call hq_8 (by decide) (by decide)).call hq_27 (by decide) (by decide)) (by decide) (by decide)
    have g_34 : gS G_26 = gS G := gS_fr (rs := [37, 38, 39, 58, 59, 76, 97, 98, 110, 111]) (fs := [(6, 3), (30, 4), (30, 5), (66, 59), (66, 60), (66, 61), (66, 62), (66, 63), (66, 78), (66, 79)]) ((Fr.rf.call hq_8 (by decide) (by decide)).call hq_27 (by decide) (by decide)) (by decide) (by decide)
    have g_35 : gTE G_26 = gTE G := gTE_fr (rs := [37, 38, 39, 58, 59, 76, 97, 98, 110, 111]) (fs := [(6, 3), (30, 4), (30, 5), (66, 59), (66, 60), (66, 61), (66, 62), (66, 63), (66, 78), (66, 79)]) ((Fr.rf.call hq_8 (by decide) (by decide)).call hq_27 (by decide) (by decide)) (by decide) (by decide)
    have g_36 : gW G_26 = gW G := gW_fr (rs := [37, 38, 39, 58, 59, 76, 97, 98, 110, 111]) (fs := [(6, 3), (30, 4), (30, 5), (66, 59), (66, 60), (66, 61), (66, 62), (66, 63), (66, 78), (66, 79)]) ((Fr.rf.call hq_8 (by decide) (by decide)).call hq_27 (by decide) (by decide)) (by decide) (by decide)
    have b_37 : 0 ≤ (G.1 0 11).toInt ∧ (G.1 0 11).toInt ≤ 1600 := hB_G.i 0 11 rfl rfl
    have g_38 : (G_26.1 0 11).toInt = (G.1 0 11).toInt := by rw [show G_26.1 0 11 = (G.1 0 11) from ((hq_27.i 0 11 (by decide) (by decide)).trans (hq_8.i 0 11 (by decide) (by decide)))]
    have b_39 : 0 ≤ (G.1 3 7).toInt ∧ (G.1 3 7).toInt ≤ 4 := hB_G.i 3 7 rfl rfl
    have g_40 : (G_26.1 3 7).toInt = (G.1 3 7).toInt := by rw [show G_26.1 3 7 = (G.1 3 7) from ((hq_27.i 3 7 (by decide) (by decide)).trans (hq_8.i 3 7 (by decide) (by decide)))]
    have b_41 : (-1) ≤ (G.1 3 8).toInt ∧ (G.1 3 8).toInt ≤ 1600 := hB_G.i 3 8 rfl rfl
    have g_42 : (G_26.1 3 8).toInt = (G.1 3 8).toInt := by rw [show G_26.1 3 8 = (G.1 3 8) from ((hq_27.i 3 8 (by decide) (by decide)).trans (hq_8.i 3 8 (by decide) (by decide)))]
    have b_43 : 0 ≤ (G_7.1 30 4).toInt ∧ (G_7.1 30 4).toInt ≤ 40 := hB_G_7.i 30 4 rfl rfl
    have g_44 : (G_26.1 30 4).toInt = (G_7.1 30 4).toInt := by rw [show G_26.1 30 4 = (G_7.1 30 4) from (hq_27.i 30 4 (by decide) (by decide))]
    have b_45 : 0 ≤ (G_7.1 30 5).toInt ∧ (G_7.1 30 5).toInt ≤ 40 := hB_G_7.i 30 5 rfl rfl
    have g_46 : (G_26.1 30 5).toInt = (G_7.1 30 5).toInt := by rw [show G_26.1 30 5 = (G_7.1 30 5) from (hq_27.i 30 5 (by decide) (by decide))]
    have b_47 : 0 ≤ (G.1 31 6).toInt ∧ (G.1 31 6).toInt ≤ 100000 := hB_G.i 31 6 rfl rfl
    have g_48 : (G_26.1 31 6).toInt = (G.1 31 6).toInt := by rw [show G_26.1 31 6 = (G.1 31 6) from ((hq_27.i 31 6 (by decide) (by decide)).trans (hq_8.i 31 6 (by decide) (by decide)))]
    have b_49 : 0 ≤ (G.1 66 1).toInt ∧ (G.1 66 1).toInt ≤ 1600 := hB_G.i 66 1 rfl rfl
    have g_50 : (G_26.1 66 1).toInt = (G.1 66 1).toInt := by rw [show G_26.1 66 1 = (G.1 66 1) from ((hq_27.i 66 1 (by decide) (by decide)).trans (hq_8.i 66 1 (by decide) (by decide)))]
    have b_51 : 0 ≤ (G.1 66 2).toInt ∧ (G.1 66 2).toInt ≤ 4 := hB_G.i 66 2 rfl rfl
    have g_52 : (G_26.1 66 2).toInt = (G.1 66 2).toInt := by rw [show G_26.1 66 2 = (G.1 66 2) from ((hq_27.i 66 2 (by decide) (by decide)).trans (hq_8.i 66 2 (by decide) (by decide)))]
    have b_53 : (-1) ≤ (G.1 66 3).toInt ∧ (G.1 66 3).toInt ≤ 1600 := hB_G.i 66 3 rfl rfl
    have g_54 : (G_26.1 66 3).toInt = (G.1 66 3).toInt := by rw [show G_26.1 66 3 = (G.1 66 3) from ((hq_27.i 66 3 (by decide) (by decide)).trans (hq_8.i 66 3 (by decide) (by decide)))]
    have b_55 : 0 ≤ (G_26.1 66 78).toInt ∧ (G_26.1 66 78).toInt ≤ 40 := hB_G_26.i 66 78 rfl rfl
    have b_56 : 0 ≤ (G_26.1 66 79).toInt ∧ (G_26.1 66 79).toInt ≤ 40 := hB_G_26.i 66 79 rfl rfl
    have b_57 : 0 ≤ (G.1 66 86).toInt ∧ (G.1 66 86).toInt ≤ 100000 := hB_G.i 66 86 rfl rfl
    have g_58 : (G_26.1 66 86).toInt = (G.1 66 86).toInt := by rw [show G_26.1 66 86 = (G.1 66 86) from ((hq_27.i 66 86 (by decide) (by decide)).trans (hq_8.i 66 86 (by decide) (by decide)))]
    have g_59 : (G_26.1 96 0).toInt = (G.1 96 0).toInt := by rw [show G_26.1 96 0 = (G.1 96 0) from ((hq_27.i 96 0 (by decide) (by decide)).trans ((hq_8.i 96 0 (by decide) (by decide)).trans (rfl)))]
    have g_60 : (G_26.1 96 1).toInt = (G.1 96 1).toInt := by rw [show G_26.1 96 1 = (G.1 96 1) from ((hq_27.i 96 1 (by decide) (by decide)).trans ((hq_8.i 96 1 (by decide) (by decide)).trans (rfl)))]
    have g_61 : (G_26.1 96 2).toInt = (G.1 96 2).toInt := by rw [show G_26.1 96 2 = (G.1 96 2) from ((hq_27.i 96 2 (by decide) (by decide)).trans ((hq_8.i 96 2 (by decide) (by decide)).trans (rfl)))]
    exact K G_26 _ _ _ (Or.inr ⟨((((hq_27.r 0 0 (by decide) (by decide)).trans (hq_8.r 0 0 (by decide) (by decide)))).trans (hv_0_0)), ((((hq_27.r 0 1 (by decide) (by decide)).trans (hq_8.r 0 1 (by decide) (by decide)))).trans (hv_0_1)), ((((hq_27.r 6 4 (by decide) (by decide)).trans (hq_8.r 6 4 (by decide) (by decide)))).trans (hv_6_4)), by omega, by omega, by omega, by omega, by omega, by omega, by omega, by omega, by omega, by omega, by omega, by omega, by omega⟩) hB_G_26 hW hS (lv_sub hl [0, 1, 2, 3] rfl)
