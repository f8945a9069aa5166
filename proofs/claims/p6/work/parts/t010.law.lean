set_option maxHeartbeats 4000000 in
set_option maxRecDepth 100000 in
theorem law_2 {p : Program} {l : Launch} {e : Env} {s : State} {m : MethodId} {below : List Frame} {meth : Method} {c : Code} {D : va_G} {k : KT} {A : Nat → Prop} {a : Nat → Nat} {z : SK} {b L : Nat} {xs : Nat → Int32} (hL : L ≤ 3072) (C0 : lw_At p s m meth c b L xs) (hK : cK D k s) (hZ : Sx A z s) (hbA : ¬ A b) {G : GS} {i0 : Int32} (hi0 : 0 ≤ i0.toInt) (hi6 : i0.toInt + 6 ≤ L) (hI : LI G) (hB_G : Bd G) {H : Heap} {locs : List Loc} {ls : Array Slot} (hW : Wd D k A a G H) (hS : va_S A s.heap H locs) (hl : lv_has ls 4 [(0, .ref b), (1, .ref (a 0)), (2, .ref (a 66)), (3, .int i0)]) (K : ∀ (G1 : GS) (H1 : Heap) (locs1 : List Loc) (ls1 : Array Slot), LI G1 → Bd G1 → Wd D k A a G1 H1 → va_S A s.heap H1 locs1 → lv_has ls1 4 [(0, .ref b), (1, .ref (a 0)), (2, .ref (a 66)), (3, .int i0)] → W p l e room_1 s m #[Value.ref b] below meth c H1 locs1 119 46443 (lw_Z below #[Value.ref b] s) (F0 m 1641 ls1 [])) : W p l e room_1 s m #[Value.ref b] below meth c H locs 119 46443 (lw_Z below #[Value.ref b] s) (F0 m 290 ls []) := by
  obtain ⟨hx, hb, hr, hml, hown, hts, hX, hbl, hlocks, hgv⟩ := id C0
  have hown : s.vm.findClass RL = some m.cls := hown
  have hgd : ∀ w ∈ gd, w ∈ lw_tbl := fun w h => (List.mem_filter.mp h).1
  have hg : ∀ w ∈ gd, w.before #[Value.ref b] s = true := fun w h => hts w (hgd w h)
  rcases hI with ⟨hv_0_0, hv_0_1, hv_6_4, hj0, hj1, hj2, hj3, hj4, hj5, hj6, hj7, hj8, hj9, hj10, hj11⟩ | ⟨hv_0_0, hv_0_1, hv_6_4, hj0, hj1, hj2, hj3, hj4, hj5, hj6, hj7, hj8, hj9, hj10, hj11⟩
  · skip
    refine lv_aload_n hx hb dL_law_290 rfl (lv_at hl 1 rfl) ?_
    have b_1 : 0 ≤ (G.1 30 4).toInt ∧ (G.1 30 4).toInt ≤ 40 := hB_G.i 30 4 rfl rfl
    have b_2 : 0 ≤ (G.1 30 5).toInt ∧ (G.1 30 5).toInt ≤ 40 := hB_G.i 30 5 rfl rfl
    refine S_calli (va_runV (As := []) (rest := []) ⟨hx, hb, hml, hown, hts⟩ (k_Wpavement_1 l D k A a z G  hv_0_0 hv_0_1 hv_6_4 (by omega)) (cwV 0 hts (gd_V hgd m622 m623 m624 m117 m625) rfl rfl rfl (by decide +kernel) ⟨Nat.le_of_ble_eq_true rfl, Nat.le_of_ble_eq_true rfl⟩) (pre_V hW hB_G hK hZ hS kd_0 rfl) rfl rfl hl.1 rfl (lv_room (Nat.le_of_ble_eq_true rfl)) dL_law_291 ⟨Nat.le_of_ble_eq_true rfl, Nat.le_of_ble_eq_true rfl⟩) hS (fun r_3 G_4 H locs hpo hW hS => ?_)
    have hX_7 : P_Wpavement_1 G r_3 G_4 := hpo
    obtain ⟨hB_G_4, hq_5, hp_6, -⟩ := hpo
    refine lv_pop hx hb dL_law_294 rfl ?_
    refine lv_aload_n hx hb dL_law_295 rfl (lv_at hl 2 rfl) ?_
    have g_8 : gP G_4 = gP G := gP_fr (rs := [20, 21, 22, 23, 24, 25, 26, 27, 28, 34, 35, 36, 38, 58, 59]) (fs := [(0, 0), (0, 1), (0, 11), (0, 12), (2, 9), (2, 10), (2, 11), (2, 12), (2, 13), (2, 14), (2, 15), (2, 16), (3, 1), (3, 2), (3, 3), (3, 4), (3, 5), (3, 6), (3, 7), (3, 8), (4, 1), (4, 2), (5, 5), (5, 6), (5, 7), (5, 8), (5, 9), (6, 4), (30, 3), (30, 4), (30, 5), (31, 5)]) (Fr.rf.call hq_5 (by decide) (by decide)) (by decide) (by decide)
    have g_9 : gW G_4 = gW G := gW_fr (rs := [20, 21, 22, 23, 24, 25, 26, 27, 28, 34, 35, 36, 38, 58, 59]) (fs := [(0, 0), (0, 1), (0, 11), (0, 12), (2, 9), (2, 10), (2, 11), (2, 12), (2, 13), (2, 14), (2, 15), (2, 16), (3, 1), (3, 2), (3, 3), (3, 4), (3, 5), (3, 6), (3, 7), (3, 8), (4, 1), (4, 2), (5, 5), (5, 6), (5, 7), (5, 8), (5, 9), (6, 4), (30, 3), (30, 4), (30, 5), (31, 5)]) (Fr.rf.call hq_5 (by decide) (by decide)) (by decide) (by decide)
    have g_10 : gS G_4 = gS G := gS_fr (rs := [20, 21, 22, 23, 24, 25, 26, 27, 28, 34, 35, 36, 38, 58, 59]) (fs := [(0, 0), (0, 1), (0, 11), (0, 12), (2, 9), (2, 10), (2, 11), (2, 12), (2, 13), (2, 14), (2, 15), (2, 16), (3, 1), (3, 2), (3, 3), (3, 4), (3, 5), (3, 6), (3, 7), (3, 8), (4, 1), (4, 2), (5, 5), (5, 6), (5, 7), (5, 8), (5, 9), (6, 4), (30, 3), (30, 4), (30, 5), (31, 5)]) (Fr.rf.call hq_5 (by decide) (by decide)) (by decide) (by decide)
    have b_11 : 0 ≤ (G.1 66 78).toInt ∧ (G.1 66 78).toInt ≤ 40 := hB_G.i 66 78 rfl rfl
    have g_12 : (G_4.1 66 78).toInt = (G.1 66 78).toInt := by rw [show G_4.1 66 78 = (G.1 66 78) from (hq_5.i 66 78 (by decide) (by decide))]
    have b_13 : 0 ≤ (G.1 66 79).toInt ∧ (G.1 66 79).toInt ≤ 40 := hB_G.i 66 79 rfl rfl
    have g_14 : (G_4.1 66 79).toInt = (G.1 66 79).toInt := by rw [show G_4.1 66 79 = (G.1 66 79) from (hq_5.i 66 79 (by decide) (by decide))]
    have b_15 : 0 ≤ (G.1 96 0).toInt ∧ (G.1 96 0).toInt ≤ 9 := hB_G.i 96 0 rfl rfl
    have g_16 : (G_4.1 96 0).toInt = (G.1 96 0).toInt := by rw [show G_4.1 96 0 = (G.1 96 0) from (hq_5.i 96 0 (by decide) (by decide))]
    have b_17 : 0 ≤ (G.1 96 1).toInt ∧ (G.1 96 1).toInt ≤ 9 := hB_G.i 96 1 rfl rfl
    have g_18 : (G_4.1 96 1).toInt = (G.1 96 1).toInt := by rw [show G_4.1 96 1 = (G.1 96 1) from (hq_5.i 96 1 (by decide) (by decide))]
    have b_19 : 0 ≤ (G.1 96 2).toInt ∧ (G.1 96 2).toInt ≤ 9 := hB_G.i 96 2 rfl rfl
    have g_20 : (G_4.1 96 2).toInt = (G.1 96 2).toInt := by rw [show G_4.1 96 2 = (G.1 96 2) from (hq_5.i 96 2 (by decide) (by decide))]
    refine S_calli (va_runV (As := []) (rest := []) ⟨hx, hb, hml, hown, hts⟩ (n_pavement l D k A a z G_4  (by omega) (by omega) (by omega) (by omega) (by omega)) (cwV 0 hts (gd_V hgd m1594 m1595 m1596 m131 m1597) rfl rfl rfl (by decide +kernel) ⟨Nat.le_of_ble_eq_true rfl, Nat.le_of_ble_eq_true rfl⟩) (pre_V hW hB_G_4 hK hZ hS kd_66 rfl) rfl rfl hl.1 rfl (lv_room (Nat.le_of_ble_eq_true rfl)) dL_law_296 ⟨Nat.le_of_ble_eq_true rfl, Nat.le_of_ble_eq_true rfl⟩) hS (fun r_21 G_22 H locs hpo hW hS => ?_)
    have hX_25 : Q_pavement G_4 r_21 G_22 := hpo
    obtain ⟨hB_G_22, hq_23, hp_24, -⟩ := hpo
    obtain ⟨u_26, u_27, u_28, u_29, hg_1, hg_2⟩ := L_pavement_1 hX_7 hX_25 (by omega) (by omega) (hB_G.i 0 11 (lo := 0) (hi := 1600) rfl rfl).1 (hB_G.i 0 11 (lo := 0) (hi := 1600) rfl rfl).2 hv_0_0 (by omega)
    have v_30 : gTE G_22 = 1 := u_29
    refine lv_pop hx hb dL_law_299 rfl ?_
    refine lv_goto (tgt := 1641) hx hb dL_law_300 (by decide) ?_
    have g_31 : gO G_22 = gO G := gO_fr (rs := [20, 21, 22, 23, 24, 25, 26, 27, 28, 34, 35, 36, 38, 58, 59, 68, 69, 70, 71, 72, 73, 74, 75, 77, 78, 79, 80, 81, 82, 83, 84, 85, 86, 87, 88, 89, 90, 91, 92, 93, 94, 95, 96, 110, 117]) (fs := [(0, 0), (0, 1), (0, 11), (0, 12), (2, 9), (2, 10), (2, 11), (2, 12), (2, 13), (2, 14), (2, 15), (2, 16), (3, 1), (3, 2), (3, 3), (3, 4), (3, 5), (3, 6), (3, 7), (3, 8), (4, 1), (4, 2), (5, 5), (5, 6), (5, 7), (5, 8), (5, 9), (6, 4), (30, 3), (30, 4), (30, 5), (31, 5), (66, 1), (66, 2), (66, 3), (66, 4), (66, 5), (66, 6), (66, 7), (66, 8), (66, 9), (66, 19), (66, 20), (66, 21), (66, 22), (66, 23), (66, 24), (66, 45), (66, 46), (66, 47), (66, 48), (66, 49), (66, 50), (66, 51), (66, 52), (66, 53), (66, 54), (66, 55), (66, 56), (66, 66), (66, 78), (66, 79), (66, 85)]) ((Fr.rf.call hq_5 (by decide) (by decide)).call hq_23 (by decide) (by decide)) (by decide) (by decide)
    have g_32 : gTE G_22 = gTE G := gTE_fr (rs := [20, 21, 22, 23, 24, 25, 26, 27, 28, 34, 35, 36, 38, 58, 59, 68, 69, 70, 71, 72, 73, 74, 75, 77, 78, 79, 80, 81, 82, 83, 84, 85, 86, 87, 88, 89, 90, 91, 92, 93, 94, 95, 96, 110, 117]) (fs := [(0, 0), (0, 1), (0, 11), (0, 12), (2, 9), (2, 10), (2, 11), (2, 12), (2, 13), (2, 14), (2, 15), (2, 16), (3, 1), (3, 2), (3, 3), (3, 4), (3, 5), (3, 6), (3, 7), (3, 8), (4, 1), (4, 2), (5, 5), (5, 6), (5, 7), (5, 8), (5, 9), (6, 4), (30, 3), (30, 4), (30, 5), (31, 5), (66, 1), (66, 2), (66, 3), (66, 4), (66, 5), (66, 6), (66, 7), (66, 8), (66, 9), (66, 19), (66, 20), (66, 21), (66, 22), (66, 23), (66, 24), (66, 45), (66, 46), (66, 47), (66, 48), (66, 49), (66, 50), (66, 51), (66, 52), (66, 53), (66, 54), (66, 55), (66, 56), (66, 66), (66, 78), (66, 79), (66, 85)]) ((Fr.rf.call hq_5 (by decide) (by decide)).call hq_23 (by decide) (by decide)) (by decide) (by decide)
    have b_33 : 0 ≤ (G_4.1 0 11).toInt ∧ (G_4.1 0 11).toInt ≤ 1600 := hB_G_4.i 0 11 rfl rfl
    have g_34 : (G_22.1 0 11).toInt = (G_4.1 0 11).toInt := by rw [show G_22.1 0 11 = (G_4.1 0 11) from (hq_23.i 0 11 (by decide) (by decide))]
    have b_35 : 0 ≤ (G_4.1 3 7).toInt ∧ (G_4.1 3 7).toInt ≤ 4 := hB_G_4.i 3 7 rfl rfl
    have g_36 : (G_22.1 3 7).toInt = (G_4.1 3 7).toInt := by rw [show G_22.1 3 7 = (G_4.1 3 7) from (hq_23.i 3 7 (by decide) (by decide))]
    have b_37 : (-1) ≤ (G_4.1 3 8).toInt ∧ (G_4.1 3 8).toInt ≤ 1600 := hB_G_4.i 3 8 rfl rfl
    have g_38 : (G_22.1 3 8).toInt = (G_4.1 3 8).toInt := by rw [show G_22.1 3 8 = (G_4.1 3 8) from (hq_23.i 3 8 (by decide) (by decide))]
    have b_39 : 0 ≤ (G_4.1 30 4).toInt ∧ (G_4.1 30 4).toInt ≤ 40 := hB_G_4.i 30 4 rfl rfl
    have g_40 : (G_22.1 30 4).toInt = (G_4.1 30 4).toInt := by rw [show G_22.1 30 4 = (G_4.1 30 4) from (hq_23.i 30 4 (by decide) (by decide))]
    have b_41 : 0 ≤ (G_4.1 30 5).toInt ∧ (G_4.1 30 5).toInt ≤ 40 := hB_G_4.i 30 5 rfl rfl
    have g_42 : (G_22.1 30 5).toInt = (G_4.1 30 5).toInt := by rw [show G_22.1 30 5 = (G_4.1 30 5) from (hq_23.i 30 5 (by decide) (by decide))]
    have b_43 : 0 ≤ (G.1 31 6).toInt ∧ (G.1 31 6).toInt ≤ 100000 := hB_G.i 31 6 rfl rfl
    have g_44 : (G_22.1 31 6).toInt = (G.1 31 6).toInt := by rw [show G_22.1 31 6 = (G.1 31 6) from ((hq_23.i 31 6 (by decide) (by decide)).trans (hq_5.i 31 6 (by decide) (by decide)))]
    have b_45 : 0 ≤ (G_22.1 66 1).toInt ∧ (G_22.1 66 1).toInt ≤ 1600 := hB_G_22.i 66 1 rfl rfl
    have b_46 : 0 ≤ (G_22.1 66 2).toInt ∧ (G_22.1 66 2).toInt ≤ 4 := hB_G_22.i 66 2 rfl rfl
    have b_47 : (-1) ≤ (G_22.1 66 3).toInt ∧ (G_22.1 66 3).toInt ≤ 1600 := hB_G_22.i 66 3 rfl rfl
    have b_48 : 0 ≤ (G_22.1 66 78).toInt ∧ (G_22.1 66 78).toInt ≤ 40 := hB_G_22.i 66 78 rfl rfl
    have b_49 : 0 ≤ (G_22.1 66 79).toInt ∧ (G_22.1 66 79).toInt ≤ 40 := hB_G_22.i 66 79 rfl rfl
    have b_50 : 0 ≤ (G.1 66 86).toInt ∧ (G.1 66 86).toInt ≤ 100000 := hB_G.i 66 86 rfl rfl
    have g_51 : (G_22.1 66 86).toInt = (G.1 66 86).toInt := by rw [show G_22.1 66 86 = (G.1 66 86) from ((hq_23.i 66 86 (by decide) (by decide)).trans (hq_5.i 66 86 (by decide) (by decide)))]
    have b_52 : 0 ≤ (G_22.1 96 0).toInt ∧ (G_22.1 96 0).toInt ≤ 9 := hB_G_22.i 96 0 rfl rfl
    have b_53 : 0 ≤ (G_22.1 96 1).toInt ∧ (G_22.1 96 1).toInt ≤ 9 := hB_G_22.i 96 1 rfl rfl
    have b_54 : 0 ≤ (G_22.1 96 2).toInt ∧ (G_22.1 96 2).toInt ≤ 9 := hB_G_22.i 96 2 rfl rfl
    rcases hp_6.2.2 with ⟨q1, q2, q3⟩ | ⟨q1, q2, q3⟩
    · have hg9 := hg_1 ((((hq_23.r 0 0 (by decide) (by decide))).trans (q1)))
      exact K G_22 _ _ _ (Or.inl ⟨((((hq_23.r 0 0 (by decide) (by decide))).trans (q1))), ((((hq_23.r 0 1 (by decide) (by decide))).trans (q2))), ((((hq_23.r 6 4 (by decide) (by decide))).trans (q3))), by omega, by omega, by omega, by omega, by omega, by omega, by omega, by omega, by omega, by omega, by omega, by omega, by omega⟩) hB_G_22 hW hS (lv_sub hl [0, 1, 2, 3] rfl)
    · have hg9 := hg_2 ((((hq_23.r 0 0 (by decide) (by decide))).trans (q1)))
      exact K G_22 _ _ _ (Or.inr ⟨((((hq_23.r 0 0 (by decide) (by decide))).trans (q1))), ((((hq_23.r 0 1 (by decide) (by decide))).trans (q2))), ((((hq_23.r 6 4 (by decide) (by decide))).trans (q3))), by omega, by omega, by omega, by omega, by omega, by omega, by omega, by omega, by omega, by omega, by omega, by omega, by omega⟩) hB_G_22 hW hS (lv_sub hl [0, 1, 2, 3] rfl)
  · skip
    refine lv_aload_n hx hb dL_law_290 rfl (lv_at hl 1 rfl) ?_
    have b_1 : 0 ≤ (G.1 30 4).toInt ∧ (G.1 30 4).toInt ≤ 40 := hB_G.i 30 4 rfl rfl
    have b_2 : 0 ≤ (G.1 30 5).toInt ∧ (G.1 30 5).toInt ≤ 40 := hB_G.i 30 5 rfl rfl
    refine S_calli (va_runV (As := []) (rest := []) ⟨hx, hb, hml, hown, hts⟩ (k_Wpavement_2 l D k A a z G  hv_0_0 hv_0_1 hv_6_4 (by omega)) (cwV 0 hts (gd_V hgd m622 m623 m624 m117 m625) rfl rfl rfl (by decide +kernel) ⟨Nat.le_of_ble_eq_true rfl, Nat.le_of_ble_eq_true rfl⟩) (pre_V hW hB_G hK hZ hS kd_0 rfl) rfl rfl hl.1 rfl (lv_room (Nat.le_of_ble_eq_true rfl)) dL_law_291 ⟨Nat.le_of_ble_eq_true rfl, Nat.le_of_ble_eq_true rfl⟩) hS (fun r_3 G_4 H locs hpo hW hS => ?_)
    have hX_7 : P_Wpavement_2 G r_3 G_4 := hpo
    obtain ⟨hB_G_4, hq_5, hp_6, -⟩ := hpo
    refine lv_pop hx hb dL_law_294 rfl ?_
    refine lv_aload_n hx hb dL_law_295 rfl (lv_at hl 2 rfl) ?_
    have g_8 : gP G_4 = gP G := gP_fr (rs := [10, 11, 12, 13, 14, 15, 16, 17, 18, 34, 35, 36, 38, 58, 59]) (fs := [(0, 0), (0, 1), (0, 11), (0, 12), (1, 9), (1, 10), (1, 11), (1, 12), (1, 13), (1, 14), (1, 15), (1, 16), (3, 1), (3, 2), (3, 3), (3, 4), (3, 5), (3, 6), (3, 7), (3, 8), (4, 1), (4, 2), (5, 5), (5, 6), (5, 7), (5, 8), (5, 9), (6, 4), (30, 3), (30, 4), (30, 5), (31, 5)]) (Fr.rf.call hq_5 (by decide) (by decide)) (by decide) (by decide)
    have g_9 : gW G_4 = gW G := gW_fr (rs := [10, 11, 12, 13, 14, 15, 16, 17, 18, 34, 35, 36, 38, 58, 59]) (fs := [(0, 0), (0, 1), (0, 11), (0, 12), (1, 9), (1, 10), (1, 11), (1, 12), (1, 13), (1, 14), (1, 15), (1, 16), (3, 1), (3, 2), (3, 3), (3, 4), (3, 5), (3, 6), (3, 7), (3, 8), (4, 1), (4, 2), (5, 5), (5, 6), (5, 7), (5, 8), (5, 9), (6, 4), (30, 3), (30, 4), (30, 5), (31, 5)]) (Fr.rf.call hq_5 (by decide) (by decide)) (by decide) (by decide)
    have g_10 : gS G_4 = gS G := gS_fr (rs := [10, 11, 12, 13, 14, 15, 16, 17, 18, 34, 35, 36, 38, 58, 59]) (fs := [(0, 0), (0, 1), (0, 11), (0, 12), (1, 9), (1, 10), (1, 11), (1, 12), (1, 13), (1, 14), (1, 15), (1, 16), (3, 1), (3, 2), (3, 3), (3, 4), (3, 5), (3, 6), (3, 7), (3, 8), (4, 1), (4, 2), (5, 5), (5, 6), (5, 7), (5, 8), (5, 9), (6, 4), (30, 3), (30, 4), (30, 5), (31, 5)]) (Fr.rf.call hq_5 (by decide) (by decide)) (by decide) (by decide)
    have b_11 : 0 ≤ (G.1 66 78).toInt ∧ (G.1 66 78).toInt ≤ 40 := hB_G.i 66 78 rfl rfl
    have g_12 : (G_4.1 66 78).toInt = (G.1 66 78).toInt := by rw [show G_4.1 66 78 = (G.1 66 78) from (hq_5.i 66 78 (by decide) (by decide))]
    have b_13 : 0 ≤ (G.1 66 79).toInt ∧ (G.1 66 79).toInt ≤ 40 := hB_G.i 66 79 rfl rfl
    have g_14 : (G_4.1 66 79).toInt = (G.1 66 79).toInt := by rw [show G_4.1 66 79 = (G.1 66 79) from (hq_5.i 66 79 (by decide) (by decide))]
    have b_15 : 0 ≤ (G.1 96 0).toInt ∧ (G.1 96 0).toInt ≤ 9 := hB_G.i 96 0 rfl rfl
    have g_16 : (G_4.1 96 0).toInt = (G.1 96 0).toInt := by rw [show G_4.1 96 0 = (G.1 96 0) from (hq_5.i 96 0 (by decide) (by decide))]
    have b_17 : 0 ≤ (G.1 96 1).toInt ∧ (G.1 96 1).toInt ≤ 9 := hB_G.i 96 1 rfl rfl
    have g_18 : (G_4.1 96 1).toInt = (G.1 96 1).toInt := by rw [show G_4.1 96 1 = (G.1 96 1) from (hq_5.i 96 1 (by decide) (by decide))]
    have b_19 : 0 ≤ (G.1 96 2).toInt ∧ (G.1 96 2).toInt ≤ 9 := hB_G.i 96 2 rfl rfl
    have g_20 : (G_4.1 96 2).toInt = (G.1 96 2).toInt := by rw [show G_4.1 96 2 = (G.1 96 2) from (hq_5.i 96 2 (by decide) (by decide))]
    refine S_calli (va_runV (As := []) (rest := []) ⟨hx, hb, hml, hown, hts⟩ (n_pavement l D k A a z G_4  (by omega) (by omega) (by omega) (by omega) (by omega)) (cwV 0 hts (gd_V hgd m1594 m1595 m1596 m131 m1597) rfl rfl rfl (by decide +kernel) ⟨Nat.le_of_ble_eq_true rfl, Nat.le_of_ble_eq_true rfl⟩) (pre_V hW hB_G_4 hK hZ hS kd_66 rfl) rfl rfl hl.1 rfl (lv_room (Nat.le_of_ble_eq_true rfl)) dL_law_296 ⟨Nat.le_of_ble_eq_true rfl, Nat.le_of_ble_eq_true rfl⟩) hS (fun r_21 G_22 H locs hpo hW hS => ?_)
    have hX_25 : Q_pavement G_4 r_21 G_22 := hpo
    obtain ⟨hB_G_22, hq_23, hp_24, -⟩ := hpo
    obtain ⟨u_26, u_27, u_28, u_29, hg_1, hg_2⟩ := L_pavement_2 hX_7 hX_25 (by omega) (by omega) (hB_G.i 0 11 (lo := 0) (hi := 1600) rfl rfl).1 (hB_G.i 0 11 (lo := 0) (hi := 1600) rfl rfl).2 hv_0_0 (by omega)
    have v_30 : gTE G_22 = 1 := u_29
    refine lv_pop hx hb dL_law_299 rfl ?_
    refine lv_goto (tgt := 1641) hx hb dL_law_300 (by decide) ?_
    have g_31 : gO G_22 = gO G := gO_fr (rs := [10, 11, 12, 13, 14, 15, 16, 17, 18, 34, 35, 36, 38, 58, 59, 68, 69, 70, 71, 72, 73, 74, 75, 77, 78, 79, 80, 81, 82, 83, 84, 85, 86, 87, 88, 89, 90, 91, 92, 93, 94, 95, 96, 110, 117]) (fs := [(0, 0), (0, 1), (0, 11), (0, 12), (1, 9), (1, 10), (1, 11), (1, 12), (1, 13), (1, 14), (1, 15), (1, 16), (3, 1), (3, 2), (3, 3), (3, 4), (3, 5), (3, 6), (3, 7), (3, 8), (4, 1), (4, 2), (5, 5), (5, 6), (5, 7), (5, 8), (5, 9), (6, 4), (30, 3), (30, 4), (30, 5), (31, 5), (66, 1), (66, 2), (66, 3), (66, 4), (66, 5), (66, 6), (66, 7), (66, 8), (66, 9), (66, 19), (66, 20), (66, 21), (66, 22), (66, 23), (66, 24), (66, 45), (66, 46), (66, 47), (66, 48), (66, 49), (66, 50), (66, 51), (66, 52), (66, 53), (66, 54), (66, 55), (66, 56), (66, 66), (66, 78), (66, 79), (66, 85)]) ((Fr.rf.call hq_5 (by decide) (by decide)).call hq_23 (by decide) (by decide)) (by decide) (by decide)
    have g_32 : gTE G_22 = gTE G := gTE_fr (rs := [10, 11, 12, 13, 14, 15, 16, 17, 18, 34, 35, 36, 38, 58, 59, 68, 69, 70, 71, 72, 73, 74, 75, 77, 78, 79, 80, 81, 82, 83, 84, 85, 86, 87, 88, 89, 90, 91, 92, 93, 94, 95, 96, 110, 117]) (fs := [(0, 0), (0, 1), (0, 11), (0, 12), (1, 9), (1, 10), (1, 11), (1, 12), (1, 13), (1, 14), (1, 15), (1, 16), (3, 1), (3, 2), (3, 3), (3, 4), (3, 5), (3, 6), (3, 7), (3, 8), (4, 1), (4, 2), (5, 5), (5, 6), (5, 7), (5, 8), (5, 9), (6, 4), (30, 3), (30, 4), (30, 5), (31, 5), (66, 1), (66, 2), (66, 3), (66, 4), (66, 5), (66, 6), (66, 7), (66, 8), (66, 9), (66, 19), (66, 20), (66, 21), (66, 22), (66, 23), (66, 24), (66, 45), (66, 46), (66, 47), (66, 48), (66, 49), (66, 50), (66, 51), (66, 52), (66, 53), (66, 54), (66, 55), (66, 56), (66, 66), (66, 78), (66, 79), (66, 85)]) ((Fr.rf.call hq_5 (by decide) (by decide)).call hq_23 (by decide) (by decide)) (by decide) (by decide)
    have b_33 : 0 ≤ (G_4.1 0 11).toInt ∧ (G_4.1 0 11).toInt ≤ 1600 := hB_G_4.i 0 11 rfl rfl
    have g_34 : (G_22.1 0 11).toInt = (G_4.1 0 11).toInt := by rw [show G_22.1 0 11 = (G_4.1 0 11) from (hq_23.i 0 11 (by decide) (by decide))]
    have b_35 : 0 ≤ (G_4.1 3 7).toInt ∧ (G_4.1 3 7).toInt ≤ 4 := hB_G_4.i 3 7 rfl rfl
    have g_36 : (G_22.1 3 7).toInt = (G_4.1 3 7).toInt := by rw [show G_22.1 3 7 = (G_4.1 3 7) from (hq_23.i 3 7 (by decide) (by decide))]
    have b_37 : (-1) ≤ (G_4.1 3 8).toInt ∧ (G_4.1 3 8).toInt ≤ 1600 := hB_G_4.i 3 8 rfl rfl
    have g_38 : (G_22.1 3 8).toInt = (G_4.1 3 8).toInt := by rw [show G_22.1 3 8 = (G_4.1 3 8) from (hq_23.i 3 8 (by decide) (by decide))]
    have b_39 : 0 ≤ (G_4.1 30 4).toInt ∧ (G_4.1 30 4).toInt ≤ 40 := hB_G_4.i 30 4 rfl rfl
    have g_40 : (G_22.1 30 4).toInt = (G_4.1 30 4).toInt := by rw [show G_22.1 30 4 = (G_4.1 30 4) from (hq_23.i 30 4 (by decide) (by decide))]
    have b_41 : 0 ≤ (G_4.1 30 5).toInt ∧ (G_4.1 30 5).toInt ≤ 40 := hB_G_4.i 30 5 rfl rfl
    have g_42 : (G_22.1 30 5).toInt = (G_4.1 30 5).toInt := by rw [show G_22.1 30 5 = (G_4.1 30 5) from (hq_23.i 30 5 (by decide) (by decide))]
    have b_43 : 0 ≤ (G.1 31 6).toInt ∧ (G.1 31 6).toInt ≤ 100000 := hB_G.i 31 6 rfl rfl
    have g_44 : (G_22.1 31 6).toInt = (G.1 31 6).toInt := by rw [show G_22.1 31 6 = (G.1 31 6) from ((hq_23.i 31 6 (by decide) (by decide)).trans (hq_5.i 31 6 (by decide) (by decide)))]
    have b_45 : 0 ≤ (G_22.1 66 1).toInt ∧ (G_22.1 66 1).toInt ≤ 1600 := hB_G_22.i 66 1 rfl rfl
    have b_46 : 0 ≤ (G_22.1 66 2).toInt ∧ (G_22.1 66 2).toInt ≤ 4 := hB_G_22.i 66 2 rfl rfl
    have b_47 : (-1) ≤ (G_22.1 66 3).toInt ∧ (G_22.1 66 3).toInt ≤ 1600 := hB_G_22.i 66 3 rfl rfl
    have b_48 : 0 ≤ (G_22.1 66 78).toInt ∧ (G_22.1 66 78).toInt ≤ 40 := hB_G_22.i 66 78 rfl rfl
    have b_49 : 0 ≤ (G_22.1 66 79).toInt ∧ (G_22.1 66 79).toInt ≤ 40 := hB_G_22.i 66 79 rfl rfl
    have b_50 : 0 ≤ (G.1 66 86).toInt ∧ (G.1 66 86).toInt ≤ 100000 := hB_G.i 66 86 rfl rfl
    have g_51 : (G_22.1 66 86).toInt = (G.1 66 86).toInt := by rw [show G_22.1 66 86 = (G.1 66 86) from ((hq_23.i 66 86 (by decide) (by decide)).trans (hq_5.i 66 86 (by decide) (by decide)))]
    have b_52 : 0 ≤ (G_22.1 96 0).toInt ∧ (G_22.1 96 0).toInt ≤ 9 := hB_G_22.i 96 0 rfl rfl
    have b_53 : 0 ≤ (G_22.1 96 1).toInt ∧ (G_22.1 96 1).toInt ≤ 9 := hB_G_22.i 96 1 rfl rfl
    have b_54 : 0 ≤ (G_22.1 96 2).toInt ∧ (G_22.1 96 2).toInt ≤ 9 := hB_G_22.i 96 2 rfl rfl
    rcases hp_6.2.2 with ⟨q1, q2, q3⟩ | ⟨q1, q2, q3⟩
    · have hg9 := hg_2 ((((hq_23.r 0 0 (by decide) (by decide))).trans (q1)))
      exact K G_22 _ _ _ (Or.inr ⟨((((hq_23.r 0 0 (by decide) (by decide))).trans (q1))), ((((hq_23.r 0 1 (by decide) (by decide))).trans (q2))), ((((hq_23.r 6 4 (by decide) (by decide))).trans (q3))), by omega, by omega, by omega, by omega, by omega, by omega, by omega, by omega, by omega, by omega, by omega, by omega, by omega⟩) hB_G_22 hW hS (lv_sub hl [0, 1, 2, 3] rfl)
    · have hg9 := hg_1 ((((hq_23.r 0 0 (by decide) (by decide))).trans (q1)))
      exact K G_22 _ _ _ (Or.inl ⟨((((hq_23.r 0 0 (by decide) (by decide))).trans (q1))), ((((hq_23.r 0 1 (by decide) (by decide))).trans (q2))), ((((hq_23.r 6 4 (by decide) (by decide))).trans (q3))), by omega, by omega, by omega, by omega, by omega, by omega, by omega, by omega, by omega, by omega, by omega, by omega, by omega⟩) hB_G_22 hW hS (lv_sub hl [0, 1, 2, 3] rfl)
