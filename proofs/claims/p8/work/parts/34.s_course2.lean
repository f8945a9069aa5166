

set_option maxHeartbeats 4000000 in
set_option maxRecDepth 100000 in
theorem k_cLook_2 (l : Launch) (D : va_G) (k : KT) (A : Nat → Prop) (a : Nat → Nat) (z : SK) (G : GS) (p0 : Int32) (p1 : Int32) (ha_p0 : 0 ≤ p0.toInt ∧ p0.toInt ≤ 3) (ha_p1 : 0 ≤ p1.toInt ∧ p1.toInt ≤ 2) (hw : p0.toInt < (G.1 2 10).toInt) : Met l yX0_lookAt (WS yX0_lookAt cX0_lookAt 4 none) ({ frames := 1, cells := 0, slots := 0, locals := 14 }) (va_Pc [.ref (a 7), .ref (a 2), .int p0, .int p1] (cW D k A a z G)) (va_Qv (fun (G1 : GS) => P_cLook_2 p0 p1 G G1) (fun (G1 : GS) t => Wd D k A a G1 t.heap) A) 0 0 A := by
  refine Met.ofW (cc := cX0_lookAt) (maxL := 4) (ret := none) (by decide) rfl ?_
  intro p e s m args below meth c s₁ B hml hv
  obtain ⟨rfl, hW, hB_G, hK, hZ⟩ := hv
  have hx := B.exec
  have hb := B.bytes
  have hr := B.returns
  have hts := atoms_spec (ws := WS yX0_lookAt cX0_lookAt 4 none) B.pre
  have hgd : ∀ w ∈ gd, w ∈ WS yX0_lookAt cX0_lookAt 4 none := fun w h => List.mem_cons_of_mem _ h
  have hg : ∀ w ∈ gd, w.before _ s = true := fun w h => hts w (hgd w h)
  have hown : s.vm.findClass RX0 = some m.cls := findClass_of_methodNamed B.named
  have hS : va_S A s.heap s.heap [] := va_S.rf
  have hF : Fr [] [(7, 1), (7, 2), (7, 3), (7, 4), (7, 5), (7, 6), (7, 7)] G G := Fr.rf
  have hl := lv_entry ([.ref (a 7), .ref (a 2), .int p0, .int p1]) (n := 4) (Nat.le_of_ble_eq_true rfl)
  rw [lg_entry_eq]
  generalize (lg_sl ([.ref (a 7), .ref (a 2), .int p0, .int p1]) ++ List.replicate (4 - (lg_sl ([.ref (a 7), .ref (a 2), .int p0, .int p1])).length) Slot.unset).toArray = ls at hl ⊢
  have hl : lv_has ls 4 [(0, .ref (a 7)), (1, .ref (a 2)), (2, .int p0), (3, .int p1)] := hl
  refine lv_aload_n hx hb dX0_lookAt_0 rfl (lv_at hl 0 rfl) ?_
  refine lv_aload_n hx hb dX0_lookAt_1 rfl (lv_at hl 1 rfl) ?_
  refine S_getR (n := 20) (C := RX6) (T := TX6) (N := 17) hx hb hg iX6 hown hK hW kd_2 rfl 0 (lt_b rfl) (hg (Cond.fieldLink RX0 15 "SlabWalk$Paving" "length" "[I") m157) (fun _ h9 => h9) rfl dX0_lookAt_2 ?_
  refine lv_iload_n hx hb dX0_lookAt_5 rfl (lv_at hl 3 rfl) ?_
  refine S_iald hx hb hK hW kd_20 (vin (by omega) (by omega)) dX0_lookAt_6 (fun y_1 ey_1 => ?_)
  have ty_1 : 0 ≤ y_1.toInt ∧ y_1.toInt ≤ 400 := bv_20 hB_G ey_1
  refine S_putI (ty := .int) (C := RX0) (T := TX0) (N := 8) hx hb hg iX0 tyX0 tyX0_ok nmX0 hown hK hW hS kd_7 rfl 1 (lt_b rfl) (hg (Cond.fieldLink RX0 21 "SlabWalk$Course" "length" "I") m375) (fun _ h9 => h9) rfl (by decide +kernel) rfl rfl rfl dX0_lookAt_7 (fun G_2 H locs eG_2 hW hS => ?_)
  have hB_G_2 : Bd G_2 := hB_G.put (V := y_1.toInt) (lo := 0) (hi := 400) eG_2 rfl rfl rfl ((by first | (clear ha_p0 ha_p1 hw; omega) | omega)) ((by first | (clear ha_p0 ha_p1 hw; omega) | omega)) (hB_G.2.put eG_2 rfl)
  have hF := hF.put eG_2 (Or.inr (by decide))
  refine lv_aload_n hx hb dX0_lookAt_10 rfl (lv_at hl 0 rfl) ?_
  refine lv_aload_n hx hb dX0_lookAt_11 rfl (lv_at hl 1 rfl) ?_
  refine S_getR (n := 22) (C := RX6) (T := TX6) (N := 17) hx hb hg iX6 hown hK hW kd_2 rfl 2 (lt_b rfl) (hg (Cond.fieldLink RX0 24 "SlabWalk$Paving" "foot" "[I") m163) (fun _ h9 => h9) rfl dX0_lookAt_12 ?_
  refine lv_iload_n hx hb dX0_lookAt_15 rfl (lv_at hl 2 rfl) ?_
  refine S_iald hx hb hK hW kd_22 (vin (by omega) (by omega)) dX0_lookAt_16 (fun y_3 ey_3 => ?_)
  have ty_3 : 0 ≤ y_3.toInt ∧ y_3.toInt ≤ 12 := bv_22 hB_G_2 ey_3
  have b_4 : 0 ≤ (G.1 2 10).toInt ∧ (G.1 2 10).toInt ≤ 4 := bd_2_10 hB_G
  have u_5 : 1 ≤ y_3.toInt := by have q := (hB_G_2.2.of2 (w := p0.toNatClampNeg) (by rw [tN (by omega), show G_2.1 2 10 = (G.1 2 10) from (gp_ne eG_2 (by decide))]; omega)).1; rw [← ey_3] at q; exact q
  refine S_putI (ty := .int) (C := RX0) (T := TX0) (N := 8) hx hb hg iX0 tyX0 tyX0_ok nmX0 hown hK hW hS kd_7 rfl 2 (lt_b rfl) (hg (Cond.fieldLink RX0 27 "SlabWalk$Course" "foot" "I") m376) (fun _ h9 => h9) rfl (by decide +kernel) rfl rfl rfl dX0_lookAt_17 (fun G_6 H locs eG_6 hW hS => ?_)
  have hB_G_6 : Bd G_6 := hB_G_2.put (V := y_3.toInt) (lo := 0) (hi := 12) eG_6 rfl rfl rfl ((by first | (clear ha_p0 ha_p1 hw ty_1 b_4; omega) | omega)) ((by first | (clear ha_p0 ha_p1 hw ty_1 b_4; omega) | omega)) (hB_G_2.2.put eG_6 rfl)
  have hF := hF.put eG_6 (Or.inr (by decide))
  refine lv_aload_n hx hb dX0_lookAt_20 rfl (lv_at hl 0 rfl) ?_
  refine lv_aload_n hx hb dX0_lookAt_21 rfl (lv_at hl 1 rfl) ?_
  refine S_getR (n := 23) (C := RX6) (T := TX6) (N := 17) hx hb hg iX6 hown hK hW kd_2 rfl 3 (lt_b rfl) (hg (Cond.fieldLink RX0 29 "SlabWalk$Paving" "least" "[I") m167) (fun _ h9 => h9) rfl dX0_lookAt_22 ?_
  refine lv_iload_n hx hb dX0_lookAt_25 rfl (lv_at hl 2 rfl) ?_
  refine S_iald hx hb hK hW kd_23 (vin ((by first | (clear ha_p1 ty_1 ty_3 u_5; omega) | omega)) ((by first | (clear ha_p1 ty_1 ty_3 u_5; omega) | omega))) dX0_lookAt_26 (fun y_7 ey_7 => ?_)
  have ty_7 : 0 ≤ y_7.toInt ∧ y_7.toInt ≤ 60 := bv_23 hB_G_6 ey_7
  refine S_putI (ty := .int) (C := RX0) (T := TX0) (N := 8) hx hb hg iX0 tyX0 tyX0_ok nmX0 hown hK hW hS kd_7 rfl 3 (lt_b rfl) (hg (Cond.fieldLink RX0 32 "SlabWalk$Course" "least" "I") m377) (fun _ h9 => h9) rfl (by decide +kernel) rfl rfl rfl dX0_lookAt_27 (fun G_8 H locs eG_8 hW hS => ?_)
  have hB_G_8 : Bd G_8 := hB_G_6.put (V := y_7.toInt) (lo := 0) (hi := 60) eG_8 rfl rfl rfl ((by first | (clear ha_p0 ha_p1 hw ty_1 ty_3 b_4 u_5; omega) | omega)) ((by first | (clear ha_p0 ha_p1 hw ty_1 ty_3 b_4 u_5; omega) | omega)) (hB_G_6.2.put eG_8 rfl)
  have hF := hF.put eG_8 (Or.inr (by decide))
  refine lv_aload_n hx hb dX0_lookAt_30 rfl (lv_at hl 0 rfl) ?_
  refine lv_aload_n hx hb dX0_lookAt_31 rfl (lv_at hl 1 rfl) ?_
  refine S_getR (n := 24) (C := RX6) (T := TX6) (N := 17) hx hb hg iX6 hown hK hW kd_2 rfl 4 (lt_b rfl) (hg (Cond.fieldLink RX0 34 "SlabWalk$Paving" "most" "[I") m171) (fun _ h9 => h9) rfl dX0_lookAt_32 ?_
  refine lv_iload_n hx hb dX0_lookAt_35 rfl (lv_at hl 2 rfl) ?_
  refine S_iald hx hb hK hW kd_24 (vin ((by first | (clear ha_p1 ty_1 ty_3 u_5 ty_7; omega) | omega)) ((by first | (clear ha_p1 ty_1 ty_3 u_5 ty_7; omega) | omega))) dX0_lookAt_36 (fun y_9 ey_9 => ?_)
  have ty_9 : 0 ≤ y_9.toInt ∧ y_9.toInt ≤ 60 := bv_24 hB_G_8 ey_9
  have u_10 : y_7.toInt ≤ y_9.toInt := by have q := (hB_G_8.2.of2 (w := p0.toNatClampNeg) (by rw [tN (by omega), show G_8.1 2 10 = (G.1 2 10) from ((gp_ne eG_8 (by decide)).trans ((gp_ne eG_6 (by decide)).trans ((gp_ne eG_2 (by decide)).trans (rfl))))]; omega)).2; rw [← ey_9, show G_8.1 23 p0.toNatClampNeg = y_7 from ((gp_ne eG_8 (fun q => absurd q.1 (Nat.ne_of_beq_eq_false rfl))).trans (ey_7.symm))] at q; exact q
  refine S_putI (ty := .int) (C := RX0) (T := TX0) (N := 8) hx hb hg iX0 tyX0 tyX0_ok nmX0 hown hK hW hS kd_7 rfl 4 (lt_b rfl) (hg (Cond.fieldLink RX0 37 "SlabWalk$Course" "most" "I") m382) (fun _ h9 => h9) rfl (by decide +kernel) rfl rfl rfl dX0_lookAt_37 (fun G_11 H locs eG_11 hW hS => ?_)
  have hB_G_11 : Bd G_11 := hB_G_8.put (V := y_9.toInt) (lo := 0) (hi := 60) eG_11 rfl rfl rfl ((by first | (clear ha_p0 ha_p1 hw ty_1 ty_3 b_4 u_5; omega) | omega)) ((by first | (clear ha_p0 ha_p1 hw ty_1 ty_3 b_4 u_5; omega) | omega)) (hB_G_8.2.put eG_11 rfl)
  have hF := hF.put eG_11 (Or.inr (by decide))
  refine lv_aload_n hx hb dX0_lookAt_40 rfl (lv_at hl 0 rfl) ?_
  refine lv_aload_n hx hb dX0_lookAt_41 rfl (lv_at hl 1 rfl) ?_
  refine S_getR (n := 25) (C := RX6) (T := TX6) (N := 17) hx hb hg iX6 hown hK hW kd_2 rfl 5 (lt_b rfl) (hg (Cond.fieldLink RX0 39 "SlabWalk$Paving" "leap" "[I") m175) (fun _ h9 => h9) rfl dX0_lookAt_42 ?_
  refine lv_iload_n hx hb dX0_lookAt_45 rfl (lv_at hl 2 rfl) ?_
  refine S_iald hx hb hK hW kd_25 (vin ((by first | (clear ha_p1 ty_1 ty_3 u_5 ty_7 ty_9 u_10; omega) | omega)) ((by first | (clear ha_p1 ty_1 ty_3 u_5 ty_7 ty_9 u_10; omega) | omega))) dX0_lookAt_46 (fun y_12 ey_12 => ?_)
  have ty_12 : 0 ≤ y_12.toInt ∧ y_12.toInt ≤ 99 := bv_25 hB_G_11 ey_12
  refine S_putI (ty := .int) (C := RX0) (T := TX0) (N := 8) hx hb hg iX0 tyX0 tyX0_ok nmX0 hown hK hW hS kd_7 rfl 5 (lt_b rfl) (hg (Cond.fieldLink RX0 42 "SlabWalk$Course" "leap" "I") m385) (fun _ h9 => h9) rfl (by decide +kernel) rfl rfl rfl dX0_lookAt_47 (fun G_13 H locs eG_13 hW hS => ?_)
  have hB_G_13 : Bd G_13 := hB_G_11.put (V := y_12.toInt) (lo := 0) (hi := 99) eG_13 rfl rfl rfl ((by first | (clear ha_p0 ha_p1 hw ty_1 ty_3 b_4 u_5 ty_7 ty_9 u_10; omega) | omega)) ((by first | (clear ha_p0 ha_p1 hw ty_1 ty_3 b_4 u_5 ty_7 ty_9 u_10; omega) | omega)) (hB_G_11.2.put eG_13 rfl)
  have hF := hF.put eG_13 (Or.inr (by decide))
  refine lv_aload_n hx hb dX0_lookAt_50 rfl (lv_at hl 0 rfl) ?_
  refine ic_m1 hx hb dX0_lookAt_51 ?_
  refine lv_aload_n hx hb dX0_lookAt_52 rfl (lv_at hl 0 rfl) ?_
  refine S_getI (v := y_1) (C := RX0) (T := TX0) (N := 8) hx hb hg iX0 hown hK hW kd_7 rfl 1 (lt_b rfl) (hg (Cond.fieldLink RX0 21 "SlabWalk$Course" "length" "I") m375) (fun _ h9 => h9) rfl ((gp_ne eG_13 (by decide)).trans ((gp_ne eG_11 (by decide)).trans ((gp_ne eG_8 (by decide)).trans ((gp_ne eG_6 (by decide)).trans (gp_eq eG_2))))) dX0_lookAt_53 ?_
  refine lv_aload_n hx hb dX0_lookAt_56 rfl (lv_at hl 0 rfl) ?_
  refine S_getI (v := y_3) (C := RX0) (T := TX0) (N := 8) hx hb hg iX0 hown hK hW kd_7 rfl 2 (lt_b rfl) (hg (Cond.fieldLink RX0 27 "SlabWalk$Course" "foot" "I") m376) (fun _ h9 => h9) rfl ((gp_ne eG_13 (by decide)).trans ((gp_ne eG_11 (by decide)).trans ((gp_ne eG_8 (by decide)).trans (gp_eq eG_6)))) dX0_lookAt_57 ?_
  refine lv_isub hx hb dX0_lookAt_60 ?_
  refine lv_topi (fun y_14 ey_14 => ?_)
  have ty_14 : y_14.toInt = y_1.toInt - y_3.toInt := xI_sub rfl rfl ey_14 ((by first | (clear ha_p0 ha_p1 hw b_4 ty_7 ty_9 u_10 ty_12; omega) | omega)) ((by first | (clear ha_p0 ha_p1 hw b_4 ty_7 ty_9 u_10 ty_12; omega) | omega))
  refine va_mmax hx hb (by rw [hml]; exact hl.1.symm) hown (hg (Cond.methodLink RX0 44 Lib.Math.max.name) m983) (hg (Cond.static Lib.Math.max.name) m728) (hg (Cond.initialized "java/lang/Math") m132) (hg (Cond.code Lib.Math.max.name Lib.Math.max.code 2 (some .int)) m729) (Nat.le_of_ble_eq_true rfl) (Nat.le_of_ble_eq_true rfl) (Nat.le_of_ble_eq_true rfl) (Nat.le_of_ble_eq_true rfl) dX0_lookAt_61 ?_
  refine lv_topi (fun y_15 ey_15 => ?_)
  have ty_15 := xI_max (X := (-1)) (Y := y_14.toInt) rfl rfl ey_15
  refine S_putI (ty := .int) (C := RX0) (T := TX0) (N := 8) hx hb hg iX0 tyX0 tyX0_ok nmX0 hown hK hW hS kd_7 rfl 6 (lt_b rfl) (hg (Cond.fieldLink RX0 50 "SlabWalk$Course" "last" "I") m390) (fun _ h9 => h9) rfl (by decide +kernel) rfl rfl rfl dX0_lookAt_64 (fun G_16 H locs eG_16 hW hS => ?_)
  have hB_G_16 : Bd G_16 := hB_G_13.put (V := y_15.toInt) (lo := (-1)) (hi := 400) eG_16 rfl rfl rfl ((by first | (clear ha_p0 ha_p1 hw ty_1 ty_3 b_4 u_5 ty_7 ty_9 u_10 ty_12 ty_14; omega) | omega)) ((by first | (clear ha_p0 ha_p1 hw ty_1 ty_3 b_4 u_5 ty_7 ty_9 u_10 ty_12 ty_14; omega) | omega)) (hB_G_13.2.put eG_16 rfl)
  have hF := hF.put eG_16 (Or.inr (by decide))
  refine lv_aload_n hx hb dX0_lookAt_67 rfl (lv_at hl 0 rfl) ?_
  refine ic_0 hx hb dX0_lookAt_68 ?_
  refine lv_aload_n hx hb dX0_lookAt_69 rfl (lv_at hl 0 rfl) ?_
  refine S_getI (v := y_1) (C := RX0) (T := TX0) (N := 8) hx hb hg iX0 hown hK hW kd_7 rfl 1 (lt_b rfl) (hg (Cond.fieldLink RX0 21 "SlabWalk$Course" "length" "I") m375) (fun _ h9 => h9) rfl ((gp_ne eG_16 (by decide)).trans ((gp_ne eG_13 (by decide)).trans ((gp_ne eG_11 (by decide)).trans ((gp_ne eG_8 (by decide)).trans ((gp_ne eG_6 (by decide)).trans (gp_eq eG_2)))))) dX0_lookAt_70 ?_
  refine lv_aload_n hx hb dX0_lookAt_73 rfl (lv_at hl 0 rfl) ?_
  refine S_getI (v := y_3) (C := RX0) (T := TX0) (N := 8) hx hb hg iX0 hown hK hW kd_7 rfl 2 (lt_b rfl) (hg (Cond.fieldLink RX0 27 "SlabWalk$Course" "foot" "I") m376) (fun _ h9 => h9) rfl ((gp_ne eG_16 (by decide)).trans ((gp_ne eG_13 (by decide)).trans ((gp_ne eG_11 (by decide)).trans ((gp_ne eG_8 (by decide)).trans (gp_eq eG_6))))) dX0_lookAt_74 ?_
  refine lv_isub hx hb dX0_lookAt_77 ?_
  refine lv_topi (fun y_17 ey_17 => ?_)
  have ty_17 : y_17.toInt = y_1.toInt - y_3.toInt := xI_sub rfl rfl ey_17 ((by first | (clear ha_p0 ha_p1 hw b_4 ty_7 ty_9 u_10 ty_12; omega) | omega)) ((by first | (clear ha_p0 ha_p1 hw b_4 ty_7 ty_9 u_10 ty_12; omega) | omega))
  refine lv_aload_n hx hb dX0_lookAt_78 rfl (lv_at hl 0 rfl) ?_
  refine S_getI (v := y_9) (C := RX0) (T := TX0) (N := 8) hx hb hg iX0 hown hK hW kd_7 rfl 4 (lt_b rfl) (hg (Cond.fieldLink RX0 37 "SlabWalk$Course" "most" "I") m382) (fun _ h9 => h9) rfl ((gp_ne eG_16 (by decide)).trans ((gp_ne eG_13 (by decide)).trans (gp_eq eG_11))) dX0_lookAt_79 ?_
  refine lv_isub hx hb dX0_lookAt_82 ?_
  refine lv_topi (fun y_18 ey_18 => ?_)
  have ty_18 : y_18.toInt = y_17.toInt - y_9.toInt := xI_sub rfl rfl ey_18 ((by first | (clear ha_p0 ha_p1 hw b_4 ty_12; omega) | omega)) ((by first | (clear ha_p0 ha_p1 hw b_4 ty_12; omega) | omega))
  refine ic_1 hx hb dX0_lookAt_83 ?_
  refine lv_iadd hx hb dX0_lookAt_84 ?_
  refine lv_topi (fun y_19 ey_19 => ?_)
  have ty_19 : y_19.toInt = y_18.toInt + 1 := xI_add rfl rfl ey_19 ((by first | (clear ha_p0 ha_p1 hw b_4 ty_12; omega) | omega)) ((by first | (clear ha_p0 ha_p1 hw b_4 ty_12; omega) | omega))
  refine va_mmax hx hb (by rw [hml]; exact hl.1.symm) hown (hg (Cond.methodLink RX0 44 Lib.Math.max.name) m983) (hg (Cond.static Lib.Math.max.name) m728) (hg (Cond.initialized "java/lang/Math") m132) (hg (Cond.code Lib.Math.max.name Lib.Math.max.code 2 (some .int)) m729) (Nat.le_of_ble_eq_true rfl) (Nat.le_of_ble_eq_true rfl) (Nat.le_of_ble_eq_true rfl) (Nat.le_of_ble_eq_true rfl) dX0_lookAt_85 ?_
  refine lv_topi (fun y_20 ey_20 => ?_)
  have ty_20 := xI_max (X := 0) (Y := y_19.toInt) rfl rfl ey_20
  refine S_putI (ty := .int) (C := RX0) (T := TX0) (N := 8) hx hb hg iX0 tyX0 tyX0_ok nmX0 hown hK hW hS kd_7 rfl 7 (lt_b rfl) (hg (Cond.fieldLink RX0 53 "SlabWalk$Course" "end" "I") m393) (fun _ h9 => h9) rfl (by decide +kernel) rfl rfl rfl dX0_lookAt_88 (fun G_21 H locs eG_21 hW hS => ?_)
  have hB_G_21 : Bd G_21 := hB_G_16.put (V := y_20.toInt) (lo := 0) (hi := 400) eG_21 rfl rfl rfl ((by first | (clear ha_p0 ha_p1 hw ty_1 ty_3 b_4 u_5 ty_7 ty_9 u_10 ty_12 ty_14 ty_17 ty_18 ty_19; omega) | omega)) ((by first | (clear ha_p0 ha_p1 hw ty_1 ty_3 b_4 u_5 ty_7 ty_9 u_10 ty_12 ty_14 ty_17 ty_18 ty_19; omega) | omega)) (hB_G_16.2.put eG_21 rfl)
  have hF := hF.put eG_21 (Or.inr (by decide))
  have g_22 : (G_21.1 7 3).toInt = y_7.toInt := (congrArg Int32.toInt (show G_21.1 7 3 = y_7 from ((gp_ne eG_21 (by decide)).trans ((gp_ne eG_16 (by decide)).trans ((gp_ne eG_13 (by decide)).trans ((gp_ne eG_11 (by decide)).trans (gp_eq eG_8)))))))
  have g_23 : (G_21.1 7 4).toInt = y_9.toInt := (congrArg Int32.toInt (show G_21.1 7 4 = y_9 from ((gp_ne eG_21 (by decide)).trans ((gp_ne eG_16 (by decide)).trans ((gp_ne eG_13 (by decide)).trans (gp_eq eG_11))))))
  have g_24 : (G_21.1 7 6).toInt = y_15.toInt := (congrArg Int32.toInt (show G_21.1 7 6 = y_15 from ((gp_ne eG_21 (by decide)).trans (gp_eq eG_16))))
  have g_25 : (G_21.1 7 7).toInt = y_20.toInt := (congrArg Int32.toInt (show G_21.1 7 7 = y_20 from (gp_eq eG_21)))
  exact W.vret hx hb hr (fun t ht _ => ⟨⟨G_21, rfl, (P_cLook_2_mk ⟨hB_G_21, hF, ((by first | exact ⟨((by first | (clear ha_p0 ha_p1 hw ty_1 ty_3 b_4 u_5 ty_7 ty_9 u_10 ty_12 ty_14 ty_17 ty_18 ty_19 g_22 g_23 g_25; omega) | omega)), ⟨((by first | (clear ha_p0 ha_p1 hw b_4 ty_12 g_24 g_25; omega) | omega)), ((by first | (clear ha_p0 ha_p1 hw b_4 ty_12; omega) | omega))⟩⟩ | omega)), ⟨y_1, ey_1, ⟨y_3, ey_3.trans (congrFun (rw_put eG_2 (by decide)) _), ⟨y_7, ey_7.trans (congrFun ((rw_put eG_6 (by decide)).trans (rw_put eG_2 (by decide))) _), ⟨y_9, ey_9.trans (congrFun ((rw_put eG_8 (by decide)).trans ((rw_put eG_6 (by decide)).trans (rw_put eG_2 (by decide)))) _), ⟨y_12, ey_12.trans (congrFun ((rw_put eG_11 (by decide)).trans ((rw_put eG_8 (by decide)).trans ((rw_put eG_6 (by decide)).trans (rw_put eG_2 (by decide))))) _), ⟨y_14, ty_14, ⟨y_15, ty_15, ⟨y_17, ty_17, ⟨y_18, ty_18, ⟨y_19, ty_19, ⟨y_20, ty_20, ⟨(Fr.put (rs := []) (fs := [(7, 1), (7, 2), (7, 3), (7, 4), (7, 5), (7, 6), (7, 7)]) (Fr.put (rs := []) (fs := [(7, 1), (7, 2), (7, 3), (7, 4), (7, 5), (7, 6), (7, 7)]) (Fr.put (rs := []) (fs := [(7, 1), (7, 2), (7, 3), (7, 4), (7, 5), (7, 6), (7, 7)]) (Fr.put (rs := []) (fs := [(7, 1), (7, 2), (7, 3), (7, 4), (7, 5), (7, 6), (7, 7)]) (Fr.put (rs := []) (fs := [(7, 1), (7, 2), (7, 3), (7, 4), (7, 5), (7, 6), (7, 7)]) (Fr.put (rs := []) (fs := [(7, 1), (7, 2), (7, 3), (7, 4), (7, 5), (7, 6), (7, 7)]) (Fr.put (rs := []) (fs := [(7, 1), (7, 2), (7, 3), (7, 4), (7, 5), (7, 6), (7, 7)]) Fr.rf eG_2 (Or.inr (by decide))) eG_6 (Or.inr (by decide))) eG_8 (Or.inr (by decide))) eG_11 (Or.inr (by decide))) eG_13 (Or.inr (by decide))) eG_16 (Or.inr (by decide))) eG_21 (Or.inr (by decide))), ((gp_ne eG_21 (by decide)).trans ((gp_ne eG_16 (by decide)).trans ((gp_ne eG_13 (by decide)).trans ((gp_ne eG_11 (by decide)).trans ((gp_ne eG_8 (by decide)).trans ((gp_ne eG_6 (by decide)).trans (gp_eq eG_2))))))), ((gp_ne eG_21 (by decide)).trans ((gp_ne eG_16 (by decide)).trans ((gp_ne eG_13 (by decide)).trans ((gp_ne eG_11 (by decide)).trans ((gp_ne eG_8 (by decide)).trans (gp_eq eG_6)))))), ((gp_ne eG_21 (by decide)).trans ((gp_ne eG_16 (by decide)).trans ((gp_ne eG_13 (by decide)).trans ((gp_ne eG_11 (by decide)).trans (gp_eq eG_8))))), ((gp_ne eG_21 (by decide)).trans ((gp_ne eG_16 (by decide)).trans ((gp_ne eG_13 (by decide)).trans (gp_eq eG_11)))), ((gp_ne eG_21 (by decide)).trans ((gp_ne eG_16 (by decide)).trans (gp_eq eG_13))), ((gp_ne eG_21 (by decide)).trans (gp_eq eG_16)), (gp_eq eG_21)⟩⟩⟩⟩⟩⟩⟩⟩⟩⟩⟩⟩⟩), wd_t ht hW⟩, hS.F ht⟩) hS.2.2 dX0_lookAt_91

set_option maxHeartbeats 4000000 in
set_option maxRecDepth 100000 in
theorem k_cFind_2 (l : Launch) (D : va_G) (k : KT) (A : Nat → Prop) (a : Nat → Nat) (z : SK) (G : GS) (p0 : Int32) (p1 : Int32) (hv_6_4 : G.2.2 6 4 = 2) : Met l yX0_findLawful (WS yX0_findLawful cX0_findLawful 6 none) ({ frames := 3, cells := 0, slots := 0, locals := 66 }) (va_Pc [.ref (a 7), .ref (a 6), .int p0, .int p1] (cW D k A a z G)) (va_Qv (fun (G1 : GS) => P_cFind_2 p0 p1 G G1) (fun (G1 : GS) t => Wd D k A a G1 t.heap) A) 0 0 A := by
  refine Met.ofW (cc := cX0_findLawful) (maxL := 6) (ret := none) (by decide) rfl ?_
  intro p e s m args below meth c s₁ B hml hv
  obtain ⟨rfl, hW, hB_G, hK, hZ⟩ := hv
  have hx := B.exec
  have hb := B.bytes
  have hr := B.returns
  have hts := atoms_spec (ws := WS yX0_findLawful cX0_findLawful 6 none) B.pre
  have hgd : ∀ w ∈ gd, w ∈ WS yX0_findLawful cX0_findLawful 6 none := fun w h => List.mem_cons_of_mem _ h
  have hg : ∀ w ∈ gd, w.before _ s = true := fun w h => hts w (hgd w h)
  have hown : s.vm.findClass RX0 = some m.cls := findClass_of_methodNamed B.named
  have hS : va_S A s.heap s.heap [] := va_S.rf
  have hF : Fr [40] [] G G := Fr.rf
  have hl := lv_entry ([.ref (a 7), .ref (a 6), .int p0, .int p1]) (n := 6) (Nat.le_of_ble_eq_true rfl)
  rw [lg_entry_eq]
  generalize (lg_sl ([.ref (a 7), .ref (a 6), .int p0, .int p1]) ++ List.replicate (6 - (lg_sl ([.ref (a 7), .ref (a 6), .int p0, .int p1])).length) Slot.unset).toArray = ls at hl ⊢
  have hl : lv_has ls 6 [(0, .ref (a 7)), (1, .ref (a 6)), (2, .int p0), (3, .int p1)] := hl
  refine ic_0 hx hb dX0_findLawful_0 ?_
  refine lv_istore (lv' := [(4, .int 0), (0, .ref (a 7)), (1, .ref (a 6)), (2, .int p0), (3, .int p1)]) hx hb dX0_findLawful_1 hl (lt_b rfl) rfl (fun ls hl => ?_)
  refine lv_aload_n hx hb dX0_findLawful_3 rfl (lv_at hl 1 rfl) ?_
  have b_1 : 0 ≤ (G.1 7 1).toInt ∧ (G.1 7 1).toInt ≤ 400 := bd_7_1 hB_G
  refine S_getI (v := (G.1 7 1)) (C := RX0) (T := TX0) (N := 8) hx hb hg iX0 hown hK hW kd_7 rfl 1 (lt_b rfl) (hg (Cond.fieldLink RX0 21 "SlabWalk$Course" "length" "I") m375) (fun _ h9 => h9) rfl rfl dX0_findLawful_4 ?_
  refine ic_1 hx hb dX0_findLawful_7 ?_
  refine lv_isub hx hb dX0_findLawful_8 ?_
  refine lv_topi (fun y_2 ey_2 => ?_)
  have ty_2 : y_2.toInt = (G.1 7 1).toInt - 1 := xI_sub rfl rfl ey_2 (by omega) (by omega)
  refine lv_istore (lv' := [(5, .int y_2), (4, .int 0), (0, .ref (a 7)), (1, .ref (a 6)), (2, .int p0), (3, .int p1)]) hx hb dX0_findLawful_9 hl (lt_b rfl) rfl (fun ls hl => ?_)
  have qc_10 : (0 : Int32).toInt = 0 := rfl
  refine loop_N (Inv := fun n H locs ls => ∃ (G_3 : GS) (x_7 : Int32) (x_8 : Int32), (n : Int) = x_7.toInt - (-1) ∧ ((-1) ≤ x_7.toInt ∧ x_7.toInt ≤ 399) ∧ Rc (St_k_cFind_2_1 p0 p1 G) (y_2, 0, G) (x_7, x_8, G_3) ∧ Wd D k A a G_3 H ∧ Bd G_3 ∧ Fr [40] [] G G_3 ∧ Fr [40] [] G G_3 ∧ va_S A s.heap H locs ∧ lv_has ls 6 [(5, .int x_7), (4, .int x_8), (0, .ref (a 7)), (1, .ref (a 6)), (2, .int p0), (3, .int p1)]) (fun n_6 H locs ls ih_5 hI => ?_) (y_2.toInt - (-1) : Int).toNat ⟨G, y_2, 0, (Int.toNat_of_nonneg (by omega)), ⟨by omega, by omega⟩, Rc.rf, hW, hB_G, hF, Fr.rf, hS, lv_sub hl [0, 1, 2, 3, 4, 5] rfl⟩
  obtain ⟨G_3, x_7, x_8, hn_12, f_11, hX_9, hW, hB_G_3, hF, hq_4, hS, hl⟩ := hI
  refine lv_iload hx hb dX0_findLawful_11 (lv_at hl 0 rfl) ?_
  refine lv_if_lt (tgt := 64) hx hb dX0_findLawful_13 rfl (fun c_13 => ?_) (fun c_13 => ?_)
  · have c_13 : x_7.toInt < 0 := xI_lt rfl rfl c_13
    exact W.vret hx hb hr (fun t ht _ => ⟨⟨G_3, rfl, (P_cFind_2_mk ⟨hB_G_3, hF, ⟨y_2, ty_2, ⟨x_7, x_8, G_3, hX_9, f_11, hB_G_3, hq_4, ⟨c_13, rfl⟩⟩⟩⟩), wd_t ht hW⟩, hS.F ht⟩) hS.2.2 dX0_findLawful_64
  · have c_13 : 0 ≤ x_7.toInt := xI_nlt rfl rfl c_13
    refine lv_aload_n hx hb dX0_findLawful_16 rfl (lv_at hl 3 rfl) ?_
    refine lv_iload_n hx hb dX0_findLawful_17 rfl (lv_at hl 4 rfl) ?_
    refine lv_iload_n hx hb dX0_findLawful_18 rfl (lv_at hl 5 rfl) ?_
    refine lv_iload hx hb dX0_findLawful_19 (lv_at hl 0 rfl) ?_
    refine S_calli (va_runV (As := [.int p0, .int p1, .int x_7]) (rest := []) ⟨hx, hb, hml, hown, hts⟩ (k_lIsLine_2 l D k A a z G_3 p0 p1 x_7 (((hq_4.r9 6 4 rfl rfl)).trans (hv_6_4))) (cwV 3 hts (gd_V hgd m988 m941 m942 m122 m943) rfl rfl rfl hd_X3_isLine ⟨Nat.le_of_ble_eq_true rfl, Nat.le_of_ble_eq_true rfl⟩) (pre_W hW hB_G_3 hK hZ hS kd_6 rfl) rfl rfl hl.1 rfl (lv_room (Nat.le_of_ble_eq_true rfl)) dX0_findLawful_21 ⟨Nat.le_of_ble_eq_true rfl, Nat.le_of_ble_eq_true rfl⟩) hS (fun r_14 G_15 H locs hpo hW hS => ?_)
    have hX_18 : P_lIsLine_2 p0 p1 x_7 G_3 r_14 G_15 := hpo
    obtain ⟨hB_G_15, hq_16, f_19, -⟩ := hpo
    have hF := hF.call9 hq_16 rfl rfl
    refine lv_if_eq (tgt := 31) hx hb dX0_findLawful_24 rfl (fun c_20 => ?_) (fun c_20 => ?_)
    · have c_20 : r_14.toInt = 0 := xI_eq rfl rfl c_20
      refine lv_iload hx hb dX0_findLawful_31 (lv_at hl 1 rfl) ?_
      refine ic_1 hx hb dX0_findLawful_33 ?_
      refine lv_iadd hx hb dX0_findLawful_34 ?_
      refine lv_topi (fun y_21 ey_21 => ?_)
      refine lv_istore (lv' := [(4, .int y_21), (5, .int x_7), (0, .ref (a 7)), (1, .ref (a 6)), (2, .int p0), (3, .int p1)]) hx hb dX0_findLawful_35 hl (lt_b rfl) rfl (fun ls hl => ?_)
      refine lv_aload_n hx hb dX0_findLawful_37 rfl (lv_at hl 2 rfl) ?_
      refine S_getR (n := 40) (C := RX0) (T := TX0) (N := 8) hx hb hg iX0 hown hK hW kd_7 rfl 0 (lt_b rfl) (hg (Cond.fieldLink RX0 9 "SlabWalk$Course" "lawful" "[Z") m371) (fun _ h9 => h9) rfl dX0_findLawful_38 ?_
      refine lv_iload hx hb dX0_findLawful_41 (lv_at hl 1 rfl) ?_
      refine lv_iload hx hb dX0_findLawful_43 (lv_at hl 0 rfl) ?_
      refine lv_aload_n hx hb dX0_findLawful_45 rfl (lv_at hl 2 rfl) ?_
      have b_22 : 0 ≤ (G.1 7 2).toInt ∧ (G.1 7 2).toInt ≤ 12 := bd_7_2 hB_G
      refine S_getI (v := (G.1 7 2)) (C := RX0) (T := TX0) (N := 8) hx hb hg iX0 hown hK hW kd_7 rfl 2 (lt_b rfl) (hg (Cond.fieldLink RX0 27 "SlabWalk$Course" "foot" "I") m376) (fun _ h9 => h9) rfl ((hq_16.i9 7 2 rfl rfl).trans (hq_4.i9 7 2 rfl rfl)) dX0_findLawful_46 ?_
      refine lv_icmp_lt (tgt := 56) hx hb dX0_findLawful_49 rfl (fun c_23 => ?_) (fun c_23 => ?_)
      · have c_23 : y_21.toInt < (G.1 7 2).toInt := xI_lt rfl rfl c_23
        refine ic_0 hx hb dX0_findLawful_56 ?_
        refine S_zast hx hb hK hW hS kd_40 (vin ((by first | (clear b_1 ty_2 hn_12 f_19 c_20 b_22 c_23; omega) | omega)) ((by first | (clear b_1 ty_2 hn_12 f_19 c_20 b_22 c_23; omega) | omega))) dX0_findLawful_57 (fun G_24 H locs eG_24 hW hS => ?_)
        have hB_G_24 : Bd G_24 := hB_G_15.put (lo := 0) (hi := 1) eG_24 rfl rfl rfl nz_bool.1 nz_bool.2 (hB_G_15.2.put eG_24 rfl)
        have hF := hF.put eG_24 (Or.inl (by decide))
        obtain ⟨y_25, ey_25⟩ : ∃ q, q = x_7 + (-1) := ⟨_, rfl⟩
        have ty_25 : y_25.toInt = x_7.toInt + (-1) := xI_add rfl rfl ey_25 ((by first | (clear b_1 ty_2 hn_12 f_19 c_20 b_22 c_23; omega) | omega)) ((by first | (clear b_1 ty_2 hn_12 f_19 c_20 b_22 c_23; omega) | omega))
        refine lv_iinc (v := y_25) (lv' := [(5, .int y_25), (4, .int y_21), (0, .ref (a 7)), (1, .ref (a 6)), (2, .int p0), (3, .int p1)]) hx hb dX0_findLawful_58 hl (k := 1) rfl (by rw [ey_25]; rfl) (lt_b rfl) rfl (fun ls hl => ?_)
        refine lv_goto (tgt := 11) hx hb dX0_findLawful_61 rfl ?_
        exact ih_5 (y_25.toInt - (-1) : Int).toNat ((by first | (clear b_1 ty_2 f_19 c_20 b_22 c_23; omega) | omega)) _ _ _ ⟨G_24, y_25, y_21, (Int.toNat_of_nonneg ((by first | (clear b_1 ty_2 hn_12 f_19 c_20 b_22 c_23; omega) | omega))), ⟨(by first | (clear b_1 ty_2 hn_12 f_19 c_20 b_22 c_23; omega) | omega), (by first | (clear b_1 ty_2 hn_12 f_19 c_20 b_22 c_23; omega) | omega)⟩, (hX_9.st (St_k_cFind_2_1_mk ⟨x_7, x_8, G_3, y_25, y_21, G_24, rfl, rfl, f_11, hB_G_3, ⟨c_13, ⟨r_14, G_15, hX_18, (Or.inl ⟨c_20, ⟨y_21, ey_21, (Or.inl ⟨c_23, ⟨y_25, ty_25, ⟨rfl, rfl, (Fr.put (rs := [40]) (fs := []) Fr.rf eG_24 (Or.inl (by decide))), rw_ast eG_24⟩⟩⟩)⟩⟩)⟩⟩⟩)), hW, hB_G_24, hF, (Fr.put (rs := [40]) (fs := []) (Fr.call9 (rs := [40]) (fs := []) (Fr.call9 (rs := [40]) (fs := []) Fr.rf hq_4 rfl rfl) hq_16 rfl rfl) eG_24 (Or.inl (by decide))), hS, lv_sub hl [0, 1, 2, 3, 4, 5] rfl⟩
      · have c_23 : (G.1 7 2).toInt ≤ y_21.toInt := xI_nlt rfl rfl c_23
        refine ic_1 hx hb dX0_findLawful_52 ?_
        refine lv_goto (tgt := 57) hx hb dX0_findLawful_53 rfl ?_
        refine S_zast hx hb hK hW hS kd_40 (vin ((by first | (clear b_1 ty_2 hn_12 f_19 c_20 b_22 c_23; omega) | omega)) ((by first | (clear b_1 ty_2 hn_12 f_19 c_20 b_22 c_23; omega) | omega))) dX0_findLawful_57 (fun G_26 H locs eG_26 hW hS => ?_)
        have hB_G_26 : Bd G_26 := hB_G_15.put (lo := 0) (hi := 1) eG_26 rfl rfl rfl nz_bool.1 nz_bool.2 (hB_G_15.2.put eG_26 rfl)
        have hF := hF.put eG_26 (Or.inl (by decide))
        obtain ⟨y_27, ey_27⟩ : ∃ q, q = x_7 + (-1) := ⟨_, rfl⟩
        have ty_27 : y_27.toInt = x_7.toInt + (-1) := xI_add rfl rfl ey_27 ((by first | (clear b_1 ty_2 hn_12 f_19 c_20 b_22 c_23; omega) | omega)) ((by first | (clear b_1 ty_2 hn_12 f_19 c_20 b_22 c_23; omega) | omega))
        refine lv_iinc (v := y_27) (lv' := [(5, .int y_27), (4, .int y_21), (0, .ref (a 7)), (1, .ref (a 6)), (2, .int p0), (3, .int p1)]) hx hb dX0_findLawful_58 hl (k := 1) rfl (by rw [ey_27]; rfl) (lt_b rfl) rfl (fun ls hl => ?_)
        refine lv_goto (tgt := 11) hx hb dX0_findLawful_61 rfl ?_
        exact ih_5 (y_27.toInt - (-1) : Int).toNat ((by first | (clear b_1 ty_2 f_19 c_20 b_22 c_23; omega) | omega)) _ _ _ ⟨G_26, y_27, y_21, (Int.toNat_of_nonneg ((by first | (clear b_1 ty_2 hn_12 f_19 c_20 b_22 c_23; omega) | omega))), ⟨(by first | (clear b_1 ty_2 hn_12 f_19 c_20 b_22 c_23; omega) | omega), (by first | (clear b_1 ty_2 hn_12 f_19 c_20 b_22 c_23; omega) | omega)⟩, (hX_9.st (St_k_cFind_2_1_mk ⟨x_7, x_8, G_3, y_27, y_21, G_26, rfl, rfl, f_11, hB_G_3, ⟨c_13, ⟨r_14, G_15, hX_18, (Or.inl ⟨c_20, ⟨y_21, ey_21, (Or.inr ⟨c_23, ⟨y_27, ty_27, ⟨rfl, rfl, (Fr.put (rs := [40]) (fs := []) Fr.rf eG_26 (Or.inl (by decide))), rw_ast eG_26⟩⟩⟩)⟩⟩)⟩⟩⟩)), hW, hB_G_26, hF, (Fr.put (rs := [40]) (fs := []) (Fr.call9 (rs := [40]) (fs := []) (Fr.call9 (rs := [40]) (fs := []) Fr.rf hq_4 rfl rfl) hq_16 rfl rfl) eG_26 (Or.inl (by decide))), hS, lv_sub hl [0, 1, 2, 3, 4, 5] rfl⟩
    · have c_20 : r_14.toInt ≠ 0 := xI_ne rfl rfl c_20
      refine ic_0 hx hb dX0_findLawful_27 ?_
      refine lv_goto (tgt := 35) hx hb dX0_findLawful_28 rfl ?_
      refine lv_istore (lv' := [(4, .int 0), (5, .int x_7), (0, .ref (a 7)), (1, .ref (a 6)), (2, .int p0), (3, .int p1)]) hx hb dX0_findLawful_35 hl (lt_b rfl) rfl (fun ls hl => ?_)
      refine lv_aload_n hx hb dX0_findLawful_37 rfl (lv_at hl 2 rfl) ?_
      refine S_getR (n := 40) (C := RX0) (T := TX0) (N := 8) hx hb hg iX0 hown hK hW kd_7 rfl 0 (lt_b rfl) (hg (Cond.fieldLink RX0 9 "SlabWalk$Course" "lawful" "[Z") m371) (fun _ h9 => h9) rfl dX0_findLawful_38 ?_
      refine lv_iload hx hb dX0_findLawful_41 (lv_at hl 1 rfl) ?_
      refine lv_iload hx hb dX0_findLawful_43 (lv_at hl 0 rfl) ?_
      refine lv_aload_n hx hb dX0_findLawful_45 rfl (lv_at hl 2 rfl) ?_
      have b_28 : 0 ≤ (G.1 7 2).toInt ∧ (G.1 7 2).toInt ≤ 12 := bd_7_2 hB_G
      refine S_getI (v := (G.1 7 2)) (C := RX0) (T := TX0) (N := 8) hx hb hg iX0 hown hK hW kd_7 rfl 2 (lt_b rfl) (hg (Cond.fieldLink RX0 27 "SlabWalk$Course" "foot" "I") m376) (fun _ h9 => h9) rfl ((hq_16.i9 7 2 rfl rfl).trans (hq_4.i9 7 2 rfl rfl)) dX0_findLawful_46 ?_
      refine lv_icmp_lt (tgt := 56) hx hb dX0_findLawful_49 rfl (fun c_29 => ?_) (fun c_29 => ?_)
      · have c_29 : 0 < (G.1 7 2).toInt := xI_lt rfl rfl c_29
        refine ic_0 hx hb dX0_findLawful_56 ?_
        refine S_zast hx hb hK hW hS kd_40 (vin ((by first | (clear b_1 ty_2 hn_12 f_19 c_20 b_28 c_29; omega) | omega)) ((by first | (clear b_1 ty_2 hn_12 f_19 c_20 b_28 c_29; omega) | omega))) dX0_findLawful_57 (fun G_30 H locs eG_30 hW hS => ?_)
        have hB_G_30 : Bd G_30 := hB_G_15.put (lo := 0) (hi := 1) eG_30 rfl rfl rfl nz_bool.1 nz_bool.2 (hB_G_15.2.put eG_30 rfl)
        have hF := hF.put eG_30 (Or.inl (by decide))
        obtain ⟨y_31, ey_31⟩ : ∃ q, q = x_7 + (-1) := ⟨_, rfl⟩
        have ty_31 : y_31.toInt = x_7.toInt + (-1) := xI_add rfl rfl ey_31 ((by first | (clear b_1 ty_2 hn_12 f_19 c_20 b_28 c_29; omega) | omega)) ((by first | (clear b_1 ty_2 hn_12 f_19 c_20 b_28 c_29; omega) | omega))
        refine lv_iinc (v := y_31) (lv' := [(5, .int y_31), (4, .int 0), (0, .ref (a 7)), (1, .ref (a 6)), (2, .int p0), (3, .int p1)]) hx hb dX0_findLawful_58 hl (k := 1) rfl (by rw [ey_31]; rfl) (lt_b rfl) rfl (fun ls hl => ?_)
        refine lv_goto (tgt := 11) hx hb dX0_findLawful_61 rfl ?_
        have qc_32 : (0 : Int32).toInt = 0 := rfl
        exact ih_5 (y_31.toInt - (-1) : Int).toNat ((by first | (clear b_1 ty_2 f_19 c_20 b_28 c_29; omega) | omega)) _ _ _ ⟨G_30, y_31, 0, (Int.toNat_of_nonneg ((by first | (clear b_1 ty_2 hn_12 f_19 c_20 b_28 c_29; omega) | omega))), ⟨(by first | (clear b_1 ty_2 hn_12 f_19 c_20 b_28 c_29; omega) | omega), (by first | (clear b_1 ty_2 hn_12 f_19 c_20 b_28 c_29; omega) | omega)⟩, (hX_9.st (St_k_cFind_2_1_mk ⟨x_7, x_8, G_3, y_31, 0, G_30, rfl, rfl, f_11, hB_G_3, ⟨c_13, ⟨r_14, G_15, hX_18, (Or.inr ⟨c_20, (Or.inl ⟨c_29, ⟨y_31, ty_31, ⟨rfl, rfl, (Fr.put (rs := [40]) (fs := []) Fr.rf eG_30 (Or.inl (by decide))), rw_ast eG_30⟩⟩⟩)⟩)⟩⟩⟩)), hW, hB_G_30, hF, (Fr.put (rs := [40]) (fs := []) (Fr.call9 (rs := [40]) (fs := []) (Fr.call9 (rs := [40]) (fs := []) Fr.rf hq_4 rfl rfl) hq_16 rfl rfl) eG_30 (Or.inl (by decide))), hS, lv_sub hl [0, 1, 2, 3, 4, 5] rfl⟩
      · have c_29 : (G.1 7 2).toInt ≤ 0 := xI_nlt rfl rfl c_29
        refine ic_1 hx hb dX0_findLawful_52 ?_
        refine lv_goto (tgt := 57) hx hb dX0_findLawful_53 rfl ?_
        refine S_zast hx hb hK hW hS kd_40 (vin ((by first | (clear b_1 ty_2 hn_12 f_19 c_20 b_28 c_29; omega) | omega)) ((by first | (clear b_1 ty_2 hn_12 f_19 c_20 b_28 c_29; omega) | omega))) dX0_findLawful_57 (fun G_33 H locs eG_33 hW hS => ?_)
        have hB_G_33 : Bd G_33 := hB_G_15.put (lo := 0) (hi := 1) eG_33 rfl rfl rfl nz_bool.1 nz_bool.2 (hB_G_15.2.put eG_33 rfl)
        have hF := hF.put eG_33 (Or.inl (by decide))
        obtain ⟨y_34, ey_34⟩ : ∃ q, q = x_7 + (-1) := ⟨_, rfl⟩
        have ty_34 : y_34.toInt = x_7.toInt + (-1) := xI_add rfl rfl ey_34 ((by first | (clear b_1 ty_2 hn_12 f_19 c_20 b_28 c_29; omega) | omega)) ((by first | (clear b_1 ty_2 hn_12 f_19 c_20 b_28 c_29; omega) | omega))
        refine lv_iinc (v := y_34) (lv' := [(5, .int y_34), (4, .int 0), (0, .ref (a 7)), (1, .ref (a 6)), (2, .int p0), (3, .int p1)]) hx hb dX0_findLawful_58 hl (k := 1) rfl (by rw [ey_34]; rfl) (lt_b rfl) rfl (fun ls hl => ?_)
        refine lv_goto (tgt := 11) hx hb dX0_findLawful_61 rfl ?_
        have qc_35 : (0 : Int32).toInt = 0 := rfl
        exact ih_5 (y_34.toInt - (-1) : Int).toNat ((by first | (clear b_1 ty_2 f_19 c_20 b_28 c_29; omega) | omega)) _ _ _ ⟨G_33, y_34, 0, (Int.toNat_of_nonneg ((by first | (clear b_1 ty_2 hn_12 f_19 c_20 b_28 c_29; omega) | omega))), ⟨(by first | (clear b_1 ty_2 hn_12 f_19 c_20 b_28 c_29; omega) | omega), (by first | (clear b_1 ty_2 hn_12 f_19 c_20 b_28 c_29; omega) | omega)⟩, (hX_9.st (St_k_cFind_2_1_mk ⟨x_7, x_8, G_3, y_34, 0, G_33, rfl, rfl, f_11, hB_G_3, ⟨c_13, ⟨r_14, G_15, hX_18, (Or.inr ⟨c_20, (Or.inr ⟨c_29, ⟨y_34, ty_34, ⟨rfl, rfl, (Fr.put (rs := [40]) (fs := []) Fr.rf eG_33 (Or.inl (by decide))), rw_ast eG_33⟩⟩⟩)⟩)⟩⟩⟩)), hW, hB_G_33, hF, (Fr.put (rs := [40]) (fs := []) (Fr.call9 (rs := [40]) (fs := []) (Fr.call9 (rs := [40]) (fs := []) Fr.rf hq_4 rfl rfl) hq_16 rfl rfl) eG_33 (Or.inl (by decide))), hS, lv_sub hl [0, 1, 2, 3, 4, 5] rfl⟩
