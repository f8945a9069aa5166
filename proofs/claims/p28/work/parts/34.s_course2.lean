

set_option maxHeartbeats 4000000 in
set_option maxRecDepth 100000 in
theorem k_cLook_2 (l : Launch) (D : va_G) (k : KT) (A : Nat → Prop) (a : Nat → Nat) (z : SK) (G : GS) (p0 : Int32) (p1 : Int32) (ha_p0 : 0 ≤ p0.toInt ∧ p0.toInt ≤ 3) (ha_p1 : 0 ≤ p1.toInt ∧ p1.toInt ≤ 2) (hw : p0.toInt < (G.1 2 10).toInt) : Met l yX0_lookAt (WS yX0_lookAt cX0_lookAt 4 none) ({ frames := 1, cells := 0, slots := 0, locals := 14 }) (va_Pc [.ref (a 7), .ref (a 2), .int p0, .int p1] (cW D k A a z G)) (va_Qv (fun (G1 : GS) => P_cLook_2 p0 p1 G G1) (fun (G1 : GS) t => Wd D k A a G1 t.heap) A) 0 0 A := by
  refine Met.ofW (cc := cX0_lookAt) (maxL := 4) (ret := none) (by decide) rfl ?_
  intro p e s m args below meth c s₁ B hml hv
  obtain ⟨rfl, hW, hB_G, hK, hZ⟩ := hv
  have hx := B.exec
  have hb := B.bytes
  have hr := B.returns
  have hts := atoms_spec (ws := WS yX0_lookAt cX0_lookAt 4 none) B.pre
  have hgd : ∀ w ∈ gd, w ∈ WS yX0_lookAt cX0_lookAt 4 none := fun w h => List.mem_cons_of_mem _ h
  have hg : ∀ w ∈ gd, w.before _ s = true := fun w h => hts w (hgd w h)
  have hown : s.vm.findClass RX0 = some m.cls := findClass_of_methodNamed B.named
  have hS : va_S A s.heap s.heap [] := va_S.rf
  have hF : Fr [] [(7, 1), (7, 2), (7, 3), (7, 4), (7, 5), (7, 6), (7, 7)] G G := Fr.rf
  have hl := lv_entry ([.ref (a 7), .ref (a 2), .int p0, .int p1]) (n := 4) (Nat.le_of_ble_eq_true rfl)
  rw [lg_entry_eq]
  generalize (lg_sl ([.ref (a 7), .ref (a 2), .int p0, .int p1]) ++ List.replicate (4 - (lg_sl ([.ref (a 7), .ref (a 2), .int p0, .int p1])).length) Slot.unset).toArray = ls at hl ⊢
  have hl : lv_has ls 4 [(0, .ref (a 7)), (1, .ref (a 2)), (2, .int p0), (3, .int p1)] := hl
  refine lv_aload_n hx hb dX0_lookAt_0 rfl (lv_at hl 0 rfl) ?_
  refine lv_aload_n hx hb dX0_lookAt_1 rfl (lv_at hl 1 rfl) ?_
  refine S_getR (n := 20) (C := RX6) (T := TX6) (N := 17) hx hb hg iX6 hown hK hW kd_2 rfl 0 (lt_b rfl) (hg (Cond.fieldLink RX0 15 "SlabWalk$Paving" "length" "[I") m157) (fun _ h9 => h9) rfl dX0_lookAt_2 ?_
  refine lv_iload_n hx hb dX0_lookAt_5 rfl (lv_at hl 3 rfl) ?_
  refine S_iald hx hb hK hW kd_20 (vin ((by first | exact ha_p1.1 | omega)) ((by first | exact ok_174 ha_p1.2 | omega))) dX0_lookAt_6 (fun y_1 ey_1 => ?_)
  have ty_1 : 0 ≤ y_1.toInt ∧ y_1.toInt ≤ 400 := bv_20 hB_G ey_1
  refine S_putI (ty := .int) (C := RX0) (T := TX0) (N := 8) hx hb hg iX0 tyX0 tyX0_ok nmX0 hown hK hW hS kd_7 rfl 1 (lt_b rfl) (hg (Cond.fieldLink RX0 21 "SlabWalk$Course" "length" "I") m375) (fun _ h9 => h9) rfl (by decide +kernel) rfl rfl rfl dX0_lookAt_7 (fun G_2 H locs eG_2 hW hS => ?_)
  have hB_G_2 : Bd G_2 := hB_G.put (V := y_1.toInt) (lo := 0) (hi := 400) eG_2 rfl rfl rfl ((by first | exact ty_1.1 | omega)) ((by first | exact ty_1.2 | omega)) (hB_G.2.put eG_2 rfl)
  have hF := hF.put eG_2 (Or.inr (by decide))
  refine lv_aload_n hx hb dX0_lookAt_10 rfl (lv_at hl 0 rfl) ?_
  refine lv_aload_n hx hb dX0_lookAt_11 rfl (lv_at hl 1 rfl) ?_
  refine S_getR (n := 22) (C := RX6) (T := TX6) (N := 17) hx hb hg iX6 hown hK hW kd_2 rfl 2 (lt_b rfl) (hg (Cond.fieldLink RX0 24 "SlabWalk$Paving" "foot" "[I") m163) (fun _ h9 => h9) rfl dX0_lookAt_12 ?_
  refine lv_iload_n hx hb dX0_lookAt_15 rfl (lv_at hl 2 rfl) ?_
  refine S_iald hx hb hK hW kd_22 (vin ((by first | exact ha_p0.1 | omega)) ((by first | exact ok_175 ha_p0.2 | omega))) dX0_lookAt_16 (fun y_3 ey_3 => ?_)
  have ty_3 : 0 ≤ y_3.toInt ∧ y_3.toInt ≤ 12 := bv_22 hB_G_2 ey_3
  have b_4 : 0 ≤ (G.1 2 10).toInt ∧ (G.1 2 10).toInt ≤ 4 := bd_2_10 hB_G
  have u_5 : 1 ≤ y_3.toInt := by have q := (hB_G_2.2.of2 (w := p0.toNatClampNeg) (by rw [tN (by omega), show G_2.1 2 10 = (G.1 2 10) from (gp_ne eG_2 (by decide))]; omega)).1; rw [← ey_3] at q; exact q
  refine S_putI (ty := .int) (C := RX0) (T := TX0) (N := 8) hx hb hg iX0 tyX0 tyX0_ok nmX0 hown hK hW hS kd_7 rfl 2 (lt_b rfl) (hg (Cond.fieldLink RX0 27 "SlabWalk$Course" "foot" "I") m376) (fun _ h9 => h9) rfl (by decide +kernel) rfl rfl rfl dX0_lookAt_17 (fun G_6 H locs eG_6 hW hS => ?_)
  have hB_G_6 : Bd G_6 := hB_G_2.put (V := y_3.toInt) (lo := 0) (hi := 12) eG_6 rfl rfl rfl ((by first | exact ty_3.1 | omega)) ((by first | exact ty_3.2 | omega)) (hB_G_2.2.put eG_6 rfl)
  have hF := hF.put eG_6 (Or.inr (by decide))
  refine lv_aload_n hx hb dX0_lookAt_20 rfl (lv_at hl 0 rfl) ?_
  refine lv_aload_n hx hb dX0_lookAt_21 rfl (lv_at hl 1 rfl) ?_
  refine S_getR (n := 23) (C := RX6) (T := TX6) (N := 17) hx hb hg iX6 hown hK hW kd_2 rfl 3 (lt_b rfl) (hg (Cond.fieldLink RX0 29 "SlabWalk$Paving" "least" "[I") m167) (fun _ h9 => h9) rfl dX0_lookAt_22 ?_
  refine lv_iload_n hx hb dX0_lookAt_25 rfl (lv_at hl 2 rfl) ?_
  refine S_iald hx hb hK hW kd_23 (vin ((by first | exact ha_p0.1 | omega)) ((by first | exact ok_175 ha_p0.2 | omega))) dX0_lookAt_26 (fun y_7 ey_7 => ?_)
  have ty_7 : 0 ≤ y_7.toInt ∧ y_7.toInt ≤ 60 := bv_23 hB_G_6 ey_7
  refine S_putI (ty := .int) (C := RX0) (T := TX0) (N := 8) hx hb hg iX0 tyX0 tyX0_ok nmX0 hown hK hW hS kd_7 rfl 3 (lt_b rfl) (hg (Cond.fieldLink RX0 32 "SlabWalk$Course" "least" "I") m377) (fun _ h9 => h9) rfl (by decide +kernel) rfl rfl rfl dX0_lookAt_27 (fun G_8 H locs eG_8 hW hS => ?_)
  have hB_G_8 : Bd G_8 := hB_G_6.put (V := y_7.toInt) (lo := 0) (hi := 60) eG_8 rfl rfl rfl ((by first | exact ty_7.1 | omega)) ((by first | exact ty_7.2 | omega)) (hB_G_6.2.put eG_8 rfl)
  have hF := hF.put eG_8 (Or.inr (by decide))
  refine lv_aload_n hx hb dX0_lookAt_30 rfl (lv_at hl 0 rfl) ?_
  refine lv_aload_n hx hb dX0_lookAt_31 rfl (lv_at hl 1 rfl) ?_
  refine S_getR (n := 24) (C := RX6) (T := TX6) (N := 17) hx hb hg iX6 hown hK hW kd_2 rfl 4 (lt_b rfl) (hg (Cond.fieldLink RX0 34 "SlabWalk$Paving" "most" "[I") m171) (fun _ h9 => h9) rfl dX0_lookAt_32 ?_
  refine lv_iload_n hx hb dX0_lookAt_35 rfl (lv_at hl 2 rfl) ?_
  refine S_iald hx hb hK hW kd_24 (vin ((by first | exact ha_p0.1 | omega)) ((by first | exact ok_175 ha_p0.2 | omega))) dX0_lookAt_36 (fun y_9 ey_9 => ?_)
  have ty_9 : 0 ≤ y_9.toInt ∧ y_9.toInt ≤ 60 := bv_24 hB_G_8 ey_9
  have u_10 : y_7.toInt ≤ y_9.toInt := by have q := (hB_G_8.2.of2 (w := p0.toNatClampNeg) (by rw [tN (by first | (clear ha_p1 ty_1 ty_3 u_5; omega) | omega), show G_8.1 2 10 = (G.1 2 10) from ((gp_ne eG_8 (by decide)).trans ((gp_ne eG_6 (by decide)).trans ((gp_ne eG_2 (by decide)).trans (rfl))))]; omega)).2; rw [← ey_9, show G_8.1 23 p0.toNatClampNeg = y_7 from ((gp_ne eG_8 (fun q => absurd q.1 (Nat.ne_of_beq_eq_false rfl))).trans (ey_7.symm))] at q; exact q
  refine S_putI (ty := .int) (C := RX0) (T := TX0) (N := 8) hx hb hg iX0 tyX0 tyX0_ok nmX0 hown hK hW hS kd_7 rfl 4 (lt_b rfl) (hg (Cond.fieldLink RX0 37 "SlabWalk$Course" "most" "I") m382) (fun _ h9 => h9) rfl (by decide +kernel) rfl rfl rfl dX0_lookAt_37 (fun G_11 H locs eG_11 hW hS => ?_)
  have hB_G_11 : Bd G_11 := hB_G_8.put (V := y_9.toInt) (lo := 0) (hi := 60) eG_11 rfl rfl rfl ((by first | exact ty_9.1 | omega)) ((by first | exact ty_9.2 | omega)) (hB_G_8.2.put eG_11 rfl)
  have hF := hF.put eG_11 (Or.inr (by decide))
  refine lv_aload_n hx hb dX0_lookAt_40 rfl (lv_at hl 0 rfl) ?_
  refine lv_aload_n hx hb dX0_lookAt_41 rfl (lv_at hl 1 rfl) ?_
  refine S_getR (n := 25) (C := RX6) (T := TX6) (N := 17) hx hb hg iX6 hown hK hW kd_2 rfl 5 (lt_b rfl) (hg (Cond.fieldLink RX0 39 "SlabWalk$Paving" "leap" "[I") m175) (fun _ h9 => h9) rfl dX0_lookAt_42 ?_
  refine lv_iload_n hx hb dX0_lookAt_45 rfl (lv_at hl 2 rfl) ?_
  refine S_iald hx hb hK hW kd_25 (vin ((by first | exact ha_p0.1 | omega)) ((by first | exact ok_175 ha_p0.2 | omega))) dX0_lookAt_46 (fun y_12 ey_12 => ?_)
  have ty_12 : 0 ≤ y_12.toInt ∧ y_12.toInt ≤ 99 := bv_25 hB_G_11 ey_12
  refine S_putI (ty := .int) (C := RX0) (T := TX0) (N := 8) hx hb hg iX0 tyX0 tyX0_ok nmX0 hown hK hW hS kd_7 rfl 5 (lt_b rfl) (hg (Cond.fieldLink RX0 42 "SlabWalk$Course" "leap" "I") m385) (fun _ h9 => h9) rfl (by decide +kernel) rfl rfl rfl dX0_lookAt_47 (fun G_13 H locs eG_13 hW hS => ?_)
  have hB_G_13 : Bd G_13 := hB_G_11.put (V := y_12.toInt) (lo := 0) (hi := 99) eG_13 rfl rfl rfl ((by first | exact ty_12.1 | omega)) ((by first | exact ty_12.2 | omega)) (hB_G_11.2.put eG_13 rfl)
  have hF := hF.put eG_13 (Or.inr (by decide))
  refine lv_aload_n hx hb dX0_lookAt_50 rfl (lv_at hl 0 rfl) ?_
  refine ic_m1 hx hb dX0_lookAt_51 ?_
  refine lv_aload_n hx hb dX0_lookAt_52 rfl (lv_at hl 0 rfl) ?_
  refine S_getI (v := y_1) (C := RX0) (T := TX0) (N := 8) hx hb hg iX0 hown hK hW kd_7 rfl 1 (lt_b rfl) (hg (Cond.fieldLink RX0 21 "SlabWalk$Course" "length" "I") m375) (fun _ h9 => h9) rfl ((gp_ne eG_13 (by decide)).trans ((gp_ne eG_11 (by decide)).trans ((gp_ne eG_8 (by decide)).trans ((gp_ne eG_6 (by decide)).trans (gp_eq eG_2))))) dX0_lookAt_53 ?_
  refine lv_aload_n hx hb dX0_lookAt_56 rfl (lv_at hl 0 rfl) ?_
  refine S_getI (v := y_3) (C := RX0) (T := TX0) (N := 8) hx hb hg iX0 hown hK hW kd_7 rfl 2 (lt_b rfl) (hg (Cond.fieldLink RX0 27 "SlabWalk$Course" "foot" "I") m376) (fun _ h9 => h9) rfl ((gp_ne eG_13 (by decide)).trans ((gp_ne eG_11 (by decide)).trans ((gp_ne eG_8 (by decide)).trans (gp_eq eG_6)))) dX0_lookAt_57 ?_
  refine lv_isub hx hb dX0_lookAt_60 ?_
  refine lv_topi (fun y_14 ey_14 => ?_)
  have ty_14 : y_14.toInt = y_1.toInt - y_3.toInt := xI_sub rfl rfl ey_14 ((by first | exact ok_7 ty_1.1 ty_3.2 | omega)) ((by first | exact ok_8 ty_1.2 u_5 | omega))
  refine va_mmax hx hb (by rw [hml]; exact hl.1.symm) hown (hg (Cond.methodLink RX0 44 Lib.Math.max.name) m983) (hg (Cond.static Lib.Math.max.name) m728) (hg (Cond.initialized "java/lang/Math") m132) (hg (Cond.code Lib.Math.max.name Lib.Math.max.code 2 (some .int)) m729) (Nat.le_of_ble_eq_true rfl) (Nat.le_of_ble_eq_true rfl) (Nat.le_of_ble_eq_true rfl) (Nat.le_of_ble_eq_true rfl) dX0_lookAt_61 ?_
  refine lv_topi (fun y_15 ey_15 => ?_)
  have ty_15 := xI_max (X := (-1)) (Y := y_14.toInt) rfl rfl ey_15
  refine S_putI (ty := .int) (C := RX0) (T := TX0) (N := 8) hx hb hg iX0 tyX0 tyX0_ok nmX0 hown hK hW hS kd_7 rfl 6 (lt_b rfl) (hg (Cond.fieldLink RX0 50 "SlabWalk$Course" "last" "I") m390) (fun _ h9 => h9) rfl (by decide +kernel) rfl rfl rfl dX0_lookAt_64 (fun G_16 H locs eG_16 hW hS => ?_)
  have hB_G_16 : Bd G_16 := hB_G_13.put (V := y_15.toInt) (lo := (-1)) (hi := 400) eG_16 rfl rfl rfl ((by first | exact ok_176 ty_15 | omega)) ((by first | exact ok_177 ty_1.2 u_5 ty_14 ty_15 | omega)) (hB_G_13.2.put eG_16 rfl)
  have hF := hF.put eG_16 (Or.inr (by decide))
  refine lv_aload_n hx hb dX0_lookAt_67 rfl (lv_at hl 0 rfl) ?_
  refine ic_0 hx hb dX0_lookAt_68 ?_
  refine lv_aload_n hx hb dX0_lookAt_69 rfl (lv_at hl 0 rfl) ?_
  refine S_getI (v := y_1) (C := RX0) (T := TX0) (N := 8) hx hb hg iX0 hown hK hW kd_7 rfl 1 (lt_b rfl) (hg (Cond.fieldLink RX0 21 "SlabWalk$Course" "length" "I") m375) (fun _ h9 => h9) rfl ((gp_ne eG_16 (by decide)).trans ((gp_ne eG_13 (by decide)).trans ((gp_ne eG_11 (by decide)).trans ((gp_ne eG_8 (by decide)).trans ((gp_ne eG_6 (by decide)).trans (gp_eq eG_2)))))) dX0_lookAt_70 ?_
  refine lv_aload_n hx hb dX0_lookAt_73 rfl (lv_at hl 0 rfl) ?_
  refine S_getI (v := y_3) (C := RX0) (T := TX0) (N := 8) hx hb hg iX0 hown hK hW kd_7 rfl 2 (lt_b rfl) (hg (Cond.fieldLink RX0 27 "SlabWalk$Course" "foot" "I") m376) (fun _ h9 => h9) rfl ((gp_ne eG_16 (by decide)).trans ((gp_ne eG_13 (by decide)).trans ((gp_ne eG_11 (by decide)).trans ((gp_ne eG_8 (by decide)).trans (gp_eq eG_6))))) dX0_lookAt_74 ?_
  refine lv_isub hx hb dX0_lookAt_77 ?_
  refine lv_topi (fun y_17 ey_17 => ?_)
  have ty_17 : y_17.toInt = y_1.toInt - y_3.toInt := xI_sub rfl rfl ey_17 ((by first | exact ok_7 ty_1.1 ty_3.2 | omega)) ((by first | exact ok_8 ty_1.2 u_5 | omega))
  refine lv_aload_n hx hb dX0_lookAt_78 rfl (lv_at hl 0 rfl) ?_
  refine S_getI (v := y_9) (C := RX0) (T := TX0) (N := 8) hx hb hg iX0 hown hK hW kd_7 rfl 4 (lt_b rfl) (hg (Cond.fieldLink RX0 37 "SlabWalk$Course" "most" "I") m382) (fun _ h9 => h9) rfl ((gp_ne eG_16 (by decide)).trans ((gp_ne eG_13 (by decide)).trans (gp_eq eG_11))) dX0_lookAt_79 ?_
  refine lv_isub hx hb dX0_lookAt_82 ?_
  refine lv_topi (fun y_18 ey_18 => ?_)
  have ty_18 : y_18.toInt = y_17.toInt - y_9.toInt := xI_sub rfl rfl ey_18 ((by first | exact ok_178 ty_1.1 ty_3.2 ty_9.2 ty_17 | omega)) ((by first | exact ok_179 ty_1.2 u_5 ty_9.1 ty_17 | omega))
  refine ic_1 hx hb dX0_lookAt_83 ?_
  refine lv_iadd hx hb dX0_lookAt_84 ?_
  refine lv_topi (fun y_19 ey_19 => ?_)
  have ty_19 : y_19.toInt = y_18.toInt + 1 := xI_add rfl rfl ey_19 ((by first | exact ok_180 ty_1.1 ty_3.2 ty_9.2 ty_17 ty_18 | omega)) ((by first | exact ok_181 ty_1.2 u_5 ty_9.1 ty_17 ty_18 | omega))
  refine va_mmax hx hb (by rw [hml]; exact hl.1.symm) hown (hg (Cond.methodLink RX0 44 Lib.Math.max.name) m983) (hg (Cond.static Lib.Math.max.name) m728) (hg (Cond.initialized "java/lang/Math") m132) (hg (Cond.code Lib.Math.max.name Lib.Math.max.code 2 (some .int)) m729) (Nat.le_of_ble_eq_true rfl) (Nat.le_of_ble_eq_true rfl) (Nat.le_of_ble_eq_true rfl) (Nat.le_of_ble_eq_true rfl) dX0_lookAt_85 ?_
  refine lv_topi (fun y_20 ey_20 => ?_)
  have ty_20 := xI_max (X := 0) (Y := y_19.toInt) rfl rfl ey_20
  refine S_putI (ty := .int) (C := RX0) (T := TX0) (N := 8) hx hb hg iX0 tyX0 tyX0_ok nmX0 hown hK hW hS kd_7 rfl 7 (lt_b rfl) (hg (Cond.fieldLink RX0 53 "SlabWalk$Course" "end" "I") m393) (fun _ h9 => h9) rfl (by decide +kernel) rfl rfl rfl dX0_lookAt_88 (fun G_21 H locs eG_21 hW hS => ?_)
  have hB_G_21 : Bd G_21 := hB_G_16.put (V := y_20.toInt) (lo := 0) (hi := 400) eG_21 rfl rfl rfl ((by first | exact ok_182 ty_20 | omega)) ((by first | exact ok_183 ty_1.2 u_5 ty_9.1 ty_17 ty_18 ty_19 ty_20 | omega)) (hB_G_16.2.put eG_21 rfl)
  have hF := hF.put eG_21 (Or.inr (by decide))
  have g_22 : (G_21.1 7 3).toInt = y_7.toInt := (congrArg Int32.toInt (show G_21.1 7 3 = y_7 from ((gp_ne eG_21 (by decide)).trans ((gp_ne eG_16 (by decide)).trans ((gp_ne eG_13 (by decide)).trans ((gp_ne eG_11 (by decide)).trans (gp_eq eG_8)))))))
  have g_23 : (G_21.1 7 4).toInt = y_9.toInt := (congrArg Int32.toInt (show G_21.1 7 4 = y_9 from ((gp_ne eG_21 (by decide)).trans ((gp_ne eG_16 (by decide)).trans ((gp_ne eG_13 (by decide)).trans (gp_eq eG_11))))))
  have g_24 : (G_21.1 7 6).toInt = y_15.toInt := (congrArg Int32.toInt (show G_21.1 7 6 = y_15 from ((gp_ne eG_21 (by decide)).trans (gp_eq eG_16))))
  have g_25 : (G_21.1 7 7).toInt = y_20.toInt := (congrArg Int32.toInt (show G_21.1 7 7 = y_20 from (gp_eq eG_21)))
  exact W.vret hx hb hr (fun t ht _ => ⟨⟨G_21, rfl, (P_cLook_2_mk ⟨hB_G_21, hF, ((by first | exact ⟨(by first | exact ok_184 ty_1.2 u_5 ty_14 ty_15 g_24 | omega), ⟨(by first | exact ok_185 u_10 g_22 g_23 | omega), ((by first | (clear ha_p0 ha_p1 hw b_4 ty_12; omega) | omega))⟩⟩ | omega)), ⟨y_1, ey_1, ⟨y_3, ey_3.trans (congrFun (rw_put eG_2 (by decide)) _), ⟨y_7, ey_7.trans (congrFun ((rw_put eG_6 (by decide)).trans (rw_put eG_2 (by decide))) _), ⟨y_9, ey_9.trans (congrFun ((rw_put eG_8 (by decide)).trans ((rw_put eG_6 (by decide)).trans (rw_put eG_2 (by decide)))) _), ⟨y_12, ey_12.trans (congrFun ((rw_put eG_11 (by decide)).trans ((rw_put eG_8 (by decide)).trans ((rw_put eG_6 (by decide)).trans (rw_put eG_2 (by decide))))) _), ⟨y_14, ty_14, ⟨y_15, ty_15, ⟨y_17, ty_17, ⟨y_18, ty_18, ⟨y_19, ty_19, ⟨y_20, ty_20, ⟨(Fr.put (rs := []) (fs := [(7, 1), (7, 2), (7, 3), (7, 4), (7, 5), (7, 6), (7, 7)]) (Fr.put (rs := []) (fs := [(7, 1), (7, 2), (7, 3), (7, 4), (7, 5), (7, 6), (7, 7)]) (Fr.put (rs := []) (fs := [(7, 1), (7, 2), (7, 3), (7, 4), (7, 5), (7, 6), (7, 7)]) (Fr.put (rs := []) (fs := [(7, 1), (7, 2), (7, 3), (7, 4), (7, 5), (7, 6), (7, 7)]) (Fr.put (rs := []) (fs := [(7, 1), (7, 2), (7, 3), (7, 4), (7, 5), (7, 6), (7, 7)]) (Fr.put (rs := []) (fs := [(7, 1), (7, 2), (7, 3), (7, 4), (7, 5), (7, 6), (7, 7)]) (Fr.put (rs := []) (fs := [(7, 1), (7, 2), (7, 3), (7, 4), (7, 5), (7, 6), (7, 7)]) Fr.rf eG_2 (Or.inr (by decide))) eG_6 (Or.inr (by decide))) eG_8 (Or.inr (by decide))) eG_11 (Or.inr (by decide))) eG_13 (Or.inr (by decide))) eG_16 (Or.inr (by decide))) eG_21 (Or.inr (by decide))), ((gp_ne eG_21 (by decide)).trans ((gp_ne eG_16 (by decide)).trans ((gp_ne eG_13 (by decide)).trans ((gp_ne eG_11 (by decide)).trans ((gp_ne eG_8 (by decide)).trans ((gp_ne eG_6 (by decide)).trans (gp_eq eG_2))))))), ((gp_ne eG_21 (by decide)).trans ((gp_ne eG_16 (by decide)).trans ((gp_ne eG_13 (by decide)).trans ((gp_ne eG_11 (by decide)).trans ((gp_ne eG_8 (by decide)).trans (gp_eq eG_6)))))), ((gp_ne eG_21 (by decide)).trans ((gp_ne eG_16 (by decide)).trans ((gp_ne eG_13 (by decide)).trans ((gp_ne eG_11 (by decide)).trans (gp_eq eG_8))))), ((gp_ne eG_21 (by decide)).trans ((gp_ne eG_16 (by decide)).trans ((gp_ne eG_13 (by decide)).trans (gp_eq eG_11)))), ((gp_ne eG_21 (by decide)).trans ((gp_ne eG_16 (by decide)).trans (gp_eq eG_13))), ((gp_ne eG_21 (by decide)).trans (gp_eq eG_16)), (gp_eq eG_21)⟩⟩⟩⟩⟩⟩⟩⟩⟩⟩⟩⟩⟩), wd_t ht hW⟩, hS.F ht⟩) hS.2.2 dX0_lookAt_91

set_option maxHeartbeats 4000000 in
set_option maxRecDepth 100000 in
theorem k_cFind_2 (l : Launch) (D : va_G) (k : KT) (A : Nat → Prop) (a : Nat → Nat) (z : SK) (G : GS) (p0 : Int32) (p1 : Int32) (hv_6_4 : G.2.2 6 4 = 2) : Met l yX0_findLawful (WS yX0_findLawful cX0_findLawful 6 none) ({ frames := 3, cells := 0, slots := 0, locals := 66 }) (va_Pc [.ref (a 7), .ref (a 6), .int p0, .int p1] (cW D k A a z G)) (va_Qv (fun (G1 : GS) => P_cFind_2 p0 p1 G G1) (fun (G1 : GS) t => Wd D k A a G1 t.heap) A) 0 0 A := by
  refine Met.ofW (cc := cX0_findLawful) (maxL := 6) (ret := none) (by decide) rfl ?_
  intro p e s m args below meth c s₁ B hml hv
  obtain ⟨rfl, hW, hB_G, hK, hZ⟩ := hv
  have hx := B.exec
  have hb := B.bytes
  have hr := B.returns
  have hts := atoms_spec (ws := WS yX0_findLawful cX0_findLawful 6 none) B.pre
  have hgd : ∀ w ∈ gd, w ∈ WS yX0_findLawful cX0_findLawful 6 none := fun w h => List.mem_cons_of_mem _ h
  have hg : ∀ w ∈ gd, w.before _ s = true := fun w h => hts w (hgd w h)
  have hown : s.vm.findClass RX0 = some m.cls := findClass_of_methodNamed B.named
  have hS : va_S A s.heap s.heap [] := va_S.rf
  have hF : Fr [40] [] G G := Fr.rf
  have hl := lv_entry ([.ref (a 7), .ref (a 6), .int p0, .int p1]) (n := 6) (Nat.le_of_ble_eq_true rfl)
  rw [lg_entry_eq]
  generalize (lg_sl ([.ref (a 7), .ref (a 6), .int p0, .int p1]) ++ List.replicate (6 - (lg_sl ([.ref (a 7), .ref (a 6), .int p0, .int p1])).length) Slot.unset).toArray = ls at hl ⊢
  have hl : lv_has ls 6 [(0, .ref (a 7)), (1, .ref (a 6)), (2, .int p0), (3, .int p1)] := hl
  refine ic_0 hx hb dX0_findLawful_0 ?_
  refine lv_istore (lv' := [(4, .int 0), (0, .ref (a 7)), (1, .ref (a 6)), (2, .int p0), (3, .int p1)]) hx hb dX0_findLawful_1 hl (lt_b rfl) rfl (fun ls hl => ?_)
  refine lv_aload_n hx hb dX0_findLawful_3 rfl (lv_at hl 1 rfl) ?_
  have b_1 : 0 ≤ (G.1 7 1).toInt ∧ (G.1 7 1).toInt ≤ 400 := bd_7_1 hB_G
  refine S_getI (v := (G.1 7 1)) (C := RX0) (T := TX0) (N := 8) hx hb hg iX0 hown hK hW kd_7 rfl 1 (lt_b rfl) (hg (Cond.fieldLink RX0 21 "SlabWalk$Course" "length" "I") m375) (fun _ h9 => h9) rfl rfl dX0_findLawful_4 ?_
  refine ic_1 hx hb dX0_findLawful_7 ?_
  refine lv_isub hx hb dX0_findLawful_8 ?_
  refine lv_topi (fun y_2 ey_2 => ?_)
  have ty_2 : y_2.toInt = (G.1 7 1).toInt - 1 := xI_sub rfl rfl ey_2 ((by first | exact ok_56 b_1.1 | omega)) ((by first | exact ok_57 b_1.2 | omega))
  refine lv_istore (lv' := [(5, .int y_2), (4, .int 0), (0, .ref (a 7)), (1, .ref (a 6)), (2, .int p0), (3, .int p1)]) hx hb dX0_findLawful_9 hl (lt_b rfl) rfl (fun ls hl => ?_)
  have qc_10 : (0 : Int32).toInt = 0 := rfl
  refine loop_N (Inv := fun n H locs ls => ∃ (G_3 : GS) (x_7 : Int32) (x_8 : Int32), (n : Int) = x_7.toInt - (-1) ∧ ((-1) ≤ x_7.toInt ∧ x_7.toInt ≤ 399) ∧ Rc (St_k_cFind_2_1 p0 p1 G) (y_2, 0, G) (x_7, x_8, G_3) ∧ Wd D k A a G_3 H ∧ Bd G_3 ∧ Fr [40] [] G G_3 ∧ Fr [40] [] G G_3 ∧ va_S A s.heap H locs ∧ lv_has ls 6 [(5, .int x_7), (4, .int x_8), (0, .ref (a 7)), (1, .ref (a 6)), (2, .int p0), (3, .int p1)]) (fun n_6 H locs ls ih_5 hI => ?_) (y_2.toInt - (-1) : Int).toNat ⟨G, y_2, 0, (Int.toNat_of_nonneg ((by first | exact ok_186 b_1.1 ty_2 | omega))), ⟨(by first | exact ok_187 b_1.1 ty_2 | omega), (by first | exact ok_188 b_1.2 ty_2 | omega)⟩, Rc.rf, hW, hB_G, hF, Fr.rf, hS, lv_sub hl [0, 1, 2, 3, 4, 5] rfl⟩
  obtain ⟨G_3, x_7, x_8, hn_12, f_11, hX_9, hW, hB_G_3, hF, hq_4, hS, hl⟩ := hI
  refine lv_iload hx hb dX0_findLawful_11 (lv_at hl 0 rfl) ?_
  refine lv_if_lt (tgt := 64) hx hb dX0_findLawful_13 rfl (fun c_13 => ?_) (fun c_13 => ?_)
  · have c_13 : x_7.toInt < 0 := xI_lt rfl rfl c_13
    exact W.vret hx hb hr (fun t ht _ => ⟨⟨G_3, rfl, (P_cFind_2_mk ⟨hB_G_3, hF, ⟨y_2, ty_2, ⟨x_7, x_8, G_3, hX_9, f_11, hB_G_3, hq_4, ⟨c_13, rfl⟩⟩⟩⟩), wd_t ht hW⟩, hS.F ht⟩) hS.2.2 dX0_findLawful_64
  · have c_13 : 0 ≤ x_7.toInt := xI_nlt rfl rfl c_13
    refine lv_aload_n hx hb dX0_findLawful_16 rfl (lv_at hl 3 rfl) ?_
    refine lv_iload_n hx hb dX0_findLawful_17 rfl (lv_at hl 4 rfl) ?_
    refine lv_iload_n hx hb dX0_findLawful_18 rfl (lv_at hl 5 rfl) ?_
    refine lv_iload hx hb dX0_findLawful_19 (lv_at hl 0 rfl) ?_
    refine S_calli (va_runV (As := [.int p0, .int p1, .int x_7]) (rest := []) ⟨hx, hb, hml, hown, hts⟩ (k_lIsLine_2 l D k A a z G_3 p0 p1 x_7 (((hq_4.r9 6 4 rfl rfl)).trans (hv_6_4))) (cwV 3 hts (gd_V hgd m988 m941 m942 m122 m943) rfl rfl rfl hd_X3_isLine ⟨Nat.le_of_ble_eq_true rfl, Nat.le_of_ble_eq_true rfl⟩) (pre_W hW hB_G_3 hK hZ hS kd_6 rfl) rfl rfl hl.1 rfl (lv_room (Nat.le_of_ble_eq_true rfl)) dX0_findLawful_21 ⟨Nat.le_of_ble_eq_true rfl, Nat.le_of_ble_eq_true rfl⟩) hS (fun r_14 G_15 H locs hpo hW hS => ?_)
    have hX_18 : P_lIsLine_2 p0 p1 x_7 G_3 r_14 G_15 := hpo
    obtain ⟨hB_G_15, hq_16, f_19, -⟩ := hpo
    have hF := hF.call9 hq_16 rfl rfl
    refine lv_if_eq (tgt := 31) hx hb dX0_findLawful_24 rfl (fun c_20 => ?_) (fun c_20 => ?_)
    · have c_20 : r_14.toInt = 0 := xI_eq rfl rfl c_20
      refine lv_iload hx hb dX0_findLawful_31 (lv_at hl 1 rfl) ?_
      refine ic_1 hx hb dX0_findLawful_33 ?_
      refine lv_iadd hx hb dX0_findLawful_34 ?_
      refine lv_topi (fun y_21 ey_21 => ?_)
      refine lv_istore (lv' := [(4, .int y_21), (5, .int x_7), (0, .ref (a 7)), (1, .ref (a 6)), (2, .int p0), (3, .int p1)]) hx hb dX0_findLawful_35 hl (lt_b rfl) rfl (fun ls hl => ?_)
      refine lv_aload_n hx hb dX0_findLawful_37 rfl (lv_at hl 2 rfl) ?_
      refine S_getR (n := 40) (C := RX0) (T := TX0) (N := 8) hx hb hg iX0 hown hK hW kd_7 rfl 0 (lt_b rfl) (hg (Cond.fieldLink RX0 9 "SlabWalk$Course" "lawful" "[Z") m371) (fun _ h9 => h9) rfl dX0_findLawful_38 ?_
      refine lv_iload hx hb dX0_findLawful_41 (lv_at hl 1 rfl) ?_
      refine lv_iload hx hb dX0_findLawful_43 (lv_at hl 0 rfl) ?_
      refine lv_aload_n hx hb dX0_findLawful_45 rfl (lv_at hl 2 rfl) ?_
      have b_22 : 0 ≤ (G.1 7 2).toInt ∧ (G.1 7 2).toInt ≤ 12 := bd_7_2 hB_G
      refine S_getI (v := (G.1 7 2)) (C := RX0) (T := TX0) (N := 8) hx hb hg iX0 hown hK hW kd_7 rfl 2 (lt_b rfl) (hg (Cond.fieldLink RX0 27 "SlabWalk$Course" "foot" "I") m376) (fun _ h9 => h9) rfl ((hq_16.i9 7 2 rfl rfl).trans (hq_4.i9 7 2 rfl rfl)) dX0_findLawful_46 ?_
      refine lv_icmp_lt (tgt := 56) hx hb dX0_findLawful_49 rfl (fun c_23 => ?_) (fun c_23 => ?_)
      · have c_23 : y_21.toInt < (G.1 7 2).toInt := xI_lt rfl rfl c_23
        refine ic_0 hx hb dX0_findLawful_56 ?_
        refine S_zast hx hb hK hW hS kd_40 (vin ((by first | exact c_13 | omega)) ((by first | exact ok_189 f_11.2 | omega))) dX0_findLawful_57 (fun G_24 H locs eG_24 hW hS => ?_)
        have hB_G_24 : Bd G_24 := hB_G_15.put (lo := 0) (hi := 1) eG_24 rfl rfl rfl nz_bool.1 nz_bool.2 (hB_G_15.2.put eG_24 rfl)
        have hF := hF.put eG_24 (Or.inl (by decide))
        obtain ⟨y_25, ey_25⟩ : ∃ q, q = x_7 + (-1) := ⟨_, rfl⟩
        have ty_25 : y_25.toInt = x_7.toInt + (-1) := xI_add rfl rfl ey_25 ((by first | exact ok_190 c_13 | omega)) ((by first | exact ok_191 f_11.2 | omega))
        refine lv_iinc (v := y_25) (lv' := [(5, .int y_25), (4, .int y_21), (0, .ref (a 7)), (1, .ref (a 6)), (2, .int p0), (3, .int p1)]) hx hb dX0_findLawful_58 hl (k := 1) rfl (by rw [ey_25]; rfl) (lt_b rfl) rfl (fun ls hl => ?_)
        refine lv_goto (tgt := 11) hx hb dX0_findLawful_61 rfl ?_
        exact ih_5 (y_25.toInt - (-1) : Int).toNat ((by first | (clear b_1 ty_2 f_19 c_20 b_22 c_23; omega) | omega)) _ _ _ ⟨G_24, y_25, y_21, (Int.toNat_of_nonneg ((by first | exact ok_192 c_13 ty_25 | omega))), ⟨(by first | exact ok_193 c_13 ty_25 | omega), (by first | exact ok_194 f_11.2 ty_25 | omega)⟩, (hX_9.st (St_k_cFind_2_1_mk ⟨x_7, x_8, G_3, y_25, y_21, G_24, rfl, rfl, f_11, hB_G_3, ⟨c_13, ⟨r_14, G_15, hX_18, (Or.inl ⟨c_20, ⟨y_21, ey_21, (Or.inl ⟨c_23, ⟨y_25, ty_25, ⟨rfl, rfl, (Fr.put (rs := [40]) (fs := []) Fr.rf eG_24 (Or.inl (by decide))), rw_ast eG_24⟩⟩⟩)⟩⟩)⟩⟩⟩)), hW, hB_G_24, hF, (Fr.put (rs := [40]) (fs := []) (Fr.call9 (rs := [40]) (fs := []) (Fr.call9 (rs := [40]) (fs := []) Fr.rf hq_4 rfl rfl) hq_16 rfl rfl) eG_24 (Or.inl (by decide))), hS, lv_sub hl [0, 1, 2, 3, 4, 5] rfl⟩
      · have c_23 : (G.1 7 2).toInt ≤ y_21.toInt := xI_nlt rfl rfl c_23
        refine ic_1 hx hb dX0_findLawful_52 ?_
        refine lv_goto (tgt := 57) hx hb dX0_findLawful_53 rfl ?_
        refine S_zast hx hb hK hW hS kd_40 (vin ((by first | exact c_13 | omega)) ((by first | exact ok_189 f_11.2 | omega))) dX0_findLawful_57 (fun G_26 H locs eG_26 hW hS => ?_)
        have hB_G_26 : Bd G_26 := hB_G_15.put (lo := 0) (hi := 1) eG_26 rfl rfl rfl nz_bool.1 nz_bool.2 (hB_G_15.2.put eG_26 rfl)
        have hF := hF.put eG_26 (Or.inl (by decide))
        obtain ⟨y_27, ey_27⟩ : ∃ q, q = x_7 + (-1) := ⟨_, rfl⟩
        have ty_27 : y_27.toInt = x_7.toInt + (-1) := xI_add rfl rfl ey_27 ((by first | exact ok_190 c_13 | omega)) ((by first | exact ok_191 f_11.2 | omega))
        refine lv_iinc (v := y_27) (lv' := [(5, .int y_27), (4, .int y_21), (0, .ref (a 7)), (1, .ref (a 6)), (2, .int p0), (3, .int p1)]) hx hb dX0_findLawful_58 hl (k := 1) rfl (by rw [ey_27]; rfl) (lt_b rfl) rfl (fun ls hl => ?_)
        refine lv_goto (tgt := 11) hx hb dX0_findLawful_61 rfl ?_
        exact ih_5 (y_27.toInt - (-1) : Int).toNat ((by first | (clear b_1 ty_2 f_19 c_20 b_22 c_23; omega) | omega)) _ _ _ ⟨G_26, y_27, y_21, (Int.toNat_of_nonneg ((by first | exact ok_192 c_13 ty_27 | omega))), ⟨(by first | exact ok_193 c_13 ty_27 | omega), (by first | exact ok_194 f_11.2 ty_27 | omega)⟩, (hX_9.st (St_k_cFind_2_1_mk ⟨x_7, x_8, G_3, y_27, y_21, G_26, rfl, rfl, f_11, hB_G_3, ⟨c_13, ⟨r_14, G_15, hX_18, (Or.inl ⟨c_20, ⟨y_21, ey_21, (Or.inr ⟨c_23, ⟨y_27, ty_27, ⟨rfl, rfl, (Fr.put (rs := [40]) (fs := []) Fr.rf eG_26 (Or.inl (by decide))), rw_ast eG_26⟩⟩⟩)⟩⟩)⟩⟩⟩)), hW, hB_G_26, hF, (Fr.put (rs := [40]) (fs := []) (Fr.call9 (rs := [40]) (fs := []) (Fr.call9 (rs := [40]) (fs := []) Fr.rf hq_4 rfl rfl) hq_16 rfl rfl) eG_26 (Or.inl (by decide))), hS, lv_sub hl [0, 1, 2, 3, 4, 5] rfl⟩
    · have c_20 : r_14.toInt ≠ 0 := xI_ne rfl rfl c_20
      refine ic_0 hx hb dX0_findLawful_27 ?_
      refine lv_goto (tgt := 35) hx hb dX0_findLawful_28 rfl ?_
      refine lv_istore (lv' := [(4, .int 0), (5, .int x_7), (0, .ref (a 7)), (1, .ref (a 6)), (2, .int p0), (3, .int p1)]) hx hb dX0_findLawful_35 hl (lt_b rfl) rfl (fun ls hl => ?_)
      refine lv_aload_n hx hb dX0_findLawful_37 rfl (lv_at hl 2 rfl) ?_
      refine S_getR (n := 40) (C := RX0) (T := TX0) (N := 8) hx hb hg iX0 hown hK hW kd_7 rfl 0 (lt_b rfl) (hg (Cond.fieldLink RX0 9 "SlabWalk$Course" "lawful" "[Z") m371) (fun _ h9 => h9) rfl dX0_findLawful_38 ?_
      refine lv_iload hx hb dX0_findLawful_41 (lv_at hl 1 rfl) ?_
      refine lv_iload hx hb dX0_findLawful_43 (lv_at hl 0 rfl) ?_
      refine lv_aload_n hx hb dX0_findLawful_45 rfl (lv_at hl 2 rfl) ?_
      have b_28 : 0 ≤ (G.1 7 2).toInt ∧ (G.1 7 2).toInt ≤ 12 := bd_7_2 hB_G
      refine S_getI (v := (G.1 7 2)) (C := RX0) (T := TX0) (N := 8) hx hb hg iX0 hown hK hW kd_7 rfl 2 (lt_b rfl) (hg (Cond.fieldLink RX0 27 "SlabWalk$Course" "foot" "I") m376) (fun _ h9 => h9) rfl ((hq_16.i9 7 2 rfl rfl).trans (hq_4.i9 7 2 rfl rfl)) dX0_findLawful_46 ?_
      refine lv_icmp_lt (tgt := 56) hx hb dX0_findLawful_49 rfl (fun c_29 => ?_) (fun c_29 => ?_)
      · have c_29 : 0 < (G.1 7 2).toInt := xI_lt rfl rfl c_29
        refine ic_0 hx hb dX0_findLawful_56 ?_
        refine S_zast hx hb hK hW hS kd_40 (vin ((by first | exact c_13 | omega)) ((by first | exact ok_189 f_11.2 | omega))) dX0_findLawful_57 (fun G_30 H locs eG_30 hW hS => ?_)
        have hB_G_30 : Bd G_30 := hB_G_15.put (lo := 0) (hi := 1) eG_30 rfl rfl rfl nz_bool.1 nz_bool.2 (hB_G_15.2.put eG_30 rfl)
        have hF := hF.put eG_30 (Or.inl (by decide))
        obtain ⟨y_31, ey_31⟩ : ∃ q, q = x_7 + (-1) := ⟨_, rfl⟩
        have ty_31 : y_31.toInt = x_7.toInt + (-1) := xI_add rfl rfl ey_31 ((by first | exact ok_190 c_13 | omega)) ((by first | exact ok_191 f_11.2 | omega))
        refine lv_iinc (v := y_31) (lv' := [(5, .int y_31), (4, .int 0), (0, .ref (a 7)), (1, .ref (a 6)), (2, .int p0), (3, .int p1)]) hx hb dX0_findLawful_58 hl (k := 1) rfl (by rw [ey_31]; rfl) (lt_b rfl) rfl (fun ls hl => ?_)
        refine lv_goto (tgt := 11) hx hb dX0_findLawful_61 rfl ?_
        have qc_32 : (0 : Int32).toInt = 0 := rfl
        exact ih_5 (y_31.toInt - (-1) : Int).toNat ((by first | (clear b_1 ty_2 f_19 c_20 b_28 c_29; omega) | omega)) _ _ _ ⟨G_30, y_31, 0, (Int.toNat_of_nonneg ((by first | exact ok_192 c_13 ty_31 | omega))), ⟨(by first | exact ok_193 c_13 ty_31 | omega), (by first | exact ok_194 f_11.2 ty_31 | omega)⟩, (hX_9.st (St_k_cFind_2_1_mk ⟨x_7, x_8, G_3, y_31, 0, G_30, rfl, rfl, f_11, hB_G_3, ⟨c_13, ⟨r_14, G_15, hX_18, (Or.inr ⟨c_20, (Or.inl ⟨c_29, ⟨y_31, ty_31, ⟨rfl, rfl, (Fr.put (rs := [40]) (fs := []) Fr.rf eG_30 (Or.inl (by decide))), rw_ast eG_30⟩⟩⟩)⟩)⟩⟩⟩)), hW, hB_G_30, hF, (Fr.put (rs := [40]) (fs := []) (Fr.call9 (rs := [40]) (fs := []) (Fr.call9 (rs := [40]) (fs := []) Fr.rf hq_4 rfl rfl) hq_16 rfl rfl) eG_30 (Or.inl (by decide))), hS, lv_sub hl [0, 1, 2, 3, 4, 5] rfl⟩
      · have c_29 : (G.1 7 2).toInt ≤ 0 := xI_nlt rfl rfl c_29
        refine ic_1 hx hb dX0_findLawful_52 ?_
        refine lv_goto (tgt := 57) hx hb dX0_findLawful_53 rfl ?_
        refine S_zast hx hb hK hW hS kd_40 (vin ((by first | exact c_13 | omega)) ((by first | exact ok_189 f_11.2 | omega))) dX0_findLawful_57 (fun G_33 H locs eG_33 hW hS => ?_)
        have hB_G_33 : Bd G_33 := hB_G_15.put (lo := 0) (hi := 1) eG_33 rfl rfl rfl nz_bool.1 nz_bool.2 (hB_G_15.2.put eG_33 rfl)
        have hF := hF.put eG_33 (Or.inl (by decide))
        obtain ⟨y_34, ey_34⟩ : ∃ q, q = x_7 + (-1) := ⟨_, rfl⟩
        have ty_34 : y_34.toInt = x_7.toInt + (-1) := xI_add rfl rfl ey_34 ((by first | exact ok_190 c_13 | omega)) ((by first | exact ok_191 f_11.2 | omega))
        refine lv_iinc (v := y_34) (lv' := [(5, .int y_34), (4, .int 0), (0, .ref (a 7)), (1, .ref (a 6)), (2, .int p0), (3, .int p1)]) hx hb dX0_findLawful_58 hl (k := 1) rfl (by rw [ey_34]; rfl) (lt_b rfl) rfl (fun ls hl => ?_)
        refine lv_goto (tgt := 11) hx hb dX0_findLawful_61 rfl ?_
        have qc_35 : (0 : Int32).toInt = 0 := rfl
        exact ih_5 (y_34.toInt - (-1) : Int).toNat ((by first | (clear b_1 ty_2 f_19 c_20 b_28 c_29; omega) | omega)) _ _ _ ⟨G_33, y_34, 0, (Int.toNat_of_nonneg ((by first | exact ok_192 c_13 ty_34 | omega))), ⟨(by first | exact ok_193 c_13 ty_34 | omega), (by first | exact ok_194 f_11.2 ty_34 | omega)⟩, (hX_9.st (St_k_cFind_2_1_mk ⟨x_7, x_8, G_3, y_34, 0, G_33, rfl, rfl, f_11, hB_G_3, ⟨c_13, ⟨r_14, G_15, hX_18, (Or.inr ⟨c_20, (Or.inr ⟨c_29, ⟨y_34, ty_34, ⟨rfl, rfl, (Fr.put (rs := [40]) (fs := []) Fr.rf eG_33 (Or.inl (by decide))), rw_ast eG_33⟩⟩⟩)⟩)⟩⟩⟩)), hW, hB_G_33, hF, (Fr.put (rs := [40]) (fs := []) (Fr.call9 (rs := [40]) (fs := []) (Fr.call9 (rs := [40]) (fs := []) Fr.rf hq_4 rfl rfl) hq_16 rfl rfl) eG_33 (Or.inl (by decide))), hS, lv_sub hl [0, 1, 2, 3, 4, 5] rfl⟩

theorem m520 : Cond.fieldLink RX8 11 "SlabWalk$Sights" "walker" "[I" ∈ gd := gdc_2_10 4 rfl gw_fieldLink
theorem m522 : Cond.fieldLink RX8 15 "SlabWalk$Sights" "street" "[I" ∈ gd := gdc_2_10 6 rfl gw_fieldLink
theorem m524 : Cond.fieldLink RX8 18 "SlabWalk$Sights" "heel" "[I" ∈ gd := gdc_2_10 8 rfl gw_fieldLink
theorem m526 : Cond.fieldLink RX8 21 "SlabWalk$Sights" "told" "[I" ∈ gd := gdc_2_10 10 rfl gw_fieldLink
theorem m527 : Cond.fieldLink RX8 24 "SlabWalk$Sights" "untold" "[I" ∈ gd := gdc_2_10 11 rfl gw_fieldLink
theorem m528 : Cond.fieldLink RX8 27 "SlabWalk$Sights" "count" "I" ∈ gd := gdc_2_10 12 rfl gw_fieldLink
theorem m530 : Cond.fieldLink RX8 31 "SlabWalk$Sights" "time" "I" ∈ gd := gdc_2_10 14 rfl gw_fieldLink
noncomputable def rbX8_counts_0 : List (Nat × List Nat) := [(0, [42]), (1, [180, 0, 21]), (4, [27]), (5, [46]), (6, [28]), (7, [163, 0, 27]), (10, [42]), (11, [180, 0, 24]), (14, [27]), (15, [46]), (16, [2]), (17, [159, 0, 13]), (20, [42]), (21, [180, 0, 24]), (24, [27]), (25, [46]), (26, [28]), (27, [164, 0, 7]), (30, [4]), (31, [167, 0, 4]), (34, [3]), (35, [172])]
theorem rcX8_counts_0 : dgo (lb cX8_counts) 0 rbX8_counts_0 = true := by decide +kernel
theorem dX8_counts_0 : decode cX8_counts 0 = .ok (.aload_n 0, 1) := dk_42 (dw rcX8_counts_0 0 rfl)
theorem dX8_counts_1 : decode cX8_counts 1 = .ok (.getfield 21, 3) := dk_180 (dw rcX8_counts_0 1 rfl) rfl
theorem dX8_counts_4 : decode cX8_counts 4 = .ok (.iload_n 1, 1) := dk_27 (dw rcX8_counts_0 2 rfl)
theorem dX8_counts_5 : decode cX8_counts 5 = .ok (.iaload, 1) := dk_46 (dw rcX8_counts_0 3 rfl)
theorem dX8_counts_6 : decode cX8_counts 6 = .ok (.iload_n 2, 1) := dk_28 (dw rcX8_counts_0 4 rfl)
theorem dX8_counts_7 : decode cX8_counts 7 = .ok (.if_icmp .gt 27, 3) := dk_163 (dw rcX8_counts_0 5 rfl) rfl
theorem dX8_counts_10 : decode cX8_counts 10 = .ok (.aload_n 0, 1) := dk_42 (dw rcX8_counts_0 6 rfl)
theorem dX8_counts_11 : decode cX8_counts 11 = .ok (.getfield 24, 3) := dk_180 (dw rcX8_counts_0 7 rfl) rfl
theorem dX8_counts_14 : decode cX8_counts 14 = .ok (.iload_n 1, 1) := dk_27 (dw rcX8_counts_0 8 rfl)
theorem dX8_counts_15 : decode cX8_counts 15 = .ok (.iaload, 1) := dk_46 (dw rcX8_counts_0 9 rfl)
theorem dX8_counts_16 : decode cX8_counts 16 = .ok (.iconst (-1), 1) := dk_2 (dw rcX8_counts_0 10 rfl)
theorem dX8_counts_17 : decode cX8_counts 17 = .ok (.if_icmp .eq 13, 3) := dk_159 (dw rcX8_counts_0 11 rfl) rfl
theorem dX8_counts_20 : decode cX8_counts 20 = .ok (.aload_n 0, 1) := dk_42 (dw rcX8_counts_0 12 rfl)
theorem dX8_counts_21 : decode cX8_counts 21 = .ok (.getfield 24, 3) := dk_180 (dw rcX8_counts_0 13 rfl) rfl
theorem dX8_counts_24 : decode cX8_counts 24 = .ok (.iload_n 1, 1) := dk_27 (dw rcX8_counts_0 14 rfl)
theorem dX8_counts_25 : decode cX8_counts 25 = .ok (.iaload, 1) := dk_46 (dw rcX8_counts_0 15 rfl)
theorem dX8_counts_26 : decode cX8_counts 26 = .ok (.iload_n 2, 1) := dk_28 (dw rcX8_counts_0 16 rfl)
theorem dX8_counts_27 : decode cX8_counts 27 = .ok (.if_icmp .le 7, 3) := dk_164 (dw rcX8_counts_0 17 rfl) rfl
theorem dX8_counts_30 : decode cX8_counts 30 = .ok (.iconst 1, 1) := dk_4 (dw rcX8_counts_0 18 rfl)
theorem dX8_counts_31 : decode cX8_counts 31 = .ok (.goto 4, 3) := dk_167 (dw rcX8_counts_0 19 rfl) rfl
theorem dX8_counts_34 : decode cX8_counts 34 = .ok (.iconst 0, 1) := dk_3 (dw rcX8_counts_0 20 rfl)
theorem dX8_counts_35 : decode cX8_counts 35 = .ok (.ireturn, 1) := dk_172 (dw rcX8_counts_0 21 rfl)
noncomputable def rbX8_takeFrom_0 : List (Nat × List Nat) := [(0, [27]), (1, [155, 0, 21]), (4, [27]), (5, [42]), (6, [180, 0, 27]), (9, [162, 0, 13]), (12, [42]), (13, [180, 0, 24]), (16, [27]), (17, [46]), (18, [2]), (19, [159, 0, 5]), (22, [3]), (23, [172]), (24, [42]), (25, [180, 0, 24]), (28, [27]), (29, [42]), (30, [180, 0, 31]), (33, [79]), (34, [4]), (35, [172])]
theorem rcX8_takeFrom_0 : dgo (lb cX8_takeFrom) 0 rbX8_takeFrom_0 = true := by decide +kernel
theorem dX8_takeFrom_0 : decode cX8_takeFrom 0 = .ok (.iload_n 1, 1) := dk_27 (dw rcX8_takeFrom_0 0 rfl)
theorem dX8_takeFrom_1 : decode cX8_takeFrom 1 = .ok (.ifCond .lt 21, 3) := dk_155 (dw rcX8_takeFrom_0 1 rfl) rfl
theorem dX8_takeFrom_4 : decode cX8_takeFrom 4 = .ok (.iload_n 1, 1) := dk_27 (dw rcX8_takeFrom_0 2 rfl)
theorem dX8_takeFrom_5 : decode cX8_takeFrom 5 = .ok (.aload_n 0, 1) := dk_42 (dw rcX8_takeFrom_0 3 rfl)
theorem dX8_takeFrom_6 : decode cX8_takeFrom 6 = .ok (.getfield 27, 3) := dk_180 (dw rcX8_takeFrom_0 4 rfl) rfl
theorem dX8_takeFrom_9 : decode cX8_takeFrom 9 = .ok (.if_icmp .ge 13, 3) := dk_162 (dw rcX8_takeFrom_0 5 rfl) rfl
theorem dX8_takeFrom_12 : decode cX8_takeFrom 12 = .ok (.aload_n 0, 1) := dk_42 (dw rcX8_takeFrom_0 6 rfl)
theorem dX8_takeFrom_13 : decode cX8_takeFrom 13 = .ok (.getfield 24, 3) := dk_180 (dw rcX8_takeFrom_0 7 rfl) rfl
theorem dX8_takeFrom_16 : decode cX8_takeFrom 16 = .ok (.iload_n 1, 1) := dk_27 (dw rcX8_takeFrom_0 8 rfl)
theorem dX8_takeFrom_17 : decode cX8_takeFrom 17 = .ok (.iaload, 1) := dk_46 (dw rcX8_takeFrom_0 9 rfl)
theorem dX8_takeFrom_18 : decode cX8_takeFrom 18 = .ok (.iconst (-1), 1) := dk_2 (dw rcX8_takeFrom_0 10 rfl)
theorem dX8_takeFrom_19 : decode cX8_takeFrom 19 = .ok (.if_icmp .eq 5, 3) := dk_159 (dw rcX8_takeFrom_0 11 rfl) rfl
theorem dX8_takeFrom_22 : decode cX8_takeFrom 22 = .ok (.iconst 0, 1) := dk_3 (dw rcX8_takeFrom_0 12 rfl)
theorem dX8_takeFrom_23 : decode cX8_takeFrom 23 = .ok (.ireturn, 1) := dk_172 (dw rcX8_takeFrom_0 13 rfl)
theorem dX8_takeFrom_24 : decode cX8_takeFrom 24 = .ok (.aload_n 0, 1) := dk_42 (dw rcX8_takeFrom_0 14 rfl)
theorem dX8_takeFrom_25 : decode cX8_takeFrom 25 = .ok (.getfield 24, 3) := dk_180 (dw rcX8_takeFrom_0 15 rfl) rfl
theorem dX8_takeFrom_28 : decode cX8_takeFrom 28 = .ok (.iload_n 1, 1) := dk_27 (dw rcX8_takeFrom_0 16 rfl)
theorem dX8_takeFrom_29 : decode cX8_takeFrom 29 = .ok (.aload_n 0, 1) := dk_42 (dw rcX8_takeFrom_0 17 rfl)
theorem dX8_takeFrom_30 : decode cX8_takeFrom 30 = .ok (.getfield 31, 3) := dk_180 (dw rcX8_takeFrom_0 18 rfl) rfl
theorem dX8_takeFrom_33 : decode cX8_takeFrom 33 = .ok (.iastore, 1) := dk_79 (dw rcX8_takeFrom_0 19 rfl)
theorem dX8_takeFrom_34 : decode cX8_takeFrom 34 = .ok (.iconst 1, 1) := dk_4 (dw rcX8_takeFrom_0 20 rfl)
theorem dX8_takeFrom_35 : decode cX8_takeFrom 35 = .ok (.ireturn, 1) := dk_172 (dw rcX8_takeFrom_0 21 rfl)
noncomputable def rbX8_tell_0 : List (Nat × List Nat) := [(0, [42]), (1, [180, 0, 27]), (4, [16, 20]), (6, [161, 0, 5]), (9, [2]), (10, [172]), (11, [42]), (12, [180, 0, 11]), (15, [42]), (16, [180, 0, 27]), (19, [27]), (20, [79]), (21, [42]), (22, [180, 0, 15]), (25, [42]), (26, [180, 0, 27]), (29, [28]), (30, [79]), (31, [42]), (32, [180, 0, 18]), (35, [42]), (36, [180, 0, 27]), (39, [29]), (40, [79])]
theorem rcX8_tell_0 : dgo (lb cX8_tell) 0 rbX8_tell_0 = true := by decide +kernel
theorem dX8_tell_0 : decode cX8_tell 0 = .ok (.aload_n 0, 1) := dk_42 (dw rcX8_tell_0 0 rfl)
theorem dX8_tell_1 : decode cX8_tell 1 = .ok (.getfield 27, 3) := dk_180 (dw rcX8_tell_0 1 rfl) rfl
theorem dX8_tell_4 : decode cX8_tell 4 = .ok (.bipush 20, 2) := dk_16 (dw rcX8_tell_0 2 rfl) rfl
theorem dX8_tell_6 : decode cX8_tell 6 = .ok (.if_icmp .lt 5, 3) := dk_161 (dw rcX8_tell_0 3 rfl) rfl
theorem dX8_tell_9 : decode cX8_tell 9 = .ok (.iconst (-1), 1) := dk_2 (dw rcX8_tell_0 4 rfl)
theorem dX8_tell_10 : decode cX8_tell 10 = .ok (.ireturn, 1) := dk_172 (dw rcX8_tell_0 5 rfl)
theorem dX8_tell_11 : decode cX8_tell 11 = .ok (.aload_n 0, 1) := dk_42 (dw rcX8_tell_0 6 rfl)
theorem dX8_tell_12 : decode cX8_tell 12 = .ok (.getfield 11, 3) := dk_180 (dw rcX8_tell_0 7 rfl) rfl
theorem dX8_tell_15 : decode cX8_tell 15 = .ok (.aload_n 0, 1) := dk_42 (dw rcX8_tell_0 8 rfl)
theorem dX8_tell_16 : decode cX8_tell 16 = .ok (.getfield 27, 3) := dk_180 (dw rcX8_tell_0 9 rfl) rfl
theorem dX8_tell_19 : decode cX8_tell 19 = .ok (.iload_n 1, 1) := dk_27 (dw rcX8_tell_0 10 rfl)
theorem dX8_tell_20 : decode cX8_tell 20 = .ok (.iastore, 1) := dk_79 (dw rcX8_tell_0 11 rfl)
theorem dX8_tell_21 : decode cX8_tell 21 = .ok (.aload_n 0, 1) := dk_42 (dw rcX8_tell_0 12 rfl)
theorem dX8_tell_22 : decode cX8_tell 22 = .ok (.getfield 15, 3) := dk_180 (dw rcX8_tell_0 13 rfl) rfl
theorem dX8_tell_25 : decode cX8_tell 25 = .ok (.aload_n 0, 1) := dk_42 (dw rcX8_tell_0 14 rfl)
theorem dX8_tell_26 : decode cX8_tell 26 = .ok (.getfield 27, 3) := dk_180 (dw rcX8_tell_0 15 rfl) rfl
theorem dX8_tell_29 : decode cX8_tell 29 = .ok (.iload_n 2, 1) := dk_28 (dw rcX8_tell_0 16 rfl)
theorem dX8_tell_30 : decode cX8_tell 30 = .ok (.iastore, 1) := dk_79 (dw rcX8_tell_0 17 rfl)
theorem dX8_tell_31 : decode cX8_tell 31 = .ok (.aload_n 0, 1) := dk_42 (dw rcX8_tell_0 18 rfl)
theorem dX8_tell_32 : decode cX8_tell 32 = .ok (.getfield 18, 3) := dk_180 (dw rcX8_tell_0 19 rfl) rfl
theorem dX8_tell_35 : decode cX8_tell 35 = .ok (.aload_n 0, 1) := dk_42 (dw rcX8_tell_0 20 rfl)
theorem dX8_tell_36 : decode cX8_tell 36 = .ok (.getfield 27, 3) := dk_180 (dw rcX8_tell_0 21 rfl) rfl
theorem dX8_tell_39 : decode cX8_tell 39 = .ok (.iload_n 3, 1) := dk_29 (dw rcX8_tell_0 22 rfl)
theorem dX8_tell_40 : decode cX8_tell 40 = .ok (.iastore, 1) := dk_79 (dw rcX8_tell_0 23 rfl)
noncomputable def rbX8_tell_41 : List (Nat × List Nat) := [(41, [42]), (42, [180, 0, 21]), (45, [42]), (46, [180, 0, 27]), (49, [42]), (50, [180, 0, 31]), (53, [79]), (54, [42]), (55, [180, 0, 24]), (58, [42]), (59, [180, 0, 27]), (62, [2]), (63, [79]), (64, [42]), (65, [89]), (66, [180, 0, 27]), (69, [90]), (70, [4]), (71, [96]), (72, [181, 0, 27]), (75, [172])]
theorem rcX8_tell_41 : dgo (lb cX8_tell) 0 rbX8_tell_41 = true := by decide +kernel
theorem dX8_tell_41 : decode cX8_tell 41 = .ok (.aload_n 0, 1) := dk_42 (dw rcX8_tell_41 0 rfl)
theorem dX8_tell_42 : decode cX8_tell 42 = .ok (.getfield 21, 3) := dk_180 (dw rcX8_tell_41 1 rfl) rfl
theorem dX8_tell_45 : decode cX8_tell 45 = .ok (.aload_n 0, 1) := dk_42 (dw rcX8_tell_41 2 rfl)
theorem dX8_tell_46 : decode cX8_tell 46 = .ok (.getfield 27, 3) := dk_180 (dw rcX8_tell_41 3 rfl) rfl
theorem dX8_tell_49 : decode cX8_tell 49 = .ok (.aload_n 0, 1) := dk_42 (dw rcX8_tell_41 4 rfl)
theorem dX8_tell_50 : decode cX8_tell 50 = .ok (.getfield 31, 3) := dk_180 (dw rcX8_tell_41 5 rfl) rfl
theorem dX8_tell_53 : decode cX8_tell 53 = .ok (.iastore, 1) := dk_79 (dw rcX8_tell_41 6 rfl)
theorem dX8_tell_54 : decode cX8_tell 54 = .ok (.aload_n 0, 1) := dk_42 (dw rcX8_tell_41 7 rfl)
theorem dX8_tell_55 : decode cX8_tell 55 = .ok (.getfield 24, 3) := dk_180 (dw rcX8_tell_41 8 rfl) rfl
theorem dX8_tell_58 : decode cX8_tell 58 = .ok (.aload_n 0, 1) := dk_42 (dw rcX8_tell_41 9 rfl)
theorem dX8_tell_59 : decode cX8_tell 59 = .ok (.getfield 27, 3) := dk_180 (dw rcX8_tell_41 10 rfl) rfl
theorem dX8_tell_62 : decode cX8_tell 62 = .ok (.iconst (-1), 1) := dk_2 (dw rcX8_tell_41 11 rfl)
theorem dX8_tell_63 : decode cX8_tell 63 = .ok (.iastore, 1) := dk_79 (dw rcX8_tell_41 12 rfl)
theorem dX8_tell_64 : decode cX8_tell 64 = .ok (.aload_n 0, 1) := dk_42 (dw rcX8_tell_41 13 rfl)
theorem dX8_tell_65 : decode cX8_tell 65 = .ok (.dup, 1) := dk_89 (dw rcX8_tell_41 14 rfl)
theorem dX8_tell_66 : decode cX8_tell 66 = .ok (.getfield 27, 3) := dk_180 (dw rcX8_tell_41 15 rfl) rfl
theorem dX8_tell_69 : decode cX8_tell 69 = .ok (.dup_x1, 1) := dk_90 (dw rcX8_tell_41 16 rfl)
theorem dX8_tell_70 : decode cX8_tell 70 = .ok (.iconst 1, 1) := dk_4 (dw rcX8_tell_41 17 rfl)
theorem dX8_tell_71 : decode cX8_tell 71 = .ok (.iadd, 1) := dk_96 (dw rcX8_tell_41 18 rfl)
theorem dX8_tell_72 : decode cX8_tell 72 = .ok (.putfield 27, 3) := dk_181 (dw rcX8_tell_41 19 rfl) rfl
theorem dX8_tell_75 : decode cX8_tell 75 = .ok (.ireturn, 1) := dk_172 (dw rcX8_tell_41 20 rfl)
set_option maxHeartbeats 4000000 in
set_option maxRecDepth 100000 in
theorem k_sTell (l : Launch) (D : va_G) (k : KT) (A : Nat → Prop) (a : Nat → Nat) (z : SK) (G : GS) (p0 : Int32) (p1 : Int32) (p2 : Int32)  : Met l yX8_tell (WS yX8_tell cX8_tell 4 (some .int)) ({ frames := 0, cells := 0, slots := 0, locals := 0 }) (va_Pc [.ref (a 31), .int p0, .int p1, .int p2] (cW D k A a z G)) (va_Qi (fun (r : Int32) (G1 : GS) => P_sTell p0 p1 p2 G r G1) (fun (G1 : GS) t => Wd D k A a G1 t.heap) A) 0 0 A := by
  refine Met.ofW (cc := cX8_tell) (maxL := 4) (ret := (some .int)) (by decide) rfl ?_
  intro p e s m args below meth c s₁ B hml hv
  obtain ⟨rfl, hW, hB_G, hK, hZ⟩ := hv
  have hx := B.exec
  have hb := B.bytes
  have hr := B.returns
  have hts := atoms_spec (ws := WS yX8_tell cX8_tell 4 (some .int)) B.pre
  have hgd : ∀ w ∈ gd, w ∈ WS yX8_tell cX8_tell 4 (some .int) := fun w h => List.mem_cons_of_mem _ h
  have hg : ∀ w ∈ gd, w.before _ s = true := fun w h => hts w (hgd w h)
  have hown : s.vm.findClass RX8 = some m.cls := findClass_of_methodNamed B.named
  have hS : va_S A s.heap s.heap [] := va_S.rf
  have hF : Fr [61, 62, 63, 64, 65] [(31, 5)] G G := Fr.rf
  have hl := lv_entry ([.ref (a 31), .int p0, .int p1, .int p2]) (n := 4) (Nat.le_of_ble_eq_true rfl)
  rw [lg_entry_eq]
  generalize (lg_sl ([.ref (a 31), .int p0, .int p1, .int p2]) ++ List.replicate (4 - (lg_sl ([.ref (a 31), .int p0, .int p1, .int p2])).length) Slot.unset).toArray = ls at hl ⊢
  have hl : lv_has ls 4 [(0, .ref (a 31)), (1, .int p0), (2, .int p1), (3, .int p2)] := hl
  refine lv_aload_n hx hb dX8_tell_0 rfl (lv_at hl 0 rfl) ?_
  have b_1 : 0 ≤ (G.1 31 5).toInt ∧ (G.1 31 5).toInt ≤ 20 := bd_31_5 hB_G
  refine S_getI (v := (G.1 31 5)) (C := RX8) (T := TX8) (N := 7) hx hb hg iX8 hown hK hW kd_31 rfl 5 (lt_b rfl) (hg (Cond.fieldLink RX8 27 "SlabWalk$Sights" "count" "I") m528) (fun _ h9 => h9) rfl rfl dX8_tell_1 ?_
  refine lv_bipush (v := 20) hx hb dX8_tell_4 (by decide) ?_
  refine lv_icmp_lt (tgt := 11) hx hb dX8_tell_6 rfl (fun c_2 => ?_) (fun c_2 => ?_)
  · have c_2 : (G.1 31 5).toInt < 20 := xI_lt rfl rfl c_2
    refine lv_aload_n hx hb dX8_tell_11 rfl (lv_at hl 0 rfl) ?_
    refine S_getR (n := 61) (C := RX8) (T := TX8) (N := 7) hx hb hg iX8 hown hK hW kd_31 rfl 0 (lt_b rfl) (hg (Cond.fieldLink RX8 11 "SlabWalk$Sights" "walker" "[I") m520) (fun _ h9 => h9) rfl dX8_tell_12 ?_
    refine lv_aload_n hx hb dX8_tell_15 rfl (lv_at hl 0 rfl) ?_
    refine S_getI (v := (G.1 31 5)) (C := RX8) (T := TX8) (N := 7) hx hb hg iX8 hown hK hW kd_31 rfl 5 (lt_b rfl) (hg (Cond.fieldLink RX8 27 "SlabWalk$Sights" "count" "I") m528) (fun _ h9 => h9) rfl rfl dX8_tell_16 ?_
    refine lv_iload_n hx hb dX8_tell_19 rfl (lv_at hl 1 rfl) ?_
    refine S_iast hx hb hK hW hS kd_61 (vin ((by first | exact b_1.1 | omega)) ((by first | exact ok_195 b_1.2 c_2 | omega))) dX8_tell_20 (fun G_3 H locs eG_3 hW hS => ?_)
    have hB_G_3 : Bd G_3 := hB_G.put (lo := (-2147483648)) (hi := 2147483647) eG_3 rfl rfl rfl (tI_rng _).1 (tI_rng _).2 (hB_G.2.put eG_3 rfl)
    have hF := hF.put eG_3 (Or.inl (by decide))
    refine lv_aload_n hx hb dX8_tell_21 rfl (lv_at hl 0 rfl) ?_
    refine S_getR (n := 62) (C := RX8) (T := TX8) (N := 7) hx hb hg iX8 hown hK hW kd_31 rfl 1 (lt_b rfl) (hg (Cond.fieldLink RX8 15 "SlabWalk$Sights" "street" "[I") m522) (fun _ h9 => h9) rfl dX8_tell_22 ?_
    refine lv_aload_n hx hb dX8_tell_25 rfl (lv_at hl 0 rfl) ?_
    refine S_getI (v := (G.1 31 5)) (C := RX8) (T := TX8) (N := 7) hx hb hg iX8 hown hK hW kd_31 rfl 5 (lt_b rfl) (hg (Cond.fieldLink RX8 27 "SlabWalk$Sights" "count" "I") m528) (fun _ h9 => h9) rfl ((gp_ne eG_3 (fun q => absurd q.1 (Nat.ne_of_beq_eq_false rfl))).trans (rfl)) dX8_tell_26 ?_
    refine lv_iload_n hx hb dX8_tell_29 rfl (lv_at hl 2 rfl) ?_
    refine S_iast hx hb hK hW hS kd_62 (vin ((by first | exact b_1.1 | omega)) ((by first | exact ok_195 b_1.2 c_2 | omega))) dX8_tell_30 (fun G_4 H locs eG_4 hW hS => ?_)
    have hB_G_4 : Bd G_4 := hB_G_3.put (lo := (-2147483648)) (hi := 2147483647) eG_4 rfl rfl rfl (tI_rng _).1 (tI_rng _).2 (hB_G_3.2.put eG_4 rfl)
    have hF := hF.put eG_4 (Or.inl (by decide))
    refine lv_aload_n hx hb dX8_tell_31 rfl (lv_at hl 0 rfl) ?_
    refine S_getR (n := 63) (C := RX8) (T := TX8) (N := 7) hx hb hg iX8 hown hK hW kd_31 rfl 2 (lt_b rfl) (hg (Cond.fieldLink RX8 18 "SlabWalk$Sights" "heel" "[I") m524) (fun _ h9 => h9) rfl dX8_tell_32 ?_
    refine lv_aload_n hx hb dX8_tell_35 rfl (lv_at hl 0 rfl) ?_
    refine S_getI (v := (G.1 31 5)) (C := RX8) (T := TX8) (N := 7) hx hb hg iX8 hown hK hW kd_31 rfl 5 (lt_b rfl) (hg (Cond.fieldLink RX8 27 "SlabWalk$Sights" "count" "I") m528) (fun _ h9 => h9) rfl ((gp_ne eG_4 (fun q => absurd q.1 (Nat.ne_of_beq_eq_false rfl))).trans ((gp_ne eG_3 (fun q => absurd q.1 (Nat.ne_of_beq_eq_false rfl))).trans (rfl))) dX8_tell_36 ?_
    refine lv_iload_n hx hb dX8_tell_39 rfl (lv_at hl 3 rfl) ?_
    refine S_iast hx hb hK hW hS kd_63 (vin ((by first | exact b_1.1 | omega)) ((by first | exact ok_195 b_1.2 c_2 | omega))) dX8_tell_40 (fun G_5 H locs eG_5 hW hS => ?_)
    have hB_G_5 : Bd G_5 := hB_G_4.put (lo := (-2147483648)) (hi := 2147483647) eG_5 rfl rfl rfl (tI_rng _).1 (tI_rng _).2 (hB_G_4.2.put eG_5 rfl)
    have hF := hF.put eG_5 (Or.inl (by decide))
    refine lv_aload_n hx hb dX8_tell_41 rfl (lv_at hl 0 rfl) ?_
    refine S_getR (n := 64) (C := RX8) (T := TX8) (N := 7) hx hb hg iX8 hown hK hW kd_31 rfl 3 (lt_b rfl) (hg (Cond.fieldLink RX8 21 "SlabWalk$Sights" "told" "[I") m526) (fun _ h9 => h9) rfl dX8_tell_42 ?_
    refine lv_aload_n hx hb dX8_tell_45 rfl (lv_at hl 0 rfl) ?_
    refine S_getI (v := (G.1 31 5)) (C := RX8) (T := TX8) (N := 7) hx hb hg iX8 hown hK hW kd_31 rfl 5 (lt_b rfl) (hg (Cond.fieldLink RX8 27 "SlabWalk$Sights" "count" "I") m528) (fun _ h9 => h9) rfl ((gp_ne eG_5 (fun q => absurd q.1 (Nat.ne_of_beq_eq_false rfl))).trans ((gp_ne eG_4 (fun q => absurd q.1 (Nat.ne_of_beq_eq_false rfl))).trans ((gp_ne eG_3 (fun q => absurd q.1 (Nat.ne_of_beq_eq_false rfl))).trans (rfl)))) dX8_tell_46 ?_
    refine lv_aload_n hx hb dX8_tell_49 rfl (lv_at hl 0 rfl) ?_
    have b_6 : 0 ≤ (G.1 31 6).toInt ∧ (G.1 31 6).toInt ≤ 100000 := bd_31_6 hB_G
    refine S_getI (v := (G.1 31 6)) (C := RX8) (T := TX8) (N := 7) hx hb hg iX8 hown hK hW kd_31 rfl 6 (lt_b rfl) (hg (Cond.fieldLink RX8 31 "SlabWalk$Sights" "time" "I") m530) (fun _ h9 => h9) rfl ((gp_ne eG_5 (fun q => absurd q.1 (Nat.ne_of_beq_eq_false rfl))).trans ((gp_ne eG_4 (fun q => absurd q.1 (Nat.ne_of_beq_eq_false rfl))).trans (gp_ne eG_3 (fun q => absurd q.1 (Nat.ne_of_beq_eq_false rfl))))) dX8_tell_50 ?_
    refine S_iast hx hb hK hW hS kd_64 (vin ((by first | exact b_1.1 | omega)) ((by first | exact ok_195 b_1.2 c_2 | omega))) dX8_tell_53 (fun G_7 H locs eG_7 hW hS => ?_)
    have hB_G_7 : Bd G_7 := hB_G_5.put (lo := (-2147483648)) (hi := 2147483647) eG_7 rfl rfl rfl (tI_rng _).1 (tI_rng _).2 (hB_G_5.2.put eG_7 rfl)
    have hF := hF.put eG_7 (Or.inl (by decide))
    refine lv_aload_n hx hb dX8_tell_54 rfl (lv_at hl 0 rfl) ?_
    refine S_getR (n := 65) (C := RX8) (T := TX8) (N := 7) hx hb hg iX8 hown hK hW kd_31 rfl 4 (lt_b rfl) (hg (Cond.fieldLink RX8 24 "SlabWalk$Sights" "untold" "[I") m527) (fun _ h9 => h9) rfl dX8_tell_55 ?_
    refine lv_aload_n hx hb dX8_tell_58 rfl (lv_at hl 0 rfl) ?_
    refine S_getI (v := (G.1 31 5)) (C := RX8) (T := TX8) (N := 7) hx hb hg iX8 hown hK hW kd_31 rfl 5 (lt_b rfl) (hg (Cond.fieldLink RX8 27 "SlabWalk$Sights" "count" "I") m528) (fun _ h9 => h9) rfl ((gp_ne eG_7 (fun q => absurd q.1 (Nat.ne_of_beq_eq_false rfl))).trans ((gp_ne eG_5 (fun q => absurd q.1 (Nat.ne_of_beq_eq_false rfl))).trans ((gp_ne eG_4 (fun q => absurd q.1 (Nat.ne_of_beq_eq_false rfl))).trans ((gp_ne eG_3 (fun q => absurd q.1 (Nat.ne_of_beq_eq_false rfl))).trans (rfl))))) dX8_tell_59 ?_
    refine ic_m1 hx hb dX8_tell_62 ?_
    refine S_iast hx hb hK hW hS kd_65 (vin ((by first | exact b_1.1 | omega)) ((by first | exact ok_195 b_1.2 c_2 | omega))) dX8_tell_63 (fun G_8 H locs eG_8 hW hS => ?_)
    have hB_G_8 : Bd G_8 := hB_G_7.put (lo := (-2147483648)) (hi := 2147483647) eG_8 rfl rfl rfl (tI_rng _).1 (tI_rng _).2 (hB_G_7.2.put eG_8 rfl)
    have hF := hF.put eG_8 (Or.inl (by decide))
    refine lv_aload_n hx hb dX8_tell_64 rfl (lv_at hl 0 rfl) ?_
    refine lv_dup hx hb dX8_tell_65 rfl ?_
    refine S_getI (v := (G.1 31 5)) (C := RX8) (T := TX8) (N := 7) hx hb hg iX8 hown hK hW kd_31 rfl 5 (lt_b rfl) (hg (Cond.fieldLink RX8 27 "SlabWalk$Sights" "count" "I") m528) (fun _ h9 => h9) rfl ((gp_ne eG_8 (fun q => absurd q.1 (Nat.ne_of_beq_eq_false rfl))).trans ((gp_ne eG_7 (fun q => absurd q.1 (Nat.ne_of_beq_eq_false rfl))).trans ((gp_ne eG_5 (fun q => absurd q.1 (Nat.ne_of_beq_eq_false rfl))).trans ((gp_ne eG_4 (fun q => absurd q.1 (Nat.ne_of_beq_eq_false rfl))).trans ((gp_ne eG_3 (fun q => absurd q.1 (Nat.ne_of_beq_eq_false rfl))).trans (rfl)))))) dX8_tell_66 ?_
    refine lv_dup_x1 hx hb dX8_tell_69 rfl rfl ?_
    refine ic_1 hx hb dX8_tell_70 ?_
    refine lv_iadd hx hb dX8_tell_71 ?_
    refine lv_topi (fun y_9 ey_9 => ?_)
    have ty_9 : y_9.toInt = (G.1 31 5).toInt + 1 := xI_add rfl rfl ey_9 ((by first | exact ok_21 b_1.1 | omega)) ((by first | exact ok_196 b_1.2 | omega))
    refine S_putI (ty := .int) (C := RX8) (T := TX8) (N := 7) hx hb hg iX8 tyX8 tyX8_ok nmX8 hown hK hW hS kd_31 rfl 5 (lt_b rfl) (hg (Cond.fieldLink RX8 27 "SlabWalk$Sights" "count" "I") m528) (fun _ h9 => h9) rfl (by decide +kernel) rfl rfl rfl dX8_tell_72 (fun G_10 H locs eG_10 hW hS => ?_)
    have hB_G_10 : Bd G_10 := hB_G_8.put (V := y_9.toInt) (lo := 0) (hi := 20) eG_10 rfl rfl rfl ((by first | exact ok_23 b_1.1 ty_9 | omega)) ((by first | exact ok_197 b_1.2 c_2 ty_9 | omega)) (hB_G_8.2.put eG_10 rfl)
    have hF := hF.put eG_10 (Or.inr (by decide))
    exact W.iret (v := (G.1 31 5)) hx hb hr (fun t ht _ => ⟨⟨(G.1 31 5), G_10, rfl, (P_sTell_mk ⟨hB_G_10, hF, (Or.inl ⟨c_2, ⟨y_9, ty_9, ⟨rfl, (Fr.put (rs := [61, 62, 63, 64, 65]) (fs := [(31, 5)]) (Fr.put (rs := [61, 62, 63, 64, 65]) (fs := [(31, 5)]) (Fr.put (rs := [61, 62, 63, 64, 65]) (fs := [(31, 5)]) (Fr.put (rs := [61, 62, 63, 64, 65]) (fs := [(31, 5)]) (Fr.put (rs := [61, 62, 63, 64, 65]) (fs := [(31, 5)]) (Fr.put (rs := [61, 62, 63, 64, 65]) (fs := [(31, 5)]) Fr.rf eG_3 (Or.inl (by decide))) eG_4 (Or.inl (by decide))) eG_5 (Or.inl (by decide))) eG_7 (Or.inl (by decide))) eG_8 (Or.inl (by decide))) eG_10 (Or.inr (by decide))), (gp_eq eG_10), (rw_put eG_10 (by decide)).trans ((rw_put eG_8 (by decide)).trans ((rw_put eG_7 (by decide)).trans ((rw_put eG_5 (by decide)).trans ((rw_put eG_4 (by decide)).trans (rw_ast eG_3))))), (rw_put eG_10 (by decide)).trans ((rw_put eG_8 (by decide)).trans ((rw_put eG_7 (by decide)).trans ((rw_put eG_5 (by decide)).trans ((rw_ast eG_4).trans (congrArg (fun q => upd q ((G.1 31 5).toNatClampNeg) p1) (rw_put eG_3 (by decide))))))), (rw_put eG_10 (by decide)).trans ((rw_put eG_8 (by decide)).trans ((rw_put eG_7 (by decide)).trans ((rw_ast eG_5).trans (congrArg (fun q => upd q ((G.1 31 5).toNatClampNeg) p2) ((rw_put eG_4 (by decide)).trans (rw_put eG_3 (by decide))))))), (rw_put eG_10 (by decide)).trans ((rw_put eG_8 (by decide)).trans ((rw_ast eG_7).trans (congrArg (fun q => upd q ((G.1 31 5).toNatClampNeg) (G.1 31 6)) ((rw_put eG_5 (by decide)).trans ((rw_put eG_4 (by decide)).trans (rw_put eG_3 (by decide))))))), (rw_put eG_10 (by decide)).trans ((rw_ast eG_8).trans (congrArg (fun q => upd q ((G.1 31 5).toNatClampNeg) (-1)) ((rw_put eG_7 (by decide)).trans ((rw_put eG_5 (by decide)).trans ((rw_put eG_4 (by decide)).trans (rw_put eG_3 (by decide)))))))⟩⟩⟩)⟩), wd_t ht hW⟩, hS.F ht⟩) hS.2.2 dX8_tell_75
  · have c_2 : 20 ≤ (G.1 31 5).toInt := xI_nlt rfl rfl c_2
    refine ic_m1 hx hb dX8_tell_9 ?_
    exact W.iret (v := (-1)) hx hb hr (fun t ht _ => ⟨⟨(-1), G, rfl, (P_sTell_mk ⟨hB_G, hF, (Or.inr ⟨c_2, ⟨rfl, rfl⟩⟩)⟩), wd_t ht hW⟩, hS.F ht⟩) hS.2.2 dX8_tell_10

set_option maxHeartbeats 4000000 in
set_option maxRecDepth 100000 in
theorem k_sTake (l : Launch) (D : va_G) (k : KT) (A : Nat → Prop) (a : Nat → Nat) (z : SK) (G : GS) (p0 : Int32)  : Met l yX8_takeFrom (WS yX8_takeFrom cX8_takeFrom 2 (some .boolean)) ({ frames := 0, cells := 0, slots := 0, locals := 0 }) (va_Pc [.ref (a 31), .int p0] (cW D k A a z G)) (va_Qi (fun (r : Int32) (G1 : GS) => P_sTake p0 G r G1) (fun (G1 : GS) t => Wd D k A a G1 t.heap) A) 0 0 A := by
  refine Met.ofW (cc := cX8_takeFrom) (maxL := 2) (ret := (some .boolean)) (by decide) rfl ?_
  intro p e s m args below meth c s₁ B hml hv
  obtain ⟨rfl, hW, hB_G, hK, hZ⟩ := hv
  have hx := B.exec
  have hb := B.bytes
  have hr := B.returns
  have hts := atoms_spec (ws := WS yX8_takeFrom cX8_takeFrom 2 (some .boolean)) B.pre
  have hgd : ∀ w ∈ gd, w ∈ WS yX8_takeFrom cX8_takeFrom 2 (some .boolean) := fun w h => List.mem_cons_of_mem _ h
  have hg : ∀ w ∈ gd, w.before _ s = true := fun w h => hts w (hgd w h)
  have hown : s.vm.findClass RX8 = some m.cls := findClass_of_methodNamed B.named
  have hS : va_S A s.heap s.heap [] := va_S.rf
  have hF : Fr [65] [] G G := Fr.rf
  have hl := lv_entry ([.ref (a 31), .int p0]) (n := 2) (Nat.le_of_ble_eq_true rfl)
  rw [lg_entry_eq]
  generalize (lg_sl ([.ref (a 31), .int p0]) ++ List.replicate (2 - (lg_sl ([.ref (a 31), .int p0])).length) Slot.unset).toArray = ls at hl ⊢
  have hl : lv_has ls 2 [(0, .ref (a 31)), (1, .int p0)] := hl
  refine lv_iload_n hx hb dX8_takeFrom_0 rfl (lv_at hl 1 rfl) ?_
  refine lv_if_lt (tgt := 22) hx hb dX8_takeFrom_1 rfl (fun c_1 => ?_) (fun c_1 => ?_)
  · have c_1 : p0.toInt < 0 := xI_lt rfl rfl c_1
    refine ic_0 hx hb dX8_takeFrom_22 ?_
    exact W.zret (v := 0) hx hb hr (by decide) (fun t ht _ => ⟨⟨0, G, rfl, (P_sTake_mk ⟨hB_G, hF, ⟨by decide, by decide⟩, (Or.inl ⟨c_1, ⟨rfl, rfl⟩⟩)⟩), wd_t ht hW⟩, hS.F ht⟩) hS.2.2 dX8_takeFrom_23
  · have c_1 : 0 ≤ p0.toInt := xI_nlt rfl rfl c_1
    refine lv_iload_n hx hb dX8_takeFrom_4 rfl (lv_at hl 1 rfl) ?_
    refine lv_aload_n hx hb dX8_takeFrom_5 rfl (lv_at hl 0 rfl) ?_
    have b_2 : 0 ≤ (G.1 31 5).toInt ∧ (G.1 31 5).toInt ≤ 20 := bd_31_5 hB_G
    refine S_getI (v := (G.1 31 5)) (C := RX8) (T := TX8) (N := 7) hx hb hg iX8 hown hK hW kd_31 rfl 5 (lt_b rfl) (hg (Cond.fieldLink RX8 27 "SlabWalk$Sights" "count" "I") m528) (fun _ h9 => h9) rfl rfl dX8_takeFrom_6 ?_
    refine lv_icmp_ge (tgt := 22) hx hb dX8_takeFrom_9 rfl (fun c_3 => ?_) (fun c_3 => ?_)
    · have c_3 : (G.1 31 5).toInt ≤ p0.toInt := xI_le rfl rfl c_3
      refine ic_0 hx hb dX8_takeFrom_22 ?_
      exact W.zret (v := 0) hx hb hr (by decide) (fun t ht _ => ⟨⟨0, G, rfl, (P_sTake_mk ⟨hB_G, hF, ⟨by decide, by decide⟩, (Or.inr ⟨c_1, (Or.inl ⟨c_3, ⟨rfl, rfl⟩⟩)⟩)⟩), wd_t ht hW⟩, hS.F ht⟩) hS.2.2 dX8_takeFrom_23
    · have c_3 : p0.toInt < (G.1 31 5).toInt := xI_nle rfl rfl c_3
      refine lv_aload_n hx hb dX8_takeFrom_12 rfl (lv_at hl 0 rfl) ?_
      refine S_getR (n := 65) (C := RX8) (T := TX8) (N := 7) hx hb hg iX8 hown hK hW kd_31 rfl 4 (lt_b rfl) (hg (Cond.fieldLink RX8 24 "SlabWalk$Sights" "untold" "[I") m527) (fun _ h9 => h9) rfl dX8_takeFrom_13 ?_
      refine lv_iload_n hx hb dX8_takeFrom_16 rfl (lv_at hl 1 rfl) ?_
      refine S_iald hx hb hK hW kd_65 (vin ((by first | exact c_1 | omega)) ((by first | exact ok_198 b_2.2 c_3 | omega))) dX8_takeFrom_17 (fun y_4 ey_4 => ?_)
      refine ic_m1 hx hb dX8_takeFrom_18 ?_
      refine lv_icmp_eq (tgt := 24) hx hb dX8_takeFrom_19 rfl (fun c_5 => ?_) (fun c_5 => ?_)
      · have c_5 : y_4.toInt = (-1) := xI_eq rfl rfl c_5
        refine lv_aload_n hx hb dX8_takeFrom_24 rfl (lv_at hl 0 rfl) ?_
        refine S_getR (n := 65) (C := RX8) (T := TX8) (N := 7) hx hb hg iX8 hown hK hW kd_31 rfl 4 (lt_b rfl) (hg (Cond.fieldLink RX8 24 "SlabWalk$Sights" "untold" "[I") m527) (fun _ h9 => h9) rfl dX8_takeFrom_25 ?_
        refine lv_iload_n hx hb dX8_takeFrom_28 rfl (lv_at hl 1 rfl) ?_
        refine lv_aload_n hx hb dX8_takeFrom_29 rfl (lv_at hl 0 rfl) ?_
        have b_6 : 0 ≤ (G.1 31 6).toInt ∧ (G.1 31 6).toInt ≤ 100000 := bd_31_6 hB_G
        refine S_getI (v := (G.1 31 6)) (C := RX8) (T := TX8) (N := 7) hx hb hg iX8 hown hK hW kd_31 rfl 6 (lt_b rfl) (hg (Cond.fieldLink RX8 31 "SlabWalk$Sights" "time" "I") m530) (fun _ h9 => h9) rfl rfl dX8_takeFrom_30 ?_
        refine S_iast hx hb hK hW hS kd_65 (vin ((by first | exact c_1 | omega)) ((by first | exact ok_198 b_2.2 c_3 | omega))) dX8_takeFrom_33 (fun G_7 H locs eG_7 hW hS => ?_)
        have hB_G_7 : Bd G_7 := hB_G.put (lo := (-2147483648)) (hi := 2147483647) eG_7 rfl rfl rfl (tI_rng _).1 (tI_rng _).2 (hB_G.2.put eG_7 rfl)
        have hF := hF.put eG_7 (Or.inl (by decide))
        refine ic_1 hx hb dX8_takeFrom_34 ?_
        exact W.zret (v := 1) hx hb hr (by decide) (fun t ht _ => ⟨⟨1, G_7, rfl, (P_sTake_mk ⟨hB_G_7, hF, ⟨by decide, by decide⟩, (Or.inr ⟨c_1, (Or.inr ⟨c_3, ⟨y_4, ey_4, (Or.inl ⟨c_5, ⟨rfl, (Fr.put (rs := [65]) (fs := []) Fr.rf eG_7 (Or.inl (by decide))), rw_ast eG_7⟩⟩)⟩⟩)⟩)⟩), wd_t ht hW⟩, hS.F ht⟩) hS.2.2 dX8_takeFrom_35
      · have c_5 : y_4.toInt ≠ (-1) := xI_ne rfl rfl c_5
        refine ic_0 hx hb dX8_takeFrom_22 ?_
        exact W.zret (v := 0) hx hb hr (by decide) (fun t ht _ => ⟨⟨0, G, rfl, (P_sTake_mk ⟨hB_G, hF, ⟨by decide, by decide⟩, (Or.inr ⟨c_1, (Or.inr ⟨c_3, ⟨y_4, ey_4, (Or.inr ⟨c_5, ⟨rfl, rfl⟩⟩)⟩⟩)⟩)⟩), wd_t ht hW⟩, hS.F ht⟩) hS.2.2 dX8_takeFrom_23

set_option maxHeartbeats 4000000 in
set_option maxRecDepth 100000 in
theorem k_sCounts (l : Launch) (D : va_G) (k : KT) (A : Nat → Prop) (a : Nat → Nat) (z : SK) (G : GS) (p0 : Int32) (p1 : Int32) (ha_p0 : 0 ≤ p0.toInt ∧ p0.toInt ≤ 19) : Met l yX8_counts (WS yX8_counts cX8_counts 3 (some .boolean)) ({ frames := 0, cells := 0, slots := 0, locals := 0 }) (va_Pc [.ref (a 31), .int p0, .int p1] (cW D k A a z G)) (va_Qi (fun (r : Int32) (G1 : GS) => P_sCounts p0 p1 G r G1) (fun (G1 : GS) t => Wd D k A a G1 t.heap) A) 0 0 A := by
  refine Met.ofW (cc := cX8_counts) (maxL := 3) (ret := (some .boolean)) (by decide) rfl ?_
  intro p e s m args below meth c s₁ B hml hv
  obtain ⟨rfl, hW, hB_G, hK, hZ⟩ := hv
  have hx := B.exec
  have hb := B.bytes
  have hr := B.returns
  have hts := atoms_spec (ws := WS yX8_counts cX8_counts 3 (some .boolean)) B.pre
  have hgd : ∀ w ∈ gd, w ∈ WS yX8_counts cX8_counts 3 (some .boolean) := fun w h => List.mem_cons_of_mem _ h
  have hg : ∀ w ∈ gd, w.before _ s = true := fun w h => hts w (hgd w h)
  have hown : s.vm.findClass RX8 = some m.cls := findClass_of_methodNamed B.named
  have hS : va_S A s.heap s.heap [] := va_S.rf
  have hF : Fr [] [] G G := Fr.rf
  have hl := lv_entry ([.ref (a 31), .int p0, .int p1]) (n := 3) (Nat.le_of_ble_eq_true rfl)
  rw [lg_entry_eq]
  generalize (lg_sl ([.ref (a 31), .int p0, .int p1]) ++ List.replicate (3 - (lg_sl ([.ref (a 31), .int p0, .int p1])).length) Slot.unset).toArray = ls at hl ⊢
  have hl : lv_has ls 3 [(0, .ref (a 31)), (1, .int p0), (2, .int p1)] := hl
  refine lv_aload_n hx hb dX8_counts_0 rfl (lv_at hl 0 rfl) ?_
  refine S_getR (n := 64) (C := RX8) (T := TX8) (N := 7) hx hb hg iX8 hown hK hW kd_31 rfl 3 (lt_b rfl) (hg (Cond.fieldLink RX8 21 "SlabWalk$Sights" "told" "[I") m526) (fun _ h9 => h9) rfl dX8_counts_1 ?_
  refine lv_iload_n hx hb dX8_counts_4 rfl (lv_at hl 1 rfl) ?_
  refine S_iald hx hb hK hW kd_64 (vin ((by first | exact ha_p0.1 | omega)) ((by first | exact ok_199 ha_p0.2 | omega))) dX8_counts_5 (fun y_1 ey_1 => ?_)
  refine lv_iload_n hx hb dX8_counts_6 rfl (lv_at hl 2 rfl) ?_
  refine lv_icmp_gt (tgt := 34) hx hb dX8_counts_7 rfl (fun c_2 => ?_) (fun c_2 => ?_)
  · have c_2 : p1.toInt < y_1.toInt := xI_lt rfl rfl c_2
    refine ic_0 hx hb dX8_counts_34 ?_
    exact W.zret (v := 0) hx hb hr (by decide) (fun t ht _ => ⟨⟨0, G, rfl, (P_sCounts_mk ⟨hB_G, hF, ⟨by decide, by decide⟩, ⟨y_1, ey_1, (Or.inl ⟨c_2, ⟨rfl, rfl⟩⟩)⟩⟩), wd_t ht hW⟩, hS.F ht⟩) hS.2.2 dX8_counts_35
  · have c_2 : y_1.toInt ≤ p1.toInt := xI_nlt rfl rfl c_2
    refine lv_aload_n hx hb dX8_counts_10 rfl (lv_at hl 0 rfl) ?_
    refine S_getR (n := 65) (C := RX8) (T := TX8) (N := 7) hx hb hg iX8 hown hK hW kd_31 rfl 4 (lt_b rfl) (hg (Cond.fieldLink RX8 24 "SlabWalk$Sights" "untold" "[I") m527) (fun _ h9 => h9) rfl dX8_counts_11 ?_
    refine lv_iload_n hx hb dX8_counts_14 rfl (lv_at hl 1 rfl) ?_
    refine S_iald hx hb hK hW kd_65 (vin ((by first | exact ha_p0.1 | omega)) ((by first | exact ok_199 ha_p0.2 | omega))) dX8_counts_15 (fun y_3 ey_3 => ?_)
    refine ic_m1 hx hb dX8_counts_16 ?_
    refine lv_icmp_eq (tgt := 30) hx hb dX8_counts_17 rfl (fun c_4 => ?_) (fun c_4 => ?_)
    · have c_4 : y_3.toInt = (-1) := xI_eq rfl rfl c_4
      refine ic_1 hx hb dX8_counts_30 ?_
      refine lv_goto (tgt := 35) hx hb dX8_counts_31 rfl ?_
      exact W.zret (v := 1) hx hb hr (by decide) (fun t ht _ => ⟨⟨1, G, rfl, (P_sCounts_mk ⟨hB_G, hF, ⟨by decide, by decide⟩, ⟨y_1, ey_1, (Or.inr ⟨c_2, ⟨y_3, ey_3, (Or.inl ⟨c_4, ⟨rfl, rfl⟩⟩)⟩⟩)⟩⟩), wd_t ht hW⟩, hS.F ht⟩) hS.2.2 dX8_counts_35
    · have c_4 : y_3.toInt ≠ (-1) := xI_ne rfl rfl c_4
      refine lv_aload_n hx hb dX8_counts_20 rfl (lv_at hl 0 rfl) ?_
      refine S_getR (n := 65) (C := RX8) (T := TX8) (N := 7) hx hb hg iX8 hown hK hW kd_31 rfl 4 (lt_b rfl) (hg (Cond.fieldLink RX8 24 "SlabWalk$Sights" "untold" "[I") m527) (fun _ h9 => h9) rfl dX8_counts_21 ?_
      refine lv_iload_n hx hb dX8_counts_24 rfl (lv_at hl 1 rfl) ?_
      refine S_iald hx hb hK hW kd_65 (vin ((by first | exact ha_p0.1 | omega)) ((by first | exact ok_199 ha_p0.2 | omega))) dX8_counts_25 (fun y_5 ey_5 => ?_)
      refine lv_iload_n hx hb dX8_counts_26 rfl (lv_at hl 2 rfl) ?_
      refine lv_icmp_le (tgt := 34) hx hb dX8_counts_27 rfl (fun c_6 => ?_) (fun c_6 => ?_)
      · have c_6 : y_5.toInt ≤ p1.toInt := xI_le rfl rfl c_6
        refine ic_0 hx hb dX8_counts_34 ?_
        exact W.zret (v := 0) hx hb hr (by decide) (fun t ht _ => ⟨⟨0, G, rfl, (P_sCounts_mk ⟨hB_G, hF, ⟨by decide, by decide⟩, ⟨y_1, ey_1, (Or.inr ⟨c_2, ⟨y_3, ey_3, (Or.inr ⟨c_4, ⟨y_5, ey_5, (Or.inl ⟨c_6, ⟨rfl, rfl⟩⟩)⟩⟩)⟩⟩)⟩⟩), wd_t ht hW⟩, hS.F ht⟩) hS.2.2 dX8_counts_35
      · have c_6 : p1.toInt < y_5.toInt := xI_nle rfl rfl c_6
        refine ic_1 hx hb dX8_counts_30 ?_
        refine lv_goto (tgt := 35) hx hb dX8_counts_31 rfl ?_
        exact W.zret (v := 1) hx hb hr (by decide) (fun t ht _ => ⟨⟨1, G, rfl, (P_sCounts_mk ⟨hB_G, hF, ⟨by decide, by decide⟩, ⟨y_1, ey_1, (Or.inr ⟨c_2, ⟨y_3, ey_3, (Or.inr ⟨c_4, ⟨y_5, ey_5, (Or.inr ⟨c_6, ⟨rfl, rfl⟩⟩)⟩⟩)⟩⟩)⟩⟩), wd_t ht hW⟩, hS.F ht⟩) hS.2.2 dX8_counts_35

theorem m1 : Cond.selects RX1 yX1_forgetActs yX1_forgetActs ∈ gd := gds_1 1 rfl
theorem m127 : Cond.initialized RX1 ∈ gd := gdc_1_0 11 rfl gw_initialized
theorem m130 : Cond.initialized "java/lang/System" ∈ gd := gdc_1_0 14 rfl gw_initialized
theorem m492 : Cond.fieldLink RX1 11 "SlabWalk$Earnest" "now" "[I" ∈ gd := gdc_2_8 8 rfl gw_fieldLink
theorem m494 : Cond.fieldLink RX1 15 "SlabWalk$Earnest" "kept" "[I" ∈ gd := gdc_2_8 10 rfl gw_fieldLink
theorem m495 : Cond.fieldLink RX1 18 "SlabWalk$Earnest" "boxes" "[I" ∈ gd := gdc_2_8 11 rfl gw_fieldLink
theorem m496 : Cond.fieldLink RX1 27 "SlabWalk$Earnest" "full" "I" ∈ gd := gdc_2_8 12 rfl gw_fieldLink
theorem m497 : Cond.fieldLink RX1 34 "SlabWalk$Earnest" "done" "I" ∈ gd := gdc_2_8 13 rfl gw_fieldLink
theorem m499 : Cond.fieldLink RX1 37 "SlabWalk$Earnest" "undone" "I" ∈ gd := gdc_2_8 15 rfl gw_fieldLink
theorem m562 : Cond.methodLink RX1 21 yJ7_fill_53178 ∈ gd := gdc_2_12 14 rfl gw_methodLink
theorem m563 : Cond.methodLink RX1 31 yX1_forgetActs ∈ gd := gdc_2_12 15 rfl gw_methodLink
theorem m565 : Cond.instanceMethod yX1_forgetActs ∈ gd := gdc_2_13 1 rfl gw_instanceMethod
theorem m566 : Cond.code yX1_forgetActs cX1_forgetActs 1 none ∈ gd := gdc_2_13 2 rfl gw_code
theorem m567 : Cond.methodLink RX1 40 arraycopyName ∈ gd := gdc_2_13 3 rfl gw_methodLink
theorem m568 : Cond.static arraycopyName ∈ gd := gdc_2_13 4 rfl gw_static
theorem m569 : Cond.native arraycopyName ∈ gd := gdc_2_13 5 rfl rfl
noncomputable def rbX1_bringFrom_0 : List (Nat × List Nat) := [(0, [27]), (1, [155, 0, 19]), (4, [27]), (5, [6]), (6, [162, 0, 14]), (9, [42]), (10, [180, 0, 27]), (13, [27]), (14, [122]), (15, [4]), (16, [126]), (17, [154, 0, 5]), (20, [3]), (21, [172]), (22, [42]), (23, [180, 0, 18]), (26, [27]), (27, [16, 10]), (29, [104]), (30, [42]), (31, [180, 0, 11]), (34, [3]), (35, [16, 10]), (37, [184, 0, 40])]
theorem rcX1_bringFrom_0 : dgo (lb cX1_bringFrom) 0 rbX1_bringFrom_0 = true := by decide +kernel
theorem dX1_bringFrom_0 : decode cX1_bringFrom 0 = .ok (.iload_n 1, 1) := dk_27 (dw rcX1_bringFrom_0 0 rfl)
theorem dX1_bringFrom_1 : decode cX1_bringFrom 1 = .ok (.ifCond .lt 19, 3) := dk_155 (dw rcX1_bringFrom_0 1 rfl) rfl
theorem dX1_bringFrom_4 : decode cX1_bringFrom 4 = .ok (.iload_n 1, 1) := dk_27 (dw rcX1_bringFrom_0 2 rfl)
theorem dX1_bringFrom_5 : decode cX1_bringFrom 5 = .ok (.iconst 3, 1) := dk_6 (dw rcX1_bringFrom_0 3 rfl)
theorem dX1_bringFrom_6 : decode cX1_bringFrom 6 = .ok (.if_icmp .ge 14, 3) := dk_162 (dw rcX1_bringFrom_0 4 rfl) rfl
theorem dX1_bringFrom_9 : decode cX1_bringFrom 9 = .ok (.aload_n 0, 1) := dk_42 (dw rcX1_bringFrom_0 5 rfl)
theorem dX1_bringFrom_10 : decode cX1_bringFrom 10 = .ok (.getfield 27, 3) := dk_180 (dw rcX1_bringFrom_0 6 rfl) rfl
theorem dX1_bringFrom_13 : decode cX1_bringFrom 13 = .ok (.iload_n 1, 1) := dk_27 (dw rcX1_bringFrom_0 7 rfl)
theorem dX1_bringFrom_14 : decode cX1_bringFrom 14 = .ok (.ishr, 1) := dk_122 (dw rcX1_bringFrom_0 8 rfl)
theorem dX1_bringFrom_15 : decode cX1_bringFrom 15 = .ok (.iconst 1, 1) := dk_4 (dw rcX1_bringFrom_0 9 rfl)
theorem dX1_bringFrom_16 : decode cX1_bringFrom 16 = .ok (.iand, 1) := dk_126 (dw rcX1_bringFrom_0 10 rfl)
theorem dX1_bringFrom_17 : decode cX1_bringFrom 17 = .ok (.ifCond .ne 5, 3) := dk_154 (dw rcX1_bringFrom_0 11 rfl) rfl
theorem dX1_bringFrom_20 : decode cX1_bringFrom 20 = .ok (.iconst 0, 1) := dk_3 (dw rcX1_bringFrom_0 12 rfl)
theorem dX1_bringFrom_21 : decode cX1_bringFrom 21 = .ok (.ireturn, 1) := dk_172 (dw rcX1_bringFrom_0 13 rfl)
theorem dX1_bringFrom_22 : decode cX1_bringFrom 22 = .ok (.aload_n 0, 1) := dk_42 (dw rcX1_bringFrom_0 14 rfl)
theorem dX1_bringFrom_23 : decode cX1_bringFrom 23 = .ok (.getfield 18, 3) := dk_180 (dw rcX1_bringFrom_0 15 rfl) rfl
theorem dX1_bringFrom_26 : decode cX1_bringFrom 26 = .ok (.iload_n 1, 1) := dk_27 (dw rcX1_bringFrom_0 16 rfl)
theorem dX1_bringFrom_27 : decode cX1_bringFrom 27 = .ok (.bipush 10, 2) := dk_16 (dw rcX1_bringFrom_0 17 rfl) rfl
theorem dX1_bringFrom_29 : decode cX1_bringFrom 29 = .ok (.imul, 1) := dk_104 (dw rcX1_bringFrom_0 18 rfl)
theorem dX1_bringFrom_30 : decode cX1_bringFrom 30 = .ok (.aload_n 0, 1) := dk_42 (dw rcX1_bringFrom_0 19 rfl)
theorem dX1_bringFrom_31 : decode cX1_bringFrom 31 = .ok (.getfield 11, 3) := dk_180 (dw rcX1_bringFrom_0 20 rfl) rfl
theorem dX1_bringFrom_34 : decode cX1_bringFrom 34 = .ok (.iconst 0, 1) := dk_3 (dw rcX1_bringFrom_0 21 rfl)
theorem dX1_bringFrom_35 : decode cX1_bringFrom 35 = .ok (.bipush 10, 2) := dk_16 (dw rcX1_bringFrom_0 22 rfl) rfl
theorem dX1_bringFrom_37 : decode cX1_bringFrom 37 = .ok (.invokestatic 40, 3) := dk_184 (dw rcX1_bringFrom_0 23 rfl) rfl
noncomputable def rbX1_bringFrom_40 : List (Nat × List Nat) := [(40, [42]), (41, [182, 0, 31]), (44, [4]), (45, [172])]
theorem rcX1_bringFrom_40 : dgo (lb cX1_bringFrom) 0 rbX1_bringFrom_40 = true := by decide +kernel
theorem dX1_bringFrom_40 : decode cX1_bringFrom 40 = .ok (.aload_n 0, 1) := dk_42 (dw rcX1_bringFrom_40 0 rfl)
theorem dX1_bringFrom_41 : decode cX1_bringFrom 41 = .ok (.invokevirtual 31, 3) := dk_182 (dw rcX1_bringFrom_40 1 rfl) rfl
theorem dX1_bringFrom_44 : decode cX1_bringFrom 44 = .ok (.iconst 1, 1) := dk_4 (dw rcX1_bringFrom_40 2 rfl)
theorem dX1_bringFrom_45 : decode cX1_bringFrom 45 = .ok (.ireturn, 1) := dk_172 (dw rcX1_bringFrom_40 3 rfl)
noncomputable def rbX1_doAgain_0 : List (Nat × List Nat) := [(0, [42]), (1, [180, 0, 37]), (4, [157, 0, 5]), (7, [3]), (8, [172]), (9, [42]), (10, [89]), (11, [180, 0, 34]), (14, [4]), (15, [96]), (16, [181, 0, 34]), (19, [42]), (20, [89]), (21, [180, 0, 37]), (24, [4]), (25, [100]), (26, [181, 0, 37]), (29, [42]), (30, [180, 0, 15]), (33, [42]), (34, [180, 0, 34]), (37, [16, 10]), (39, [104]), (40, [42])]
theorem rcX1_doAgain_0 : dgo (lb cX1_doAgain) 0 rbX1_doAgain_0 = true := by decide +kernel
theorem dX1_doAgain_0 : decode cX1_doAgain 0 = .ok (.aload_n 0, 1) := dk_42 (dw rcX1_doAgain_0 0 rfl)
theorem dX1_doAgain_1 : decode cX1_doAgain 1 = .ok (.getfield 37, 3) := dk_180 (dw rcX1_doAgain_0 1 rfl) rfl
theorem dX1_doAgain_4 : decode cX1_doAgain 4 = .ok (.ifCond .gt 5, 3) := dk_157 (dw rcX1_doAgain_0 2 rfl) rfl
theorem dX1_doAgain_7 : decode cX1_doAgain 7 = .ok (.iconst 0, 1) := dk_3 (dw rcX1_doAgain_0 3 rfl)
theorem dX1_doAgain_8 : decode cX1_doAgain 8 = .ok (.ireturn, 1) := dk_172 (dw rcX1_doAgain_0 4 rfl)
theorem dX1_doAgain_9 : decode cX1_doAgain 9 = .ok (.aload_n 0, 1) := dk_42 (dw rcX1_doAgain_0 5 rfl)
theorem dX1_doAgain_10 : decode cX1_doAgain 10 = .ok (.dup, 1) := dk_89 (dw rcX1_doAgain_0 6 rfl)
theorem dX1_doAgain_11 : decode cX1_doAgain 11 = .ok (.getfield 34, 3) := dk_180 (dw rcX1_doAgain_0 7 rfl) rfl
theorem dX1_doAgain_14 : decode cX1_doAgain 14 = .ok (.iconst 1, 1) := dk_4 (dw rcX1_doAgain_0 8 rfl)
theorem dX1_doAgain_15 : decode cX1_doAgain 15 = .ok (.iadd, 1) := dk_96 (dw rcX1_doAgain_0 9 rfl)
theorem dX1_doAgain_16 : decode cX1_doAgain 16 = .ok (.putfield 34, 3) := dk_181 (dw rcX1_doAgain_0 10 rfl) rfl
theorem dX1_doAgain_19 : decode cX1_doAgain 19 = .ok (.aload_n 0, 1) := dk_42 (dw rcX1_doAgain_0 11 rfl)
theorem dX1_doAgain_20 : decode cX1_doAgain 20 = .ok (.dup, 1) := dk_89 (dw rcX1_doAgain_0 12 rfl)
theorem dX1_doAgain_21 : decode cX1_doAgain 21 = .ok (.getfield 37, 3) := dk_180 (dw rcX1_doAgain_0 13 rfl) rfl
theorem dX1_doAgain_24 : decode cX1_doAgain 24 = .ok (.iconst 1, 1) := dk_4 (dw rcX1_doAgain_0 14 rfl)
theorem dX1_doAgain_25 : decode cX1_doAgain 25 = .ok (.isub, 1) := dk_100 (dw rcX1_doAgain_0 15 rfl)
theorem dX1_doAgain_26 : decode cX1_doAgain 26 = .ok (.putfield 37, 3) := dk_181 (dw rcX1_doAgain_0 16 rfl) rfl
theorem dX1_doAgain_29 : decode cX1_doAgain 29 = .ok (.aload_n 0, 1) := dk_42 (dw rcX1_doAgain_0 17 rfl)
theorem dX1_doAgain_30 : decode cX1_doAgain 30 = .ok (.getfield 15, 3) := dk_180 (dw rcX1_doAgain_0 18 rfl) rfl
theorem dX1_doAgain_33 : decode cX1_doAgain 33 = .ok (.aload_n 0, 1) := dk_42 (dw rcX1_doAgain_0 19 rfl)
theorem dX1_doAgain_34 : decode cX1_doAgain 34 = .ok (.getfield 34, 3) := dk_180 (dw rcX1_doAgain_0 20 rfl) rfl
theorem dX1_doAgain_37 : decode cX1_doAgain 37 = .ok (.bipush 10, 2) := dk_16 (dw rcX1_doAgain_0 21 rfl) rfl
theorem dX1_doAgain_39 : decode cX1_doAgain 39 = .ok (.imul, 1) := dk_104 (dw rcX1_doAgain_0 22 rfl)
theorem dX1_doAgain_40 : decode cX1_doAgain 40 = .ok (.aload_n 0, 1) := dk_42 (dw rcX1_doAgain_0 23 rfl)
noncomputable def rbX1_doAgain_41 : List (Nat × List Nat) := [(41, [180, 0, 11]), (44, [3]), (45, [16, 10]), (47, [184, 0, 40]), (50, [4]), (51, [172])]
theorem rcX1_doAgain_41 : dgo (lb cX1_doAgain) 0 rbX1_doAgain_41 = true := by decide +kernel
theorem dX1_doAgain_41 : decode cX1_doAgain 41 = .ok (.getfield 11, 3) := dk_180 (dw rcX1_doAgain_41 0 rfl) rfl
theorem dX1_doAgain_44 : decode cX1_doAgain 44 = .ok (.iconst 0, 1) := dk_3 (dw rcX1_doAgain_41 1 rfl)
theorem dX1_doAgain_45 : decode cX1_doAgain 45 = .ok (.bipush 10, 2) := dk_16 (dw rcX1_doAgain_41 2 rfl) rfl
theorem dX1_doAgain_47 : decode cX1_doAgain 47 = .ok (.invokestatic 40, 3) := dk_184 (dw rcX1_doAgain_41 3 rfl) rfl
theorem dX1_doAgain_50 : decode cX1_doAgain 50 = .ok (.iconst 1, 1) := dk_4 (dw rcX1_doAgain_41 4 rfl)
theorem dX1_doAgain_51 : decode cX1_doAgain 51 = .ok (.ireturn, 1) := dk_172 (dw rcX1_doAgain_41 5 rfl)
noncomputable def rbX1_drawSeed_0 : List (Nat × List Nat) := [(0, [42]), (1, [180, 0, 11]), (4, [16, 7]), (6, [42]), (7, [180, 0, 11]), (10, [16, 7]), (12, [46]), (13, [17, 0, 137]), (16, [104]), (17, [16, 71]), (19, [96]), (20, [17, 3, 232]), (23, [112]), (24, [79]), (25, [177])]
theorem rcX1_drawSeed_0 : dgo (lb cX1_drawSeed) 0 rbX1_drawSeed_0 = true := by decide +kernel
theorem dX1_drawSeed_0 : decode cX1_drawSeed 0 = .ok (.aload_n 0, 1) := dk_42 (dw rcX1_drawSeed_0 0 rfl)
theorem dX1_drawSeed_1 : decode cX1_drawSeed 1 = .ok (.getfield 11, 3) := dk_180 (dw rcX1_drawSeed_0 1 rfl) rfl
theorem dX1_drawSeed_4 : decode cX1_drawSeed 4 = .ok (.bipush 7, 2) := dk_16 (dw rcX1_drawSeed_0 2 rfl) rfl
theorem dX1_drawSeed_6 : decode cX1_drawSeed 6 = .ok (.aload_n 0, 1) := dk_42 (dw rcX1_drawSeed_0 3 rfl)
theorem dX1_drawSeed_7 : decode cX1_drawSeed 7 = .ok (.getfield 11, 3) := dk_180 (dw rcX1_drawSeed_0 4 rfl) rfl
theorem dX1_drawSeed_10 : decode cX1_drawSeed 10 = .ok (.bipush 7, 2) := dk_16 (dw rcX1_drawSeed_0 5 rfl) rfl
theorem dX1_drawSeed_12 : decode cX1_drawSeed 12 = .ok (.iaload, 1) := dk_46 (dw rcX1_drawSeed_0 6 rfl)
theorem dX1_drawSeed_13 : decode cX1_drawSeed 13 = .ok (.sipush 137, 3) := dk_17 (dw rcX1_drawSeed_0 7 rfl) rfl
theorem dX1_drawSeed_16 : decode cX1_drawSeed 16 = .ok (.imul, 1) := dk_104 (dw rcX1_drawSeed_0 8 rfl)
theorem dX1_drawSeed_17 : decode cX1_drawSeed 17 = .ok (.bipush 71, 2) := dk_16 (dw rcX1_drawSeed_0 9 rfl) rfl
theorem dX1_drawSeed_19 : decode cX1_drawSeed 19 = .ok (.iadd, 1) := dk_96 (dw rcX1_drawSeed_0 10 rfl)
theorem dX1_drawSeed_20 : decode cX1_drawSeed 20 = .ok (.sipush 1000, 3) := dk_17 (dw rcX1_drawSeed_0 11 rfl) rfl
theorem dX1_drawSeed_23 : decode cX1_drawSeed 23 = .ok (.irem, 1) := dk_112 (dw rcX1_drawSeed_0 12 rfl)
theorem dX1_drawSeed_24 : decode cX1_drawSeed 24 = .ok (.iastore, 1) := dk_79 (dw rcX1_drawSeed_0 13 rfl)
theorem dX1_drawSeed_25 : decode cX1_drawSeed 25 = .ok (.return_, 1) := dk_177 (dw rcX1_drawSeed_0 14 rfl)
noncomputable def rbX1_forgetActs_0 : List (Nat × List Nat) := [(0, [42]), (1, [3]), (2, [181, 0, 34]), (5, [42]), (6, [3]), (7, [181, 0, 37]), (10, [42]), (11, [180, 0, 11]), (14, [3]), (15, [42]), (16, [180, 0, 15]), (19, [3]), (20, [16, 10]), (22, [184, 0, 40]), (25, [177])]
theorem rcX1_forgetActs_0 : dgo (lb cX1_forgetActs) 0 rbX1_forgetActs_0 = true := by decide +kernel
theorem dX1_forgetActs_0 : decode cX1_forgetActs 0 = .ok (.aload_n 0, 1) := dk_42 (dw rcX1_forgetActs_0 0 rfl)
theorem dX1_forgetActs_1 : decode cX1_forgetActs 1 = .ok (.iconst 0, 1) := dk_3 (dw rcX1_forgetActs_0 1 rfl)
theorem dX1_forgetActs_2 : decode cX1_forgetActs 2 = .ok (.putfield 34, 3) := dk_181 (dw rcX1_forgetActs_0 2 rfl) rfl
theorem dX1_forgetActs_5 : decode cX1_forgetActs 5 = .ok (.aload_n 0, 1) := dk_42 (dw rcX1_forgetActs_0 3 rfl)
theorem dX1_forgetActs_6 : decode cX1_forgetActs 6 = .ok (.iconst 0, 1) := dk_3 (dw rcX1_forgetActs_0 4 rfl)
theorem dX1_forgetActs_7 : decode cX1_forgetActs 7 = .ok (.putfield 37, 3) := dk_181 (dw rcX1_forgetActs_0 5 rfl) rfl
theorem dX1_forgetActs_10 : decode cX1_forgetActs 10 = .ok (.aload_n 0, 1) := dk_42 (dw rcX1_forgetActs_0 6 rfl)
theorem dX1_forgetActs_11 : decode cX1_forgetActs 11 = .ok (.getfield 11, 3) := dk_180 (dw rcX1_forgetActs_0 7 rfl) rfl
theorem dX1_forgetActs_14 : decode cX1_forgetActs 14 = .ok (.iconst 0, 1) := dk_3 (dw rcX1_forgetActs_0 8 rfl)
theorem dX1_forgetActs_15 : decode cX1_forgetActs 15 = .ok (.aload_n 0, 1) := dk_42 (dw rcX1_forgetActs_0 9 rfl)
theorem dX1_forgetActs_16 : decode cX1_forgetActs 16 = .ok (.getfield 15, 3) := dk_180 (dw rcX1_forgetActs_0 10 rfl) rfl
theorem dX1_forgetActs_19 : decode cX1_forgetActs 19 = .ok (.iconst 0, 1) := dk_3 (dw rcX1_forgetActs_0 11 rfl)
theorem dX1_forgetActs_20 : decode cX1_forgetActs 20 = .ok (.bipush 10, 2) := dk_16 (dw rcX1_forgetActs_0 12 rfl) rfl
theorem dX1_forgetActs_22 : decode cX1_forgetActs 22 = .ok (.invokestatic 40, 3) := dk_184 (dw rcX1_forgetActs_0 13 rfl) rfl
theorem dX1_forgetActs_25 : decode cX1_forgetActs 25 = .ok (.return_, 1) := dk_177 (dw rcX1_forgetActs_0 14 rfl)
noncomputable def rbX1_keepAct_0 : List (Nat × List Nat) := [(0, [42]), (1, [180, 0, 34]), (4, [16, 40]), (6, [161, 0, 26]), (9, [42]), (10, [180, 0, 15]), (13, [16, 10]), (15, [42]), (16, [180, 0, 15]), (19, [3]), (20, [17, 1, 144]), (23, [184, 0, 40]), (26, [42]), (27, [16, 39]), (29, [181, 0, 34]), (32, [42]), (33, [89]), (34, [180, 0, 34]), (37, [4]), (38, [96]), (39, [181, 0, 34]), (42, [42]), (43, [3]), (44, [181, 0, 37])]
theorem rcX1_keepAct_0 : dgo (lb cX1_keepAct) 0 rbX1_keepAct_0 = true := by decide +kernel
theorem dX1_keepAct_0 : decode cX1_keepAct 0 = .ok (.aload_n 0, 1) := dk_42 (dw rcX1_keepAct_0 0 rfl)
theorem dX1_keepAct_1 : decode cX1_keepAct 1 = .ok (.getfield 34, 3) := dk_180 (dw rcX1_keepAct_0 1 rfl) rfl
theorem dX1_keepAct_4 : decode cX1_keepAct 4 = .ok (.bipush 40, 2) := dk_16 (dw rcX1_keepAct_0 2 rfl) rfl
theorem dX1_keepAct_6 : decode cX1_keepAct 6 = .ok (.if_icmp .lt 26, 3) := dk_161 (dw rcX1_keepAct_0 3 rfl) rfl
theorem dX1_keepAct_9 : decode cX1_keepAct 9 = .ok (.aload_n 0, 1) := dk_42 (dw rcX1_keepAct_0 4 rfl)
theorem dX1_keepAct_10 : decode cX1_keepAct 10 = .ok (.getfield 15, 3) := dk_180 (dw rcX1_keepAct_0 5 rfl) rfl
theorem dX1_keepAct_13 : decode cX1_keepAct 13 = .ok (.bipush 10, 2) := dk_16 (dw rcX1_keepAct_0 6 rfl) rfl
theorem dX1_keepAct_15 : decode cX1_keepAct 15 = .ok (.aload_n 0, 1) := dk_42 (dw rcX1_keepAct_0 7 rfl)
theorem dX1_keepAct_16 : decode cX1_keepAct 16 = .ok (.getfield 15, 3) := dk_180 (dw rcX1_keepAct_0 8 rfl) rfl
theorem dX1_keepAct_19 : decode cX1_keepAct 19 = .ok (.iconst 0, 1) := dk_3 (dw rcX1_keepAct_0 9 rfl)
theorem dX1_keepAct_20 : decode cX1_keepAct 20 = .ok (.sipush 400, 3) := dk_17 (dw rcX1_keepAct_0 10 rfl) rfl
theorem dX1_keepAct_23 : decode cX1_keepAct 23 = .ok (.invokestatic 40, 3) := dk_184 (dw rcX1_keepAct_0 11 rfl) rfl
theorem dX1_keepAct_26 : decode cX1_keepAct 26 = .ok (.aload_n 0, 1) := dk_42 (dw rcX1_keepAct_0 12 rfl)
theorem dX1_keepAct_27 : decode cX1_keepAct 27 = .ok (.bipush 39, 2) := dk_16 (dw rcX1_keepAct_0 13 rfl) rfl
theorem dX1_keepAct_29 : decode cX1_keepAct 29 = .ok (.putfield 34, 3) := dk_181 (dw rcX1_keepAct_0 14 rfl) rfl
theorem dX1_keepAct_32 : decode cX1_keepAct 32 = .ok (.aload_n 0, 1) := dk_42 (dw rcX1_keepAct_0 15 rfl)
theorem dX1_keepAct_33 : decode cX1_keepAct 33 = .ok (.dup, 1) := dk_89 (dw rcX1_keepAct_0 16 rfl)
theorem dX1_keepAct_34 : decode cX1_keepAct 34 = .ok (.getfield 34, 3) := dk_180 (dw rcX1_keepAct_0 17 rfl) rfl
theorem dX1_keepAct_37 : decode cX1_keepAct 37 = .ok (.iconst 1, 1) := dk_4 (dw rcX1_keepAct_0 18 rfl)
theorem dX1_keepAct_38 : decode cX1_keepAct 38 = .ok (.iadd, 1) := dk_96 (dw rcX1_keepAct_0 19 rfl)
theorem dX1_keepAct_39 : decode cX1_keepAct 39 = .ok (.putfield 34, 3) := dk_181 (dw rcX1_keepAct_0 20 rfl) rfl
theorem dX1_keepAct_42 : decode cX1_keepAct 42 = .ok (.aload_n 0, 1) := dk_42 (dw rcX1_keepAct_0 21 rfl)
theorem dX1_keepAct_43 : decode cX1_keepAct 43 = .ok (.iconst 0, 1) := dk_3 (dw rcX1_keepAct_0 22 rfl)
theorem dX1_keepAct_44 : decode cX1_keepAct 44 = .ok (.putfield 37, 3) := dk_181 (dw rcX1_keepAct_0 23 rfl) rfl
noncomputable def rbX1_keepAct_47 : List (Nat × List Nat) := [(47, [42]), (48, [180, 0, 11]), (51, [3]), (52, [42]), (53, [180, 0, 15]), (56, [42]), (57, [180, 0, 34]), (60, [16, 10]), (62, [104]), (63, [16, 10]), (65, [184, 0, 40]), (68, [177])]
theorem rcX1_keepAct_47 : dgo (lb cX1_keepAct) 0 rbX1_keepAct_47 = true := by decide +kernel
theorem dX1_keepAct_47 : decode cX1_keepAct 47 = .ok (.aload_n 0, 1) := dk_42 (dw rcX1_keepAct_47 0 rfl)
theorem dX1_keepAct_48 : decode cX1_keepAct 48 = .ok (.getfield 11, 3) := dk_180 (dw rcX1_keepAct_47 1 rfl) rfl
theorem dX1_keepAct_51 : decode cX1_keepAct 51 = .ok (.iconst 0, 1) := dk_3 (dw rcX1_keepAct_47 2 rfl)
theorem dX1_keepAct_52 : decode cX1_keepAct 52 = .ok (.aload_n 0, 1) := dk_42 (dw rcX1_keepAct_47 3 rfl)
theorem dX1_keepAct_53 : decode cX1_keepAct 53 = .ok (.getfield 15, 3) := dk_180 (dw rcX1_keepAct_47 4 rfl) rfl
theorem dX1_keepAct_56 : decode cX1_keepAct 56 = .ok (.aload_n 0, 1) := dk_42 (dw rcX1_keepAct_47 5 rfl)
theorem dX1_keepAct_57 : decode cX1_keepAct 57 = .ok (.getfield 34, 3) := dk_180 (dw rcX1_keepAct_47 6 rfl) rfl
theorem dX1_keepAct_60 : decode cX1_keepAct 60 = .ok (.bipush 10, 2) := dk_16 (dw rcX1_keepAct_47 7 rfl) rfl
theorem dX1_keepAct_62 : decode cX1_keepAct 62 = .ok (.imul, 1) := dk_104 (dw rcX1_keepAct_47 8 rfl)
theorem dX1_keepAct_63 : decode cX1_keepAct 63 = .ok (.bipush 10, 2) := dk_16 (dw rcX1_keepAct_47 9 rfl) rfl
theorem dX1_keepAct_65 : decode cX1_keepAct 65 = .ok (.invokestatic 40, 3) := dk_184 (dw rcX1_keepAct_47 10 rfl) rfl
theorem dX1_keepAct_68 : decode cX1_keepAct 68 = .ok (.return_, 1) := dk_177 (dw rcX1_keepAct_47 11 rfl)
noncomputable def rbX1_keepIn_0 : List (Nat × List Nat) := [(0, [27]), (1, [155, 0, 8]), (4, [27]), (5, [6]), (6, [161, 0, 5]), (9, [3]), (10, [172]), (11, [42]), (12, [180, 0, 11]), (15, [3]), (16, [42]), (17, [180, 0, 18]), (20, [27]), (21, [16, 10]), (23, [104]), (24, [16, 10]), (26, [184, 0, 40]), (29, [42]), (30, [89]), (31, [180, 0, 27]), (34, [4]), (35, [27]), (36, [120]), (37, [128])]
theorem rcX1_keepIn_0 : dgo (lb cX1_keepIn) 0 rbX1_keepIn_0 = true := by decide +kernel
theorem dX1_keepIn_0 : decode cX1_keepIn 0 = .ok (.iload_n 1, 1) := dk_27 (dw rcX1_keepIn_0 0 rfl)
theorem dX1_keepIn_1 : decode cX1_keepIn 1 = .ok (.ifCond .lt 8, 3) := dk_155 (dw rcX1_keepIn_0 1 rfl) rfl
theorem dX1_keepIn_4 : decode cX1_keepIn 4 = .ok (.iload_n 1, 1) := dk_27 (dw rcX1_keepIn_0 2 rfl)
theorem dX1_keepIn_5 : decode cX1_keepIn 5 = .ok (.iconst 3, 1) := dk_6 (dw rcX1_keepIn_0 3 rfl)
theorem dX1_keepIn_6 : decode cX1_keepIn 6 = .ok (.if_icmp .lt 5, 3) := dk_161 (dw rcX1_keepIn_0 4 rfl) rfl
theorem dX1_keepIn_9 : decode cX1_keepIn 9 = .ok (.iconst 0, 1) := dk_3 (dw rcX1_keepIn_0 5 rfl)
theorem dX1_keepIn_10 : decode cX1_keepIn 10 = .ok (.ireturn, 1) := dk_172 (dw rcX1_keepIn_0 6 rfl)
theorem dX1_keepIn_11 : decode cX1_keepIn 11 = .ok (.aload_n 0, 1) := dk_42 (dw rcX1_keepIn_0 7 rfl)
theorem dX1_keepIn_12 : decode cX1_keepIn 12 = .ok (.getfield 11, 3) := dk_180 (dw rcX1_keepIn_0 8 rfl) rfl
theorem dX1_keepIn_15 : decode cX1_keepIn 15 = .ok (.iconst 0, 1) := dk_3 (dw rcX1_keepIn_0 9 rfl)
theorem dX1_keepIn_16 : decode cX1_keepIn 16 = .ok (.aload_n 0, 1) := dk_42 (dw rcX1_keepIn_0 10 rfl)
theorem dX1_keepIn_17 : decode cX1_keepIn 17 = .ok (.getfield 18, 3) := dk_180 (dw rcX1_keepIn_0 11 rfl) rfl
theorem dX1_keepIn_20 : decode cX1_keepIn 20 = .ok (.iload_n 1, 1) := dk_27 (dw rcX1_keepIn_0 12 rfl)
theorem dX1_keepIn_21 : decode cX1_keepIn 21 = .ok (.bipush 10, 2) := dk_16 (dw rcX1_keepIn_0 13 rfl) rfl
theorem dX1_keepIn_23 : decode cX1_keepIn 23 = .ok (.imul, 1) := dk_104 (dw rcX1_keepIn_0 14 rfl)
theorem dX1_keepIn_24 : decode cX1_keepIn 24 = .ok (.bipush 10, 2) := dk_16 (dw rcX1_keepIn_0 15 rfl) rfl
theorem dX1_keepIn_26 : decode cX1_keepIn 26 = .ok (.invokestatic 40, 3) := dk_184 (dw rcX1_keepIn_0 16 rfl) rfl
theorem dX1_keepIn_29 : decode cX1_keepIn 29 = .ok (.aload_n 0, 1) := dk_42 (dw rcX1_keepIn_0 17 rfl)
theorem dX1_keepIn_30 : decode cX1_keepIn 30 = .ok (.dup, 1) := dk_89 (dw rcX1_keepIn_0 18 rfl)
theorem dX1_keepIn_31 : decode cX1_keepIn 31 = .ok (.getfield 27, 3) := dk_180 (dw rcX1_keepIn_0 19 rfl) rfl
theorem dX1_keepIn_34 : decode cX1_keepIn 34 = .ok (.iconst 1, 1) := dk_4 (dw rcX1_keepIn_0 20 rfl)
theorem dX1_keepIn_35 : decode cX1_keepIn 35 = .ok (.iload_n 1, 1) := dk_27 (dw rcX1_keepIn_0 21 rfl)
theorem dX1_keepIn_36 : decode cX1_keepIn 36 = .ok (.ishl, 1) := dk_120 (dw rcX1_keepIn_0 22 rfl)
theorem dX1_keepIn_37 : decode cX1_keepIn 37 = .ok (.ior, 1) := dk_128 (dw rcX1_keepIn_0 23 rfl)
noncomputable def rbX1_keepIn_38 : List (Nat × List Nat) := [(38, [181, 0, 27]), (41, [4]), (42, [172])]
theorem rcX1_keepIn_38 : dgo (lb cX1_keepIn) 0 rbX1_keepIn_38 = true := by decide +kernel
theorem dX1_keepIn_38 : decode cX1_keepIn 38 = .ok (.putfield 27, 3) := dk_181 (dw rcX1_keepIn_38 0 rfl) rfl
theorem dX1_keepIn_41 : decode cX1_keepIn 41 = .ok (.iconst 1, 1) := dk_4 (dw rcX1_keepIn_38 1 rfl)
theorem dX1_keepIn_42 : decode cX1_keepIn 42 = .ok (.ireturn, 1) := dk_172 (dw rcX1_keepIn_38 2 rfl)
noncomputable def rbX1_setOut_0 : List (Nat × List Nat) := [(0, [42]), (1, [180, 0, 11]), (4, [3]), (5, [27]), (6, [79]), (7, [42]), (8, [180, 0, 11]), (11, [4]), (12, [28]), (13, [79]), (14, [42]), (15, [180, 0, 11]), (18, [5]), (19, [29]), (20, [79]), (21, [42]), (22, [180, 0, 11]), (25, [6]), (26, [4]), (27, [79]), (28, [42]), (29, [180, 0, 11]), (32, [7]), (33, [4])]
theorem rcX1_setOut_0 : dgo (lb cX1_setOut) 0 rbX1_setOut_0 = true := by decide +kernel
theorem dX1_setOut_0 : decode cX1_setOut 0 = .ok (.aload_n 0, 1) := dk_42 (dw rcX1_setOut_0 0 rfl)
theorem dX1_setOut_1 : decode cX1_setOut 1 = .ok (.getfield 11, 3) := dk_180 (dw rcX1_setOut_0 1 rfl) rfl
theorem dX1_setOut_4 : decode cX1_setOut 4 = .ok (.iconst 0, 1) := dk_3 (dw rcX1_setOut_0 2 rfl)
theorem dX1_setOut_5 : decode cX1_setOut 5 = .ok (.iload_n 1, 1) := dk_27 (dw rcX1_setOut_0 3 rfl)
theorem dX1_setOut_6 : decode cX1_setOut 6 = .ok (.iastore, 1) := dk_79 (dw rcX1_setOut_0 4 rfl)
theorem dX1_setOut_7 : decode cX1_setOut 7 = .ok (.aload_n 0, 1) := dk_42 (dw rcX1_setOut_0 5 rfl)
theorem dX1_setOut_8 : decode cX1_setOut 8 = .ok (.getfield 11, 3) := dk_180 (dw rcX1_setOut_0 6 rfl) rfl
theorem dX1_setOut_11 : decode cX1_setOut 11 = .ok (.iconst 1, 1) := dk_4 (dw rcX1_setOut_0 7 rfl)
theorem dX1_setOut_12 : decode cX1_setOut 12 = .ok (.iload_n 2, 1) := dk_28 (dw rcX1_setOut_0 8 rfl)
theorem dX1_setOut_13 : decode cX1_setOut 13 = .ok (.iastore, 1) := dk_79 (dw rcX1_setOut_0 9 rfl)
theorem dX1_setOut_14 : decode cX1_setOut 14 = .ok (.aload_n 0, 1) := dk_42 (dw rcX1_setOut_0 10 rfl)
theorem dX1_setOut_15 : decode cX1_setOut 15 = .ok (.getfield 11, 3) := dk_180 (dw rcX1_setOut_0 11 rfl) rfl
theorem dX1_setOut_18 : decode cX1_setOut 18 = .ok (.iconst 2, 1) := dk_5 (dw rcX1_setOut_0 12 rfl)
theorem dX1_setOut_19 : decode cX1_setOut 19 = .ok (.iload_n 3, 1) := dk_29 (dw rcX1_setOut_0 13 rfl)
theorem dX1_setOut_20 : decode cX1_setOut 20 = .ok (.iastore, 1) := dk_79 (dw rcX1_setOut_0 14 rfl)
theorem dX1_setOut_21 : decode cX1_setOut 21 = .ok (.aload_n 0, 1) := dk_42 (dw rcX1_setOut_0 15 rfl)
theorem dX1_setOut_22 : decode cX1_setOut 22 = .ok (.getfield 11, 3) := dk_180 (dw rcX1_setOut_0 16 rfl) rfl
theorem dX1_setOut_25 : decode cX1_setOut 25 = .ok (.iconst 3, 1) := dk_6 (dw rcX1_setOut_0 17 rfl)
theorem dX1_setOut_26 : decode cX1_setOut 26 = .ok (.iconst 1, 1) := dk_4 (dw rcX1_setOut_0 18 rfl)
theorem dX1_setOut_27 : decode cX1_setOut 27 = .ok (.iastore, 1) := dk_79 (dw rcX1_setOut_0 19 rfl)
theorem dX1_setOut_28 : decode cX1_setOut 28 = .ok (.aload_n 0, 1) := dk_42 (dw rcX1_setOut_0 20 rfl)
theorem dX1_setOut_29 : decode cX1_setOut 29 = .ok (.getfield 11, 3) := dk_180 (dw rcX1_setOut_0 21 rfl) rfl
theorem dX1_setOut_32 : decode cX1_setOut 32 = .ok (.iconst 4, 1) := dk_7 (dw rcX1_setOut_0 22 rfl)
theorem dX1_setOut_33 : decode cX1_setOut 33 = .ok (.iconst 1, 1) := dk_4 (dw rcX1_setOut_0 23 rfl)
noncomputable def rbX1_setOut_34 : List (Nat × List Nat) := [(34, [79]), (35, [42]), (36, [180, 0, 11]), (39, [8]), (40, [3]), (41, [79]), (42, [177])]
theorem rcX1_setOut_34 : dgo (lb cX1_setOut) 0 rbX1_setOut_34 = true := by decide +kernel
theorem dX1_setOut_34 : decode cX1_setOut 34 = .ok (.iastore, 1) := dk_79 (dw rcX1_setOut_34 0 rfl)
theorem dX1_setOut_35 : decode cX1_setOut 35 = .ok (.aload_n 0, 1) := dk_42 (dw rcX1_setOut_34 1 rfl)
theorem dX1_setOut_36 : decode cX1_setOut 36 = .ok (.getfield 11, 3) := dk_180 (dw rcX1_setOut_34 2 rfl) rfl
theorem dX1_setOut_39 : decode cX1_setOut 39 = .ok (.iconst 5, 1) := dk_8 (dw rcX1_setOut_34 3 rfl)
theorem dX1_setOut_40 : decode cX1_setOut 40 = .ok (.iconst 0, 1) := dk_3 (dw rcX1_setOut_34 4 rfl)
theorem dX1_setOut_41 : decode cX1_setOut 41 = .ok (.iastore, 1) := dk_79 (dw rcX1_setOut_34 5 rfl)
theorem dX1_setOut_42 : decode cX1_setOut 42 = .ok (.return_, 1) := dk_177 (dw rcX1_setOut_34 6 rfl)
noncomputable def rbX1_startAnew_0 : List (Nat × List Nat) := [(0, [42]), (1, [180, 0, 11]), (4, [3]), (5, [184, 0, 21]), (8, [42]), (9, [180, 0, 11]), (12, [3]), (13, [2]), (14, [79]), (15, [42]), (16, [180, 0, 11]), (19, [16, 7]), (21, [27]), (22, [79]), (23, [42]), (24, [3]), (25, [181, 0, 27]), (28, [42]), (29, [182, 0, 31]), (32, [177])]
theorem rcX1_startAnew_0 : dgo (lb cX1_startAnew) 0 rbX1_startAnew_0 = true := by decide +kernel
theorem dX1_startAnew_0 : decode cX1_startAnew 0 = .ok (.aload_n 0, 1) := dk_42 (dw rcX1_startAnew_0 0 rfl)
theorem dX1_startAnew_1 : decode cX1_startAnew 1 = .ok (.getfield 11, 3) := dk_180 (dw rcX1_startAnew_0 1 rfl) rfl
theorem dX1_startAnew_4 : decode cX1_startAnew 4 = .ok (.iconst 0, 1) := dk_3 (dw rcX1_startAnew_0 2 rfl)
theorem dX1_startAnew_5 : decode cX1_startAnew 5 = .ok (.invokestatic 21, 3) := dk_184 (dw rcX1_startAnew_0 3 rfl) rfl
theorem dX1_startAnew_8 : decode cX1_startAnew 8 = .ok (.aload_n 0, 1) := dk_42 (dw rcX1_startAnew_0 4 rfl)
theorem dX1_startAnew_9 : decode cX1_startAnew 9 = .ok (.getfield 11, 3) := dk_180 (dw rcX1_startAnew_0 5 rfl) rfl
theorem dX1_startAnew_12 : decode cX1_startAnew 12 = .ok (.iconst 0, 1) := dk_3 (dw rcX1_startAnew_0 6 rfl)
theorem dX1_startAnew_13 : decode cX1_startAnew 13 = .ok (.iconst (-1), 1) := dk_2 (dw rcX1_startAnew_0 7 rfl)
theorem dX1_startAnew_14 : decode cX1_startAnew 14 = .ok (.iastore, 1) := dk_79 (dw rcX1_startAnew_0 8 rfl)
theorem dX1_startAnew_15 : decode cX1_startAnew 15 = .ok (.aload_n 0, 1) := dk_42 (dw rcX1_startAnew_0 9 rfl)
theorem dX1_startAnew_16 : decode cX1_startAnew 16 = .ok (.getfield 11, 3) := dk_180 (dw rcX1_startAnew_0 10 rfl) rfl
theorem dX1_startAnew_19 : decode cX1_startAnew 19 = .ok (.bipush 7, 2) := dk_16 (dw rcX1_startAnew_0 11 rfl) rfl
theorem dX1_startAnew_21 : decode cX1_startAnew 21 = .ok (.iload_n 1, 1) := dk_27 (dw rcX1_startAnew_0 12 rfl)
theorem dX1_startAnew_22 : decode cX1_startAnew 22 = .ok (.iastore, 1) := dk_79 (dw rcX1_startAnew_0 13 rfl)
theorem dX1_startAnew_23 : decode cX1_startAnew 23 = .ok (.aload_n 0, 1) := dk_42 (dw rcX1_startAnew_0 14 rfl)
theorem dX1_startAnew_24 : decode cX1_startAnew 24 = .ok (.iconst 0, 1) := dk_3 (dw rcX1_startAnew_0 15 rfl)
theorem dX1_startAnew_25 : decode cX1_startAnew 25 = .ok (.putfield 27, 3) := dk_181 (dw rcX1_startAnew_0 16 rfl) rfl
theorem dX1_startAnew_28 : decode cX1_startAnew 28 = .ok (.aload_n 0, 1) := dk_42 (dw rcX1_startAnew_0 17 rfl)
theorem dX1_startAnew_29 : decode cX1_startAnew 29 = .ok (.invokevirtual 31, 3) := dk_182 (dw rcX1_startAnew_0 18 rfl) rfl
theorem dX1_startAnew_32 : decode cX1_startAnew 32 = .ok (.return_, 1) := dk_177 (dw rcX1_startAnew_0 19 rfl)
noncomputable def rbX1_takeBack_0 : List (Nat × List Nat) := [(0, [42]), (1, [180, 0, 34]), (4, [157, 0, 5]), (7, [3]), (8, [172]), (9, [42]), (10, [89]), (11, [180, 0, 34]), (14, [4]), (15, [100]), (16, [181, 0, 34]), (19, [42]), (20, [89]), (21, [180, 0, 37]), (24, [4]), (25, [96]), (26, [181, 0, 37]), (29, [42]), (30, [180, 0, 15]), (33, [42]), (34, [180, 0, 34]), (37, [16, 10]), (39, [104]), (40, [42])]
theorem rcX1_takeBack_0 : dgo (lb cX1_takeBack) 0 rbX1_takeBack_0 = true := by decide +kernel
theorem dX1_takeBack_0 : decode cX1_takeBack 0 = .ok (.aload_n 0, 1) := dk_42 (dw rcX1_takeBack_0 0 rfl)
theorem dX1_takeBack_1 : decode cX1_takeBack 1 = .ok (.getfield 34, 3) := dk_180 (dw rcX1_takeBack_0 1 rfl) rfl
theorem dX1_takeBack_4 : decode cX1_takeBack 4 = .ok (.ifCond .gt 5, 3) := dk_157 (dw rcX1_takeBack_0 2 rfl) rfl
theorem dX1_takeBack_7 : decode cX1_takeBack 7 = .ok (.iconst 0, 1) := dk_3 (dw rcX1_takeBack_0 3 rfl)
theorem dX1_takeBack_8 : decode cX1_takeBack 8 = .ok (.ireturn, 1) := dk_172 (dw rcX1_takeBack_0 4 rfl)
theorem dX1_takeBack_9 : decode cX1_takeBack 9 = .ok (.aload_n 0, 1) := dk_42 (dw rcX1_takeBack_0 5 rfl)
theorem dX1_takeBack_10 : decode cX1_takeBack 10 = .ok (.dup, 1) := dk_89 (dw rcX1_takeBack_0 6 rfl)
theorem dX1_takeBack_11 : decode cX1_takeBack 11 = .ok (.getfield 34, 3) := dk_180 (dw rcX1_takeBack_0 7 rfl) rfl
theorem dX1_takeBack_14 : decode cX1_takeBack 14 = .ok (.iconst 1, 1) := dk_4 (dw rcX1_takeBack_0 8 rfl)
theorem dX1_takeBack_15 : decode cX1_takeBack 15 = .ok (.isub, 1) := dk_100 (dw rcX1_takeBack_0 9 rfl)
theorem dX1_takeBack_16 : decode cX1_takeBack 16 = .ok (.putfield 34, 3) := dk_181 (dw rcX1_takeBack_0 10 rfl) rfl
theorem dX1_takeBack_19 : decode cX1_takeBack 19 = .ok (.aload_n 0, 1) := dk_42 (dw rcX1_takeBack_0 11 rfl)
theorem dX1_takeBack_20 : decode cX1_takeBack 20 = .ok (.dup, 1) := dk_89 (dw rcX1_takeBack_0 12 rfl)
theorem dX1_takeBack_21 : decode cX1_takeBack 21 = .ok (.getfield 37, 3) := dk_180 (dw rcX1_takeBack_0 13 rfl) rfl
theorem dX1_takeBack_24 : decode cX1_takeBack 24 = .ok (.iconst 1, 1) := dk_4 (dw rcX1_takeBack_0 14 rfl)
theorem dX1_takeBack_25 : decode cX1_takeBack 25 = .ok (.iadd, 1) := dk_96 (dw rcX1_takeBack_0 15 rfl)
theorem dX1_takeBack_26 : decode cX1_takeBack 26 = .ok (.putfield 37, 3) := dk_181 (dw rcX1_takeBack_0 16 rfl) rfl
theorem dX1_takeBack_29 : decode cX1_takeBack 29 = .ok (.aload_n 0, 1) := dk_42 (dw rcX1_takeBack_0 17 rfl)
theorem dX1_takeBack_30 : decode cX1_takeBack 30 = .ok (.getfield 15, 3) := dk_180 (dw rcX1_takeBack_0 18 rfl) rfl
theorem dX1_takeBack_33 : decode cX1_takeBack 33 = .ok (.aload_n 0, 1) := dk_42 (dw rcX1_takeBack_0 19 rfl)
theorem dX1_takeBack_34 : decode cX1_takeBack 34 = .ok (.getfield 34, 3) := dk_180 (dw rcX1_takeBack_0 20 rfl) rfl
theorem dX1_takeBack_37 : decode cX1_takeBack 37 = .ok (.bipush 10, 2) := dk_16 (dw rcX1_takeBack_0 21 rfl) rfl
theorem dX1_takeBack_39 : decode cX1_takeBack 39 = .ok (.imul, 1) := dk_104 (dw rcX1_takeBack_0 22 rfl)
theorem dX1_takeBack_40 : decode cX1_takeBack 40 = .ok (.aload_n 0, 1) := dk_42 (dw rcX1_takeBack_0 23 rfl)
noncomputable def rbX1_takeBack_41 : List (Nat × List Nat) := [(41, [180, 0, 11]), (44, [3]), (45, [16, 10]), (47, [184, 0, 40]), (50, [4]), (51, [172])]
theorem rcX1_takeBack_41 : dgo (lb cX1_takeBack) 0 rbX1_takeBack_41 = true := by decide +kernel
theorem dX1_takeBack_41 : decode cX1_takeBack 41 = .ok (.getfield 11, 3) := dk_180 (dw rcX1_takeBack_41 0 rfl) rfl
theorem dX1_takeBack_44 : decode cX1_takeBack 44 = .ok (.iconst 0, 1) := dk_3 (dw rcX1_takeBack_41 1 rfl)
theorem dX1_takeBack_45 : decode cX1_takeBack 45 = .ok (.bipush 10, 2) := dk_16 (dw rcX1_takeBack_41 2 rfl) rfl
theorem dX1_takeBack_47 : decode cX1_takeBack 47 = .ok (.invokestatic 40, 3) := dk_184 (dw rcX1_takeBack_41 3 rfl) rfl
theorem dX1_takeBack_50 : decode cX1_takeBack 50 = .ok (.iconst 1, 1) := dk_4 (dw rcX1_takeBack_41 4 rfl)
theorem dX1_takeBack_51 : decode cX1_takeBack 51 = .ok (.ireturn, 1) := dk_172 (dw rcX1_takeBack_41 5 rfl)
set_option maxHeartbeats 4000000 in
set_option maxRecDepth 100000 in
theorem k_eForget (l : Launch) (D : va_G) (k : KT) (A : Nat → Prop) (a : Nat → Nat) (z : SK) (G : GS)   : Met l yX1_forgetActs (WS yX1_forgetActs cX1_forgetActs 1 none) ({ frames := 1, cells := 0, slots := 0, locals := 40 }) (va_Pc [.ref (a 30)] (cW D k A a z G)) (va_Qv (fun (G1 : GS) => P_eForget G G1) (fun (G1 : GS) t => Wd D k A a G1 t.heap) A) 0 0 A := by
  refine Met.ofW (cc := cX1_forgetActs) (maxL := 1) (ret := none) (by decide) rfl ?_
  intro p e s m args below meth c s₁ B hml hv
  obtain ⟨rfl, hW, hB_G, hK, hZ⟩ := hv
  have hx := B.exec
  have hb := B.bytes
  have hr := B.returns
  have hts := atoms_spec (ws := WS yX1_forgetActs cX1_forgetActs 1 none) B.pre
  have hgd : ∀ w ∈ gd, w ∈ WS yX1_forgetActs cX1_forgetActs 1 none := fun w h => List.mem_cons_of_mem _ h
  have hg : ∀ w ∈ gd, w.before _ s = true := fun w h => hts w (hgd w h)
  have hown : s.vm.findClass RX1 = some m.cls := findClass_of_methodNamed B.named
  have hS : va_S A s.heap s.heap [] := va_S.rf
  have hF : Fr [59] [(30, 4), (30, 5)] G G := Fr.rf
  have hl := lv_entry ([.ref (a 30)]) (n := 1) (Nat.le_of_ble_eq_true rfl)
  rw [lg_entry_eq]
  generalize (lg_sl ([.ref (a 30)]) ++ List.replicate (1 - (lg_sl ([.ref (a 30)])).length) Slot.unset).toArray = ls at hl ⊢
  have hl : lv_has ls 1 [(0, .ref (a 30))] := hl
  refine lv_aload_n hx hb dX1_forgetActs_0 rfl (lv_at hl 0 rfl) ?_
  refine ic_0 hx hb dX1_forgetActs_1 ?_
  refine S_putI (ty := .int) (C := RX1) (T := TX1) (N := 6) hx hb hg iX1 tyX1 tyX1_ok nmX1 hown hK hW hS kd_30 rfl 4 (lt_b rfl) (hg (Cond.fieldLink RX1 34 "SlabWalk$Earnest" "done" "I") m497) (fun _ h9 => h9) rfl (by decide +kernel) rfl rfl rfl dX1_forgetActs_2 (fun G_1 H locs eG_1 hW hS => ?_)
  have hB_G_1 : Bd G_1 := hB_G.put (V := 0) (lo := 0) (hi := 40) eG_1 rfl rfl rfl (by decide) (by decide) (hB_G.2.put eG_1 rfl)
  have hF := hF.put eG_1 (Or.inr (by decide))
  refine lv_aload_n hx hb dX1_forgetActs_5 rfl (lv_at hl 0 rfl) ?_
  refine ic_0 hx hb dX1_forgetActs_6 ?_
  refine S_putI (ty := .int) (C := RX1) (T := TX1) (N := 6) hx hb hg iX1 tyX1 tyX1_ok nmX1 hown hK hW hS kd_30 rfl 5 (lt_b rfl) (hg (Cond.fieldLink RX1 37 "SlabWalk$Earnest" "undone" "I") m499) (fun _ h9 => h9) rfl (by decide +kernel) rfl rfl rfl dX1_forgetActs_7 (fun G_2 H locs eG_2 hW hS => ?_)
  have hB_G_2 : Bd G_2 := hB_G_1.put (V := 0) (lo := 0) (hi := 40) eG_2 rfl rfl rfl (by decide) (by decide) (hB_G_1.2.put eG_2 rfl)
  have hF := hF.put eG_2 (Or.inr (by decide))
  refine lv_aload_n hx hb dX1_forgetActs_10 rfl (lv_at hl 0 rfl) ?_
  refine S_getR (n := 58) (C := RX1) (T := TX1) (N := 6) hx hb hg iX1 hown hK hW kd_30 rfl 0 (lt_b rfl) (hg (Cond.fieldLink RX1 11 "SlabWalk$Earnest" "now" "[I") m492) (fun _ h9 => h9) rfl dX1_forgetActs_11 ?_
  refine ic_0 hx hb dX1_forgetActs_14 ?_
  refine lv_aload_n hx hb dX1_forgetActs_15 rfl (lv_at hl 0 rfl) ?_
  refine S_getR (n := 59) (C := RX1) (T := TX1) (N := 6) hx hb hg iX1 hown hK hW kd_30 rfl 1 (lt_b rfl) (hg (Cond.fieldLink RX1 15 "SlabWalk$Earnest" "kept" "[I") m494) (fun _ h9 => h9) rfl dX1_forgetActs_16 ?_
  refine ic_0 hx hb dX1_forgetActs_19 ?_
  refine lv_bipush (v := 10) hx hb dX1_forgetActs_20 (by decide) ?_
  have qc_4 : (0 : Int32).toInt = 0 := rfl
  have qc_5 : (10 : Int32).toInt = 10 := rfl
  refine S_copy hx hb (by rw [hml]; exact hl.1.symm) hown (hg (Cond.methodLink RX1 40 arraycopyName) m567) (hg (Cond.native arraycopyName) m569) (hg (Cond.static arraycopyName) m568) (hg (Cond.initialized "java/lang/System") m130) hK hW hS kd_58 kd_59 (by decide) (by decide) (by decide) (by decide) (by decide) (Nat.le_of_ble_eq_true rfl) (by decide +kernel) dX1_forgetActs_22 (fun G_3 H locs eG_3 hW hS => ?_)
  have hB_G_3 : Bd G_3 := hB_G_2.rowp eG_3 (fun _ => ⟨(tI_rng _).1, (tI_rng _).2⟩) (hB_G_2.2.row eG_3 (fun _ => rfl))
  have hF := hF.row eG_3 (by decide)
  have g_6 : (G_3.1 30 4).toInt = 0 := (congrArg Int32.toInt (show G_3.1 30 4 = 0 from ((gp_row eG_3 (by decide)).trans ((gp_ne eG_2 (by decide)).trans (gp_eq eG_1))))).trans rfl
  have g_7 : (G_3.1 30 5).toInt = 0 := (congrArg Int32.toInt (show G_3.1 30 5 = 0 from ((gp_row eG_3 (by decide)).trans (gp_eq eG_2)))).trans rfl
  exact W.vret hx hb hr (fun t ht _ => ⟨⟨G_3, rfl, (P_eForget_mk ⟨hB_G_3, hF, ((by first | exact ok_200 g_6 g_7 | omega)), ⟨(Fr.row (rs := [59]) (fs := [(30, 4), (30, 5)]) (Fr.put (rs := [59]) (fs := [(30, 4), (30, 5)]) (Fr.put (rs := [59]) (fs := [(30, 4), (30, 5)]) Fr.rf eG_1 (Or.inr (by decide))) eG_2 (Or.inr (by decide))) eG_3 (by decide)), ((gp_row eG_3 (by decide)).trans ((gp_ne eG_2 (by decide)).trans (gp_eq eG_1))), ((gp_row eG_3 (by decide)).trans (gp_eq eG_2)), (rw_row eG_3).trans (by rw [show G_2.1 58 = (G.1 58) from (rw_put eG_2 (by decide)).trans (rw_put eG_1 (by decide)), show G_2.1 59 = (G.1 59) from (rw_put eG_2 (by decide)).trans (rw_put eG_1 (by decide))])⟩⟩), wd_t ht hW⟩, hS.F ht⟩) hS.2.2 dX1_forgetActs_25

set_option maxHeartbeats 4000000 in
set_option maxRecDepth 100000 in
theorem k_eStart (l : Launch) (D : va_G) (k : KT) (A : Nat → Prop) (a : Nat → Nat) (z : SK) (G : GS) (p0 : Int32)  : Met l yX1_startAnew (WS yX1_startAnew cX1_startAnew 2 none) ({ frames := 2, cells := 0, slots := 0, locals := 60 }) (va_Pc [.ref (a 30), .int p0] (cW D k A a z G)) (va_Qv (fun (G1 : GS) => P_eStart p0 G G1) (fun (G1 : GS) t => Wd D k A a G1 t.heap) A) 0 0 A := by
  refine Met.ofW (cc := cX1_startAnew) (maxL := 2) (ret := none) (by decide) rfl ?_
  intro p e s m args below meth c s₁ B hml hv
  obtain ⟨rfl, hW, hB_G, hK, hZ⟩ := hv
  have hx := B.exec
  have hb := B.bytes
  have hr := B.returns
  have hts := atoms_spec (ws := WS yX1_startAnew cX1_startAnew 2 none) B.pre
  have hgd : ∀ w ∈ gd, w ∈ WS yX1_startAnew cX1_startAnew 2 none := fun w h => List.mem_cons_of_mem _ h
  have hg : ∀ w ∈ gd, w.before _ s = true := fun w h => hts w (hgd w h)
  have hown : s.vm.findClass RX1 = some m.cls := findClass_of_methodNamed B.named
  have hS : va_S A s.heap s.heap [] := va_S.rf
  have hF : Fr [58, 59] [(30, 3), (30, 4), (30, 5)] G G := Fr.rf
  have hl := lv_entry ([.ref (a 30), .int p0]) (n := 2) (Nat.le_of_ble_eq_true rfl)
  rw [lg_entry_eq]
  generalize (lg_sl ([.ref (a 30), .int p0]) ++ List.replicate (2 - (lg_sl ([.ref (a 30), .int p0])).length) Slot.unset).toArray = ls at hl ⊢
  have hl : lv_has ls 2 [(0, .ref (a 30)), (1, .int p0)] := hl
  refine lv_aload_n hx hb dX1_startAnew_0 rfl (lv_at hl 0 rfl) ?_
  refine S_getR (n := 58) (C := RX1) (T := TX1) (N := 6) hx hb hg iX1 hown hK hW kd_30 rfl 0 (lt_b rfl) (hg (Cond.fieldLink RX1 11 "SlabWalk$Earnest" "now" "[I") m492) (fun _ h9 => h9) rfl dX1_startAnew_1 ?_
  refine ic_0 hx hb dX1_startAnew_4 ?_
  refine S_callv (va_runS (As := [.ref (a 58), .int 0]) (rest := []) ⟨hx, hb, hml, hown, hts⟩ (k_fill_58 l D k A a z G 0 ) (va_cwS 2 hts (gd_S hgd m562 m556 m129 m557) rfl rfl rfl hd_J7_fill_53178.2 ⟨Nat.le_of_ble_eq_true rfl, Nat.le_of_ble_eq_true rfl⟩) (pre_S hW hB_G hK hZ hS) rfl rfl hl.1 rfl (lv_room (Nat.le_of_ble_eq_true rfl)) dX1_startAnew_5 ⟨Nat.le_of_ble_eq_true rfl, Nat.le_of_ble_eq_true rfl⟩) hS (fun G_2 H locs hpo hW hS => ?_)
  have hX_5 : P_fill_58 0 G G_2 := hpo
  obtain ⟨hB_G_2, hq_3, -⟩ := hpo
  have hF := hF.call9 hq_3 rfl rfl
  refine lv_aload_n hx hb dX1_startAnew_8 rfl (lv_at hl 0 rfl) ?_
  refine S_getR (n := 58) (C := RX1) (T := TX1) (N := 6) hx hb hg iX1 hown hK hW kd_30 rfl 0 (lt_b rfl) (hg (Cond.fieldLink RX1 11 "SlabWalk$Earnest" "now" "[I") m492) (fun _ h9 => h9) rfl dX1_startAnew_9 ?_
  refine ic_0 hx hb dX1_startAnew_12 ?_
  refine ic_m1 hx hb dX1_startAnew_13 ?_
  refine S_iast hx hb hK hW hS kd_58 (vin (by decide) (by decide)) dX1_startAnew_14 (fun G_6 H locs eG_6 hW hS => ?_)
  have hB_G_6 : Bd G_6 := hB_G_2.put (lo := (-2147483648)) (hi := 2147483647) eG_6 rfl rfl rfl (tI_rng _).1 (tI_rng _).2 (hB_G_2.2.put eG_6 rfl)
  have hF := hF.put eG_6 (Or.inl (by decide))
  refine lv_aload_n hx hb dX1_startAnew_15 rfl (lv_at hl 0 rfl) ?_
  refine S_getR (n := 58) (C := RX1) (T := TX1) (N := 6) hx hb hg iX1 hown hK hW kd_30 rfl 0 (lt_b rfl) (hg (Cond.fieldLink RX1 11 "SlabWalk$Earnest" "now" "[I") m492) (fun _ h9 => h9) rfl dX1_startAnew_16 ?_
  refine lv_bipush (v := 7) hx hb dX1_startAnew_19 (by decide) ?_
  refine lv_iload_n hx hb dX1_startAnew_21 rfl (lv_at hl 1 rfl) ?_
  refine S_iast hx hb hK hW hS kd_58 (vin (by decide) (by decide)) dX1_startAnew_22 (fun G_7 H locs eG_7 hW hS => ?_)
  have hB_G_7 : Bd G_7 := hB_G_6.put (lo := (-2147483648)) (hi := 2147483647) eG_7 rfl rfl rfl (tI_rng _).1 (tI_rng _).2 (hB_G_6.2.put eG_7 rfl)
  have hF := hF.put eG_7 (Or.inl (by decide))
  refine lv_aload_n hx hb dX1_startAnew_23 rfl (lv_at hl 0 rfl) ?_
  refine ic_0 hx hb dX1_startAnew_24 ?_
  refine S_putI (ty := .int) (C := RX1) (T := TX1) (N := 6) hx hb hg iX1 tyX1 tyX1_ok nmX1 hown hK hW hS kd_30 rfl 3 (lt_b rfl) (hg (Cond.fieldLink RX1 27 "SlabWalk$Earnest" "full" "I") m496) (fun _ h9 => h9) rfl (by decide +kernel) rfl rfl rfl dX1_startAnew_25 (fun G_8 H locs eG_8 hW hS => ?_)
  have hB_G_8 : Bd G_8 := hB_G_7.put (lo := (-2147483648)) (hi := 2147483647) eG_8 rfl rfl rfl (tI_rng _).1 (tI_rng _).2 (hB_G_7.2.put eG_8 rfl)
  have hF := hF.put eG_8 (Or.inr (by decide))
  refine lv_aload_n hx hb dX1_startAnew_28 rfl (lv_at hl 0 rfl) ?_
  refine S_callv (va_runV (As := []) (rest := []) ⟨hx, hb, hml, hown, hts⟩ (k_eForget l D k A a z G_8  ) (cwV 0 hts (gd_V hgd m563 m565 m1 m127 m566) rfl rfl rfl hd_X1_forgetActs ⟨Nat.le_of_ble_eq_true rfl, Nat.le_of_ble_eq_true rfl⟩) (pre_W hW hB_G_8 hK hZ hS kd_30 rfl) rfl rfl hl.1 rfl (lv_room (Nat.le_of_ble_eq_true rfl)) dX1_startAnew_29 ⟨Nat.le_of_ble_eq_true rfl, Nat.le_of_ble_eq_true rfl⟩) hS (fun G_10 H locs hpo hW hS => ?_)
  have hX_13 : P_eForget G_8 G_10 := hpo
  obtain ⟨hB_G_10, hq_11, hp_12, -⟩ := hpo
  have hF := hF.call9 hq_11 rfl rfl
  have b_14 : 0 ≤ (G_10.1 30 4).toInt ∧ (G_10.1 30 4).toInt ≤ 40 := bd_30_4 hB_G_10
  have b_15 : 0 ≤ (G_10.1 30 5).toInt ∧ (G_10.1 30 5).toInt ≤ 40 := bd_30_5 hB_G_10
  exact W.vret hx hb hr (fun t ht _ => ⟨⟨G_10, rfl, (P_eStart_mk ⟨hB_G_10, hF, ((by first | exact hp_12 | omega)), ⟨G_2, hX_5, ⟨G_8, hB_G_8, (Fr.put (rs := [58]) (fs := [(30, 3)]) (Fr.put (rs := [58]) (fs := [(30, 3)]) (Fr.put (rs := [58]) (fs := [(30, 3)]) Fr.rf eG_6 (Or.inl (by decide))) eG_7 (Or.inl (by decide))) eG_8 (Or.inr (by decide))), (gp_eq eG_8), (rw_put eG_8 (by decide)).trans ((rw_ast eG_7).trans (congrArg (fun q => upd q ((7 : Int32).toNatClampNeg) p0) (rw_ast eG_6))), ⟨G_10, hX_13, rfl⟩⟩⟩⟩), wd_t ht hW⟩, hS.F ht⟩) hS.2.2 dX1_startAnew_32

set_option maxHeartbeats 4000000 in
set_option maxRecDepth 100000 in
theorem k_eSetOut (l : Launch) (D : va_G) (k : KT) (A : Nat → Prop) (a : Nat → Nat) (z : SK) (G : GS) (p0 : Int32) (p1 : Int32) (p2 : Int32)  : Met l yX1_setOut (WS yX1_setOut cX1_setOut 4 none) ({ frames := 0, cells := 0, slots := 0, locals := 0 }) (va_Pc [.ref (a 30), .int p0, .int p1, .int p2] (cW D k A a z G)) (va_Qv (fun (G1 : GS) => P_eSetOut p0 p1 p2 G G1) (fun (G1 : GS) t => Wd D k A a G1 t.heap) A) 0 0 A := by
  refine Met.ofW (cc := cX1_setOut) (maxL := 4) (ret := none) (by decide) rfl ?_
  intro p e s m args below meth c s₁ B hml hv
  obtain ⟨rfl, hW, hB_G, hK, hZ⟩ := hv
  have hx := B.exec
  have hb := B.bytes
  have hr := B.returns
  have hts := atoms_spec (ws := WS yX1_setOut cX1_setOut 4 none) B.pre
  have hgd : ∀ w ∈ gd, w ∈ WS yX1_setOut cX1_setOut 4 none := fun w h => List.mem_cons_of_mem _ h
  have hg : ∀ w ∈ gd, w.before _ s = true := fun w h => hts w (hgd w h)
  have hown : s.vm.findClass RX1 = some m.cls := findClass_of_methodNamed B.named
  have hS : va_S A s.heap s.heap [] := va_S.rf
  have hF : Fr [58] [] G G := Fr.rf
  have hl := lv_entry ([.ref (a 30), .int p0, .int p1, .int p2]) (n := 4) (Nat.le_of_ble_eq_true rfl)
  rw [lg_entry_eq]
  generalize (lg_sl ([.ref (a 30), .int p0, .int p1, .int p2]) ++ List.replicate (4 - (lg_sl ([.ref (a 30), .int p0, .int p1, .int p2])).length) Slot.unset).toArray = ls at hl ⊢
  have hl : lv_has ls 4 [(0, .ref (a 30)), (1, .int p0), (2, .int p1), (3, .int p2)] := hl
  refine lv_aload_n hx hb dX1_setOut_0 rfl (lv_at hl 0 rfl) ?_
  refine S_getR (n := 58) (C := RX1) (T := TX1) (N := 6) hx hb hg iX1 hown hK hW kd_30 rfl 0 (lt_b rfl) (hg (Cond.fieldLink RX1 11 "SlabWalk$Earnest" "now" "[I") m492) (fun _ h9 => h9) rfl dX1_setOut_1 ?_
  refine ic_0 hx hb dX1_setOut_4 ?_
  refine lv_iload_n hx hb dX1_setOut_5 rfl (lv_at hl 1 rfl) ?_
  refine S_iast hx hb hK hW hS kd_58 (vin (by decide) (by decide)) dX1_setOut_6 (fun G_1 H locs eG_1 hW hS => ?_)
  have hB_G_1 : Bd G_1 := hB_G.put (lo := (-2147483648)) (hi := 2147483647) eG_1 rfl rfl rfl (tI_rng _).1 (tI_rng _).2 (hB_G.2.put eG_1 rfl)
  have hF := hF.put eG_1 (Or.inl (by decide))
  refine lv_aload_n hx hb dX1_setOut_7 rfl (lv_at hl 0 rfl) ?_
  refine S_getR (n := 58) (C := RX1) (T := TX1) (N := 6) hx hb hg iX1 hown hK hW kd_30 rfl 0 (lt_b rfl) (hg (Cond.fieldLink RX1 11 "SlabWalk$Earnest" "now" "[I") m492) (fun _ h9 => h9) rfl dX1_setOut_8 ?_
  refine ic_1 hx hb dX1_setOut_11 ?_
  refine lv_iload_n hx hb dX1_setOut_12 rfl (lv_at hl 2 rfl) ?_
  refine S_iast hx hb hK hW hS kd_58 (vin (by decide) (by decide)) dX1_setOut_13 (fun G_2 H locs eG_2 hW hS => ?_)
  have hB_G_2 : Bd G_2 := hB_G_1.put (lo := (-2147483648)) (hi := 2147483647) eG_2 rfl rfl rfl (tI_rng _).1 (tI_rng _).2 (hB_G_1.2.put eG_2 rfl)
  have hF := hF.put eG_2 (Or.inl (by decide))
  refine lv_aload_n hx hb dX1_setOut_14 rfl (lv_at hl 0 rfl) ?_
  refine S_getR (n := 58) (C := RX1) (T := TX1) (N := 6) hx hb hg iX1 hown hK hW kd_30 rfl 0 (lt_b rfl) (hg (Cond.fieldLink RX1 11 "SlabWalk$Earnest" "now" "[I") m492) (fun _ h9 => h9) rfl dX1_setOut_15 ?_
  refine ic_2 hx hb dX1_setOut_18 ?_
  refine lv_iload_n hx hb dX1_setOut_19 rfl (lv_at hl 3 rfl) ?_
  refine S_iast hx hb hK hW hS kd_58 (vin (by decide) (by decide)) dX1_setOut_20 (fun G_3 H locs eG_3 hW hS => ?_)
  have hB_G_3 : Bd G_3 := hB_G_2.put (lo := (-2147483648)) (hi := 2147483647) eG_3 rfl rfl rfl (tI_rng _).1 (tI_rng _).2 (hB_G_2.2.put eG_3 rfl)
  have hF := hF.put eG_3 (Or.inl (by decide))
  refine lv_aload_n hx hb dX1_setOut_21 rfl (lv_at hl 0 rfl) ?_
  refine S_getR (n := 58) (C := RX1) (T := TX1) (N := 6) hx hb hg iX1 hown hK hW kd_30 rfl 0 (lt_b rfl) (hg (Cond.fieldLink RX1 11 "SlabWalk$Earnest" "now" "[I") m492) (fun _ h9 => h9) rfl dX1_setOut_22 ?_
  refine ic_3 hx hb dX1_setOut_25 ?_
  refine ic_1 hx hb dX1_setOut_26 ?_
  refine S_iast hx hb hK hW hS kd_58 (vin (by decide) (by decide)) dX1_setOut_27 (fun G_4 H locs eG_4 hW hS => ?_)
  have hB_G_4 : Bd G_4 := hB_G_3.put (lo := (-2147483648)) (hi := 2147483647) eG_4 rfl rfl rfl (tI_rng _).1 (tI_rng _).2 (hB_G_3.2.put eG_4 rfl)
  have hF := hF.put eG_4 (Or.inl (by decide))
  refine lv_aload_n hx hb dX1_setOut_28 rfl (lv_at hl 0 rfl) ?_
  refine S_getR (n := 58) (C := RX1) (T := TX1) (N := 6) hx hb hg iX1 hown hK hW kd_30 rfl 0 (lt_b rfl) (hg (Cond.fieldLink RX1 11 "SlabWalk$Earnest" "now" "[I") m492) (fun _ h9 => h9) rfl dX1_setOut_29 ?_
  refine ic_4 hx hb dX1_setOut_32 ?_
  refine ic_1 hx hb dX1_setOut_33 ?_
  refine S_iast hx hb hK hW hS kd_58 (vin (by decide) (by decide)) dX1_setOut_34 (fun G_5 H locs eG_5 hW hS => ?_)
  have hB_G_5 : Bd G_5 := hB_G_4.put (lo := (-2147483648)) (hi := 2147483647) eG_5 rfl rfl rfl (tI_rng _).1 (tI_rng _).2 (hB_G_4.2.put eG_5 rfl)
  have hF := hF.put eG_5 (Or.inl (by decide))
  refine lv_aload_n hx hb dX1_setOut_35 rfl (lv_at hl 0 rfl) ?_
  refine S_getR (n := 58) (C := RX1) (T := TX1) (N := 6) hx hb hg iX1 hown hK hW kd_30 rfl 0 (lt_b rfl) (hg (Cond.fieldLink RX1 11 "SlabWalk$Earnest" "now" "[I") m492) (fun _ h9 => h9) rfl dX1_setOut_36 ?_
  refine ic_5 hx hb dX1_setOut_39 ?_
  refine ic_0 hx hb dX1_setOut_40 ?_
  refine S_iast hx hb hK hW hS kd_58 (vin (by decide) (by decide)) dX1_setOut_41 (fun G_6 H locs eG_6 hW hS => ?_)
  have hB_G_6 : Bd G_6 := hB_G_5.put (lo := (-2147483648)) (hi := 2147483647) eG_6 rfl rfl rfl (tI_rng _).1 (tI_rng _).2 (hB_G_5.2.put eG_6 rfl)
  have hF := hF.put eG_6 (Or.inl (by decide))
  exact W.vret hx hb hr (fun t ht _ => ⟨⟨G_6, rfl, (P_eSetOut_mk ⟨hB_G_6, hF, ⟨(Fr.put (rs := [58]) (fs := []) (Fr.put (rs := [58]) (fs := []) (Fr.put (rs := [58]) (fs := []) (Fr.put (rs := [58]) (fs := []) (Fr.put (rs := [58]) (fs := []) (Fr.put (rs := [58]) (fs := []) Fr.rf eG_1 (Or.inl (by decide))) eG_2 (Or.inl (by decide))) eG_3 (Or.inl (by decide))) eG_4 (Or.inl (by decide))) eG_5 (Or.inl (by decide))) eG_6 (Or.inl (by decide))), (rw_ast eG_6).trans (congrArg (fun q => upd q ((5 : Int32).toNatClampNeg) 0) ((rw_ast eG_5).trans (congrArg (fun q => upd q ((4 : Int32).toNatClampNeg) 1) ((rw_ast eG_4).trans (congrArg (fun q => upd q ((3 : Int32).toNatClampNeg) 1) ((rw_ast eG_3).trans (congrArg (fun q => upd q ((2 : Int32).toNatClampNeg) p2) ((rw_ast eG_2).trans (congrArg (fun q => upd q ((1 : Int32).toNatClampNeg) p1) (rw_ast eG_1))))))))))⟩⟩), wd_t ht hW⟩, hS.F ht⟩) hS.2.2 dX1_setOut_42

set_option maxHeartbeats 4000000 in
set_option maxRecDepth 100000 in
theorem k_eDraw (l : Launch) (D : va_G) (k : KT) (A : Nat → Prop) (a : Nat → Nat) (z : SK) (G : GS)   : Met l yX1_drawSeed (WS yX1_drawSeed cX1_drawSeed 1 none) ({ frames := 0, cells := 0, slots := 0, locals := 0 }) (va_Pc [.ref (a 30)] (cW D k A a z G)) (va_Qv (fun (G1 : GS) => P_eDraw G G1) (fun (G1 : GS) t => Wd D k A a G1 t.heap) A) 0 0 A := by
  refine Met.ofW (cc := cX1_drawSeed) (maxL := 1) (ret := none) (by decide) rfl ?_
  intro p e s m args below meth c s₁ B hml hv
  obtain ⟨rfl, hW, hB_G, hK, hZ⟩ := hv
  have hx := B.exec
  have hb := B.bytes
  have hr := B.returns
  have hts := atoms_spec (ws := WS yX1_drawSeed cX1_drawSeed 1 none) B.pre
  have hgd : ∀ w ∈ gd, w ∈ WS yX1_drawSeed cX1_drawSeed 1 none := fun w h => List.mem_cons_of_mem _ h
  have hg : ∀ w ∈ gd, w.before _ s = true := fun w h => hts w (hgd w h)
  have hown : s.vm.findClass RX1 = some m.cls := findClass_of_methodNamed B.named
  have hS : va_S A s.heap s.heap [] := va_S.rf
  have hF : Fr [58] [] G G := Fr.rf
  have hl := lv_entry ([.ref (a 30)]) (n := 1) (Nat.le_of_ble_eq_true rfl)
  rw [lg_entry_eq]
  generalize (lg_sl ([.ref (a 30)]) ++ List.replicate (1 - (lg_sl ([.ref (a 30)])).length) Slot.unset).toArray = ls at hl ⊢
  have hl : lv_has ls 1 [(0, .ref (a 30))] := hl
  refine lv_aload_n hx hb dX1_drawSeed_0 rfl (lv_at hl 0 rfl) ?_
  refine S_getR (n := 58) (C := RX1) (T := TX1) (N := 6) hx hb hg iX1 hown hK hW kd_30 rfl 0 (lt_b rfl) (hg (Cond.fieldLink RX1 11 "SlabWalk$Earnest" "now" "[I") m492) (fun _ h9 => h9) rfl dX1_drawSeed_1 ?_
  refine lv_bipush (v := 7) hx hb dX1_drawSeed_4 (by decide) ?_
  refine lv_aload_n hx hb dX1_drawSeed_6 rfl (lv_at hl 0 rfl) ?_
  refine S_getR (n := 58) (C := RX1) (T := TX1) (N := 6) hx hb hg iX1 hown hK hW kd_30 rfl 0 (lt_b rfl) (hg (Cond.fieldLink RX1 11 "SlabWalk$Earnest" "now" "[I") m492) (fun _ h9 => h9) rfl dX1_drawSeed_7 ?_
  refine lv_bipush (v := 7) hx hb dX1_drawSeed_10 (by decide) ?_
  refine S_iald hx hb hK hW kd_58 (vin (by decide) (by decide)) dX1_drawSeed_12 (fun y_1 ey_1 => ?_)
  refine lv_sipush (v := 137) hx hb dX1_drawSeed_13 (by decide) ?_
  refine lv_imul hx hb dX1_drawSeed_16 ?_
  refine lv_topi (fun y_2 ey_2 => ?_)
  refine lv_bipush (v := 71) hx hb dX1_drawSeed_17 (by decide) ?_
  refine lv_iadd hx hb dX1_drawSeed_19 ?_
  refine lv_topi (fun y_3 ey_3 => ?_)
  refine lv_sipush (v := 1000) hx hb dX1_drawSeed_20 (by decide) ?_
  refine lv_irem hx hb dX1_drawSeed_23 (by decide) ?_
  refine lv_topi (fun y_4 ey_4 => ?_)
  refine S_iast hx hb hK hW hS kd_58 (vin (by decide) (by decide)) dX1_drawSeed_24 (fun G_5 H locs eG_5 hW hS => ?_)
  have hB_G_5 : Bd G_5 := hB_G.put (lo := (-2147483648)) (hi := 2147483647) eG_5 rfl rfl rfl (tI_rng _).1 (tI_rng _).2 (hB_G.2.put eG_5 rfl)
  have hF := hF.put eG_5 (Or.inl (by decide))
  exact W.vret hx hb hr (fun t ht _ => ⟨⟨G_5, rfl, (P_eDraw_mk ⟨hB_G_5, hF, ⟨y_1, ey_1, ⟨y_2, ey_2, ⟨y_3, ey_3, ⟨y_4, ey_4, ⟨(Fr.put (rs := [58]) (fs := []) Fr.rf eG_5 (Or.inl (by decide))), rw_ast eG_5⟩⟩⟩⟩⟩⟩), wd_t ht hW⟩, hS.F ht⟩) hS.2.2 dX1_drawSeed_25

set_option maxHeartbeats 4000000 in
set_option maxRecDepth 100000 in
theorem k_eKeep (l : Launch) (D : va_G) (k : KT) (A : Nat → Prop) (a : Nat → Nat) (z : SK) (G : GS)   : Met l yX1_keepAct (WS yX1_keepAct cX1_keepAct 1 none) ({ frames := 1, cells := 0, slots := 0, locals := 40 }) (va_Pc [.ref (a 30)] (cW D k A a z G)) (va_Qv (fun (G1 : GS) => P_eKeep G G1) (fun (G1 : GS) t => Wd D k A a G1 t.heap) A) 0 0 A := by
  refine Met.ofW (cc := cX1_keepAct) (maxL := 1) (ret := none) (by decide) rfl ?_
  intro p e s m args below meth c s₁ B hml hv
  obtain ⟨rfl, hW, hB_G, hK, hZ⟩ := hv
  have hx := B.exec
  have hb := B.bytes
  have hr := B.returns
  have hts := atoms_spec (ws := WS yX1_keepAct cX1_keepAct 1 none) B.pre
  have hgd : ∀ w ∈ gd, w ∈ WS yX1_keepAct cX1_keepAct 1 none := fun w h => List.mem_cons_of_mem _ h
  have hg : ∀ w ∈ gd, w.before _ s = true := fun w h => hts w (hgd w h)
  have hown : s.vm.findClass RX1 = some m.cls := findClass_of_methodNamed B.named
  have hS : va_S A s.heap s.heap [] := va_S.rf
  have hF : Fr [59] [(30, 4), (30, 5)] G G := Fr.rf
  have hl := lv_entry ([.ref (a 30)]) (n := 1) (Nat.le_of_ble_eq_true rfl)
  rw [lg_entry_eq]
  generalize (lg_sl ([.ref (a 30)]) ++ List.replicate (1 - (lg_sl ([.ref (a 30)])).length) Slot.unset).toArray = ls at hl ⊢
  have hl : lv_has ls 1 [(0, .ref (a 30))] := hl
  refine lv_aload_n hx hb dX1_keepAct_0 rfl (lv_at hl 0 rfl) ?_
  have b_1 : 0 ≤ (G.1 30 4).toInt ∧ (G.1 30 4).toInt ≤ 40 := bd_30_4 hB_G
  refine S_getI (v := (G.1 30 4)) (C := RX1) (T := TX1) (N := 6) hx hb hg iX1 hown hK hW kd_30 rfl 4 (lt_b rfl) (hg (Cond.fieldLink RX1 34 "SlabWalk$Earnest" "done" "I") m497) (fun _ h9 => h9) rfl rfl dX1_keepAct_1 ?_
  refine lv_bipush (v := 40) hx hb dX1_keepAct_4 (by decide) ?_
  refine lv_icmp_lt (tgt := 32) hx hb dX1_keepAct_6 rfl (fun c_2 => ?_) (fun c_2 => ?_)
  · have c_2 : (G.1 30 4).toInt < 40 := xI_lt rfl rfl c_2
    refine lv_aload_n hx hb dX1_keepAct_32 rfl (lv_at hl 0 rfl) ?_
    refine lv_dup hx hb dX1_keepAct_33 rfl ?_
    refine S_getI (v := (G.1 30 4)) (C := RX1) (T := TX1) (N := 6) hx hb hg iX1 hown hK hW kd_30 rfl 4 (lt_b rfl) (hg (Cond.fieldLink RX1 34 "SlabWalk$Earnest" "done" "I") m497) (fun _ h9 => h9) rfl rfl dX1_keepAct_34 ?_
    refine ic_1 hx hb dX1_keepAct_37 ?_
    refine lv_iadd hx hb dX1_keepAct_38 ?_
    refine lv_topi (fun y_3 ey_3 => ?_)
    have ty_3 : y_3.toInt = (G.1 30 4).toInt + 1 := xI_add rfl rfl ey_3 ((by first | exact ok_21 b_1.1 | omega)) ((by first | exact ok_201 b_1.2 | omega))
    refine S_putI (ty := .int) (C := RX1) (T := TX1) (N := 6) hx hb hg iX1 tyX1 tyX1_ok nmX1 hown hK hW hS kd_30 rfl 4 (lt_b rfl) (hg (Cond.fieldLink RX1 34 "SlabWalk$Earnest" "done" "I") m497) (fun _ h9 => h9) rfl (by decide +kernel) rfl rfl rfl dX1_keepAct_39 (fun G_4 H locs eG_4 hW hS => ?_)
    have hB_G_4 : Bd G_4 := hB_G.put (V := y_3.toInt) (lo := 0) (hi := 40) eG_4 rfl rfl rfl ((by first | exact ok_23 b_1.1 ty_3 | omega)) ((by first | exact ok_202 b_1.2 c_2 ty_3 | omega)) (hB_G.2.put eG_4 rfl)
    have hF := hF.put eG_4 (Or.inr (by decide))
    refine lv_aload_n hx hb dX1_keepAct_42 rfl (lv_at hl 0 rfl) ?_
    refine ic_0 hx hb dX1_keepAct_43 ?_
    refine S_putI (ty := .int) (C := RX1) (T := TX1) (N := 6) hx hb hg iX1 tyX1 tyX1_ok nmX1 hown hK hW hS kd_30 rfl 5 (lt_b rfl) (hg (Cond.fieldLink RX1 37 "SlabWalk$Earnest" "undone" "I") m499) (fun _ h9 => h9) rfl (by decide +kernel) rfl rfl rfl dX1_keepAct_44 (fun G_5 H locs eG_5 hW hS => ?_)
    have hB_G_5 : Bd G_5 := hB_G_4.put (V := 0) (lo := 0) (hi := 40) eG_5 rfl rfl rfl (by decide) (by decide) (hB_G_4.2.put eG_5 rfl)
    have hF := hF.put eG_5 (Or.inr (by decide))
    refine lv_aload_n hx hb dX1_keepAct_47 rfl (lv_at hl 0 rfl) ?_
    refine S_getR (n := 58) (C := RX1) (T := TX1) (N := 6) hx hb hg iX1 hown hK hW kd_30 rfl 0 (lt_b rfl) (hg (Cond.fieldLink RX1 11 "SlabWalk$Earnest" "now" "[I") m492) (fun _ h9 => h9) rfl dX1_keepAct_48 ?_
    refine ic_0 hx hb dX1_keepAct_51 ?_
    refine lv_aload_n hx hb dX1_keepAct_52 rfl (lv_at hl 0 rfl) ?_
    refine S_getR (n := 59) (C := RX1) (T := TX1) (N := 6) hx hb hg iX1 hown hK hW kd_30 rfl 1 (lt_b rfl) (hg (Cond.fieldLink RX1 15 "SlabWalk$Earnest" "kept" "[I") m494) (fun _ h9 => h9) rfl dX1_keepAct_53 ?_
    refine lv_aload_n hx hb dX1_keepAct_56 rfl (lv_at hl 0 rfl) ?_
    refine S_getI (v := y_3) (C := RX1) (T := TX1) (N := 6) hx hb hg iX1 hown hK hW kd_30 rfl 4 (lt_b rfl) (hg (Cond.fieldLink RX1 34 "SlabWalk$Earnest" "done" "I") m497) (fun _ h9 => h9) rfl ((gp_ne eG_5 (by decide)).trans (gp_eq eG_4)) dX1_keepAct_57 ?_
    refine lv_bipush (v := 10) hx hb dX1_keepAct_60 (by decide) ?_
    refine lv_imul hx hb dX1_keepAct_62 ?_
    refine lv_topi (fun y_6 ey_6 => ?_)
    have ty_6 : y_6.toInt = y_3.toInt * 10 := xI_mul rfl rfl ey_6 ((by first | exact ok_203 b_1.1 ty_3 | omega)) ((by first | exact ok_204 b_1.2 ty_3 | omega))
    refine lv_bipush (v := 10) hx hb dX1_keepAct_63 (by decide) ?_
    have qc_8 : (0 : Int32).toInt = 0 := rfl
    have qc_9 : (10 : Int32).toInt = 10 := rfl
    refine S_copy hx hb (by rw [hml]; exact hl.1.symm) hown (hg (Cond.methodLink RX1 40 arraycopyName) m567) (hg (Cond.native arraycopyName) m569) (hg (Cond.static arraycopyName) m568) (hg (Cond.initialized "java/lang/System") m130) hK hW hS kd_58 kd_59 (by decide) (by omega) (by decide) (by decide) (by omega) (Nat.le_of_ble_eq_true rfl) (by decide +kernel) dX1_keepAct_65 (fun G_7 H locs eG_7 hW hS => ?_)
    have hB_G_7 : Bd G_7 := hB_G_5.rowp eG_7 (fun _ => ⟨(tI_rng _).1, (tI_rng _).2⟩) (hB_G_5.2.row eG_7 (fun _ => rfl))
    have hF := hF.row eG_7 (by decide)
    have g_10 : (G_7.1 30 4).toInt = y_3.toInt := (congrArg Int32.toInt (show G_7.1 30 4 = y_3 from ((gp_row eG_7 (by decide)).trans ((gp_ne eG_5 (by decide)).trans (gp_eq eG_4)))))
    have g_11 : (G_7.1 30 5).toInt = 0 := (congrArg Int32.toInt (show G_7.1 30 5 = 0 from ((gp_row eG_7 (by decide)).trans (gp_eq eG_5)))).trans rfl
    exact W.vret hx hb hr (fun t ht _ => ⟨⟨G_7, rfl, (P_eKeep_mk ⟨hB_G_7, hF, ((by first | exact ok_205 b_1.2 c_2 ty_3 g_10 g_11 | omega)), (Or.inl ⟨c_2, ⟨y_3, ty_3, ⟨y_6, ty_6, ⟨(Fr.row (rs := [59]) (fs := [(30, 4), (30, 5)]) (Fr.put (rs := [59]) (fs := [(30, 4), (30, 5)]) (Fr.put (rs := [59]) (fs := [(30, 4), (30, 5)]) Fr.rf eG_4 (Or.inr (by decide))) eG_5 (Or.inr (by decide))) eG_7 (by decide)), ((gp_row eG_7 (by decide)).trans ((gp_ne eG_5 (by decide)).trans (gp_eq eG_4))), ((gp_row eG_7 (by decide)).trans (gp_eq eG_5)), (rw_row eG_7).trans (by rw [show G_5.1 58 = (G.1 58) from (rw_put eG_5 (by decide)).trans (rw_put eG_4 (by decide)), show G_5.1 59 = (G.1 59) from (rw_put eG_5 (by decide)).trans (rw_put eG_4 (by decide))])⟩⟩⟩⟩)⟩), wd_t ht hW⟩, hS.F ht⟩) hS.2.2 dX1_keepAct_68
  · have c_2 : 40 ≤ (G.1 30 4).toInt := xI_nlt rfl rfl c_2
    refine lv_aload_n hx hb dX1_keepAct_9 rfl (lv_at hl 0 rfl) ?_
    refine S_getR (n := 59) (C := RX1) (T := TX1) (N := 6) hx hb hg iX1 hown hK hW kd_30 rfl 1 (lt_b rfl) (hg (Cond.fieldLink RX1 15 "SlabWalk$Earnest" "kept" "[I") m494) (fun _ h9 => h9) rfl dX1_keepAct_10 ?_
    refine lv_bipush (v := 10) hx hb dX1_keepAct_13 (by decide) ?_
    refine lv_aload_n hx hb dX1_keepAct_15 rfl (lv_at hl 0 rfl) ?_
    refine S_getR (n := 59) (C := RX1) (T := TX1) (N := 6) hx hb hg iX1 hown hK hW kd_30 rfl 1 (lt_b rfl) (hg (Cond.fieldLink RX1 15 "SlabWalk$Earnest" "kept" "[I") m494) (fun _ h9 => h9) rfl dX1_keepAct_16 ?_
    refine ic_0 hx hb dX1_keepAct_19 ?_
    refine lv_sipush (v := 400) hx hb dX1_keepAct_20 (by decide) ?_
    have qc_13 : (0 : Int32).toInt = 0 := rfl
    have qc_14 : (10 : Int32).toInt = 10 := rfl
    have qc_15 : (400 : Int32).toInt = 400 := rfl
    refine S_copy hx hb (by rw [hml]; exact hl.1.symm) hown (hg (Cond.methodLink RX1 40 arraycopyName) m567) (hg (Cond.native arraycopyName) m569) (hg (Cond.static arraycopyName) m568) (hg (Cond.initialized "java/lang/System") m130) hK hW hS kd_59 kd_59 (by decide) (by decide) (by decide) (by decide) (by decide) (Nat.le_of_ble_eq_true rfl) (by decide +kernel) dX1_keepAct_23 (fun G_12 H locs eG_12 hW hS => ?_)
    have hB_G_12 : Bd G_12 := hB_G.rowp eG_12 (fun _ => ⟨(tI_rng _).1, (tI_rng _).2⟩) (hB_G.2.row eG_12 (fun _ => rfl))
    have hF := hF.row eG_12 (by decide)
    refine lv_aload_n hx hb dX1_keepAct_26 rfl (lv_at hl 0 rfl) ?_
    refine lv_bipush (v := 39) hx hb dX1_keepAct_27 (by decide) ?_
    refine S_putI (ty := .int) (C := RX1) (T := TX1) (N := 6) hx hb hg iX1 tyX1 tyX1_ok nmX1 hown hK hW hS kd_30 rfl 4 (lt_b rfl) (hg (Cond.fieldLink RX1 34 "SlabWalk$Earnest" "done" "I") m497) (fun _ h9 => h9) rfl (by decide +kernel) rfl rfl rfl dX1_keepAct_29 (fun G_16 H locs eG_16 hW hS => ?_)
    have hB_G_16 : Bd G_16 := hB_G_12.put (V := 39) (lo := 0) (hi := 40) eG_16 rfl rfl rfl (by decide) (by decide) (hB_G_12.2.put eG_16 rfl)
    have hF := hF.put eG_16 (Or.inr (by decide))
    refine lv_aload_n hx hb dX1_keepAct_32 rfl (lv_at hl 0 rfl) ?_
    refine lv_dup hx hb dX1_keepAct_33 rfl ?_
    refine S_getI (v := 39) (C := RX1) (T := TX1) (N := 6) hx hb hg iX1 hown hK hW kd_30 rfl 4 (lt_b rfl) (hg (Cond.fieldLink RX1 34 "SlabWalk$Earnest" "done" "I") m497) (fun _ h9 => h9) rfl (gp_eq eG_16) dX1_keepAct_34 ?_
    refine ic_1 hx hb dX1_keepAct_37 ?_
    refine lv_iadd hx hb dX1_keepAct_38 ?_
    refine lv_topi (fun y_17 ey_17 => ?_)
    obtain rfl : y_17 = 40 := ey_17.trans (by decide)
    refine S_putI (ty := .int) (C := RX1) (T := TX1) (N := 6) hx hb hg iX1 tyX1 tyX1_ok nmX1 hown hK hW hS kd_30 rfl 4 (lt_b rfl) (hg (Cond.fieldLink RX1 34 "SlabWalk$Earnest" "done" "I") m497) (fun _ h9 => h9) rfl (by decide +kernel) rfl rfl rfl dX1_keepAct_39 (fun G_18 H locs eG_18 hW hS => ?_)
    have hB_G_18 : Bd G_18 := hB_G_16.put (V := 40) (lo := 0) (hi := 40) eG_18 rfl rfl rfl (by decide) (by decide) (hB_G_16.2.put eG_18 rfl)
    have hF := hF.put eG_18 (Or.inr (by decide))
    refine lv_aload_n hx hb dX1_keepAct_42 rfl (lv_at hl 0 rfl) ?_
    refine ic_0 hx hb dX1_keepAct_43 ?_
    refine S_putI (ty := .int) (C := RX1) (T := TX1) (N := 6) hx hb hg iX1 tyX1 tyX1_ok nmX1 hown hK hW hS kd_30 rfl 5 (lt_b rfl) (hg (Cond.fieldLink RX1 37 "SlabWalk$Earnest" "undone" "I") m499) (fun _ h9 => h9) rfl (by decide +kernel) rfl rfl rfl dX1_keepAct_44 (fun G_19 H locs eG_19 hW hS => ?_)
    have hB_G_19 : Bd G_19 := hB_G_18.put (V := 0) (lo := 0) (hi := 40) eG_19 rfl rfl rfl (by decide) (by decide) (hB_G_18.2.put eG_19 rfl)
    have hF := hF.put eG_19 (Or.inr (by decide))
    refine lv_aload_n hx hb dX1_keepAct_47 rfl (lv_at hl 0 rfl) ?_
    refine S_getR (n := 58) (C := RX1) (T := TX1) (N := 6) hx hb hg iX1 hown hK hW kd_30 rfl 0 (lt_b rfl) (hg (Cond.fieldLink RX1 11 "SlabWalk$Earnest" "now" "[I") m492) (fun _ h9 => h9) rfl dX1_keepAct_48 ?_
    refine ic_0 hx hb dX1_keepAct_51 ?_
    refine lv_aload_n hx hb dX1_keepAct_52 rfl (lv_at hl 0 rfl) ?_
    refine S_getR (n := 59) (C := RX1) (T := TX1) (N := 6) hx hb hg iX1 hown hK hW kd_30 rfl 1 (lt_b rfl) (hg (Cond.fieldLink RX1 15 "SlabWalk$Earnest" "kept" "[I") m494) (fun _ h9 => h9) rfl dX1_keepAct_53 ?_
    refine lv_aload_n hx hb dX1_keepAct_56 rfl (lv_at hl 0 rfl) ?_
    refine S_getI (v := 40) (C := RX1) (T := TX1) (N := 6) hx hb hg iX1 hown hK hW kd_30 rfl 4 (lt_b rfl) (hg (Cond.fieldLink RX1 34 "SlabWalk$Earnest" "done" "I") m497) (fun _ h9 => h9) rfl ((gp_ne eG_19 (by decide)).trans (gp_eq eG_18)) dX1_keepAct_57 ?_
    refine lv_bipush (v := 10) hx hb dX1_keepAct_60 (by decide) ?_
    refine lv_imul hx hb dX1_keepAct_62 ?_
    refine lv_topi (fun y_20 ey_20 => ?_)
    obtain rfl : y_20 = 400 := ey_20.trans (by decide)
    refine lv_bipush (v := 10) hx hb dX1_keepAct_63 (by decide) ?_
    have qc_22 : (0 : Int32).toInt = 0 := rfl
    have qc_23 : (10 : Int32).toInt = 10 := rfl
    have qc_24 : (400 : Int32).toInt = 400 := rfl
    refine S_copy hx hb (by rw [hml]; exact hl.1.symm) hown (hg (Cond.methodLink RX1 40 arraycopyName) m567) (hg (Cond.native arraycopyName) m569) (hg (Cond.static arraycopyName) m568) (hg (Cond.initialized "java/lang/System") m130) hK hW hS kd_58 kd_59 (by decide) (by decide) (by decide) (by decide) (by decide) (Nat.le_of_ble_eq_true rfl) (by decide +kernel) dX1_keepAct_65 (fun G_21 H locs eG_21 hW hS => ?_)
    have hB_G_21 : Bd G_21 := hB_G_19.rowp eG_21 (fun _ => ⟨(tI_rng _).1, (tI_rng _).2⟩) (hB_G_19.2.row eG_21 (fun _ => rfl))
    have hF := hF.row eG_21 (by decide)
    have g_25 : (G_21.1 30 4).toInt = 40 := (congrArg Int32.toInt (show G_21.1 30 4 = 40 from ((gp_row eG_21 (by decide)).trans ((gp_ne eG_19 (by decide)).trans (gp_eq eG_18))))).trans rfl
    have g_26 : (G_21.1 30 5).toInt = 0 := (congrArg Int32.toInt (show G_21.1 30 5 = 0 from ((gp_row eG_21 (by decide)).trans (gp_eq eG_19)))).trans rfl
    exact W.vret hx hb hr (fun t ht _ => ⟨⟨G_21, rfl, (P_eKeep_mk ⟨hB_G_21, hF, ((by first | exact ok_206 g_25 g_26 | omega)), (Or.inr ⟨c_2, ⟨(Fr.row (rs := [59]) (fs := [(30, 4), (30, 5)]) (Fr.put (rs := [59]) (fs := [(30, 4), (30, 5)]) (Fr.put (rs := [59]) (fs := [(30, 4), (30, 5)]) (Fr.put (rs := [59]) (fs := [(30, 4), (30, 5)]) (Fr.row (rs := [59]) (fs := [(30, 4), (30, 5)]) Fr.rf eG_12 (by decide)) eG_16 (Or.inr (by decide))) eG_18 (Or.inr (by decide))) eG_19 (Or.inr (by decide))) eG_21 (by decide)), ((gp_row eG_21 (by decide)).trans ((gp_ne eG_19 (by decide)).trans (gp_eq eG_18))), ((gp_row eG_21 (by decide)).trans (gp_eq eG_19)), (rw_row eG_21).trans (by rw [show G_19.1 58 = (G.1 58) from (rw_put eG_19 (by decide)).trans ((rw_put eG_18 (by decide)).trans ((rw_put eG_16 (by decide)).trans (rw_rne eG_12 (by decide)))), show G_19.1 59 = (va_cpy (G.1 59) (G.1 59) ((10 : Int32).toNatClampNeg) ((0 : Int32).toNatClampNeg) ((400 : Int32).toNatClampNeg)) from (rw_put eG_19 (by decide)).trans ((rw_put eG_18 (by decide)).trans ((rw_put eG_16 (by decide)).trans (rw_row eG_12)))])⟩⟩)⟩), wd_t ht hW⟩, hS.F ht⟩) hS.2.2 dX1_keepAct_68

set_option maxHeartbeats 4000000 in
set_option maxRecDepth 100000 in
theorem k_eBack (l : Launch) (D : va_G) (k : KT) (A : Nat → Prop) (a : Nat → Nat) (z : SK) (G : GS)  (he : (G.1 30 4).toInt + (G.1 30 5).toInt ≤ 40) : Met l yX1_takeBack (WS yX1_takeBack cX1_takeBack 1 (some .boolean)) ({ frames := 1, cells := 0, slots := 0, locals := 40 }) (va_Pc [.ref (a 30)] (cW D k A a z G)) (va_Qi (fun (r : Int32) (G1 : GS) => P_eBack G r G1) (fun (G1 : GS) t => Wd D k A a G1 t.heap) A) 0 0 A := by
  refine Met.ofW (cc := cX1_takeBack) (maxL := 1) (ret := (some .boolean)) (by decide) rfl ?_
  intro p e s m args below meth c s₁ B hml hv
  obtain ⟨rfl, hW, hB_G, hK, hZ⟩ := hv
  have hx := B.exec
  have hb := B.bytes
  have hr := B.returns
  have hts := atoms_spec (ws := WS yX1_takeBack cX1_takeBack 1 (some .boolean)) B.pre
  have hgd : ∀ w ∈ gd, w ∈ WS yX1_takeBack cX1_takeBack 1 (some .boolean) := fun w h => List.mem_cons_of_mem _ h
  have hg : ∀ w ∈ gd, w.before _ s = true := fun w h => hts w (hgd w h)
  have hown : s.vm.findClass RX1 = some m.cls := findClass_of_methodNamed B.named
  have hS : va_S A s.heap s.heap [] := va_S.rf
  have hF : Fr [58] [(30, 4), (30, 5)] G G := Fr.rf
  have hl := lv_entry ([.ref (a 30)]) (n := 1) (Nat.le_of_ble_eq_true rfl)
  rw [lg_entry_eq]
  generalize (lg_sl ([.ref (a 30)]) ++ List.replicate (1 - (lg_sl ([.ref (a 30)])).length) Slot.unset).toArray = ls at hl ⊢
  have hl : lv_has ls 1 [(0, .ref (a 30))] := hl
  refine lv_aload_n hx hb dX1_takeBack_0 rfl (lv_at hl 0 rfl) ?_
  have b_1 : 0 ≤ (G.1 30 4).toInt ∧ (G.1 30 4).toInt ≤ 40 := bd_30_4 hB_G
  refine S_getI (v := (G.1 30 4)) (C := RX1) (T := TX1) (N := 6) hx hb hg iX1 hown hK hW kd_30 rfl 4 (lt_b rfl) (hg (Cond.fieldLink RX1 34 "SlabWalk$Earnest" "done" "I") m497) (fun _ h9 => h9) rfl rfl dX1_takeBack_1 ?_
  refine lv_if_gt (tgt := 9) hx hb dX1_takeBack_4 rfl (fun c_2 => ?_) (fun c_2 => ?_)
  · have c_2 : 0 < (G.1 30 4).toInt := xI_lt rfl rfl c_2
    refine lv_aload_n hx hb dX1_takeBack_9 rfl (lv_at hl 0 rfl) ?_
    refine lv_dup hx hb dX1_takeBack_10 rfl ?_
    refine S_getI (v := (G.1 30 4)) (C := RX1) (T := TX1) (N := 6) hx hb hg iX1 hown hK hW kd_30 rfl 4 (lt_b rfl) (hg (Cond.fieldLink RX1 34 "SlabWalk$Earnest" "done" "I") m497) (fun _ h9 => h9) rfl rfl dX1_takeBack_11 ?_
    refine ic_1 hx hb dX1_takeBack_14 ?_
    refine lv_isub hx hb dX1_takeBack_15 ?_
    refine lv_topi (fun y_3 ey_3 => ?_)
    have ty_3 : y_3.toInt = (G.1 30 4).toInt - 1 := xI_sub rfl rfl ey_3 ((by first | exact ok_137 c_2 | omega)) ((by first | exact ok_207 b_1.2 | omega))
    refine S_putI (ty := .int) (C := RX1) (T := TX1) (N := 6) hx hb hg iX1 tyX1 tyX1_ok nmX1 hown hK hW hS kd_30 rfl 4 (lt_b rfl) (hg (Cond.fieldLink RX1 34 "SlabWalk$Earnest" "done" "I") m497) (fun _ h9 => h9) rfl (by decide +kernel) rfl rfl rfl dX1_takeBack_16 (fun G_4 H locs eG_4 hW hS => ?_)
    have hB_G_4 : Bd G_4 := hB_G.put (V := y_3.toInt) (lo := 0) (hi := 40) eG_4 rfl rfl rfl ((by first | exact ok_139 c_2 ty_3 | omega)) ((by first | exact ok_208 b_1.2 ty_3 | omega)) (hB_G.2.put eG_4 rfl)
    have hF := hF.put eG_4 (Or.inr (by decide))
    refine lv_aload_n hx hb dX1_takeBack_19 rfl (lv_at hl 0 rfl) ?_
    refine lv_dup hx hb dX1_takeBack_20 rfl ?_
    have b_5 : 0 ≤ (G.1 30 5).toInt ∧ (G.1 30 5).toInt ≤ 40 := bd_30_5 hB_G
    refine S_getI (v := (G.1 30 5)) (C := RX1) (T := TX1) (N := 6) hx hb hg iX1 hown hK hW kd_30 rfl 5 (lt_b rfl) (hg (Cond.fieldLink RX1 37 "SlabWalk$Earnest" "undone" "I") m499) (fun _ h9 => h9) rfl (gp_ne eG_4 (by decide)) dX1_takeBack_21 ?_
    refine ic_1 hx hb dX1_takeBack_24 ?_
    refine lv_iadd hx hb dX1_takeBack_25 ?_
    refine lv_topi (fun y_6 ey_6 => ?_)
    have ty_6 : y_6.toInt = (G.1 30 5).toInt + 1 := xI_add rfl rfl ey_6 ((by first | exact ok_21 b_5.1 | omega)) ((by first | exact ok_201 b_5.2 | omega))
    refine S_putI (ty := .int) (C := RX1) (T := TX1) (N := 6) hx hb hg iX1 tyX1 tyX1_ok nmX1 hown hK hW hS kd_30 rfl 5 (lt_b rfl) (hg (Cond.fieldLink RX1 37 "SlabWalk$Earnest" "undone" "I") m499) (fun _ h9 => h9) rfl (by decide +kernel) rfl rfl rfl dX1_takeBack_26 (fun G_7 H locs eG_7 hW hS => ?_)
    have hB_G_7 : Bd G_7 := hB_G_4.put (V := y_6.toInt) (lo := 0) (hi := 40) eG_7 rfl rfl rfl ((by first | exact ok_23 b_5.1 ty_6 | omega)) ((by first | exact ok_209 he c_2 b_5.2 ty_6 | omega)) (hB_G_4.2.put eG_7 rfl)
    have hF := hF.put eG_7 (Or.inr (by decide))
    refine lv_aload_n hx hb dX1_takeBack_29 rfl (lv_at hl 0 rfl) ?_
    refine S_getR (n := 59) (C := RX1) (T := TX1) (N := 6) hx hb hg iX1 hown hK hW kd_30 rfl 1 (lt_b rfl) (hg (Cond.fieldLink RX1 15 "SlabWalk$Earnest" "kept" "[I") m494) (fun _ h9 => h9) rfl dX1_takeBack_30 ?_
    refine lv_aload_n hx hb dX1_takeBack_33 rfl (lv_at hl 0 rfl) ?_
    refine S_getI (v := y_3) (C := RX1) (T := TX1) (N := 6) hx hb hg iX1 hown hK hW kd_30 rfl 4 (lt_b rfl) (hg (Cond.fieldLink RX1 34 "SlabWalk$Earnest" "done" "I") m497) (fun _ h9 => h9) rfl ((gp_ne eG_7 (by decide)).trans (gp_eq eG_4)) dX1_takeBack_34 ?_
    refine lv_bipush (v := 10) hx hb dX1_takeBack_37 (by decide) ?_
    refine lv_imul hx hb dX1_takeBack_39 ?_
    refine lv_topi (fun y_8 ey_8 => ?_)
    have ty_8 : y_8.toInt = y_3.toInt * 10 := xI_mul rfl rfl ey_8 ((by first | exact ok_210 c_2 ty_3 | omega)) ((by first | exact ok_211 b_1.2 ty_3 | omega))
    refine lv_aload_n hx hb dX1_takeBack_40 rfl (lv_at hl 0 rfl) ?_
    refine S_getR (n := 58) (C := RX1) (T := TX1) (N := 6) hx hb hg iX1 hown hK hW kd_30 rfl 0 (lt_b rfl) (hg (Cond.fieldLink RX1 11 "SlabWalk$Earnest" "now" "[I") m492) (fun _ h9 => h9) rfl dX1_takeBack_41 ?_
    refine ic_0 hx hb dX1_takeBack_44 ?_
    refine lv_bipush (v := 10) hx hb dX1_takeBack_45 (by decide) ?_
    have qc_10 : (0 : Int32).toInt = 0 := rfl
    have qc_11 : (10 : Int32).toInt = 10 := rfl
    refine S_copy hx hb (by rw [hml]; exact hl.1.symm) hown (hg (Cond.methodLink RX1 40 arraycopyName) m567) (hg (Cond.native arraycopyName) m569) (hg (Cond.static arraycopyName) m568) (hg (Cond.initialized "java/lang/System") m130) hK hW hS kd_59 kd_58 (by omega) (by decide) (by decide) (by omega) (by decide) (Nat.le_of_ble_eq_true rfl) (by decide +kernel) dX1_takeBack_47 (fun G_9 H locs eG_9 hW hS => ?_)
    have hB_G_9 : Bd G_9 := hB_G_7.rowp eG_9 (fun _ => ⟨(tI_rng _).1, (tI_rng _).2⟩) (hB_G_7.2.row eG_9 (fun _ => rfl))
    have hF := hF.row eG_9 (by decide)
    refine ic_1 hx hb dX1_takeBack_50 ?_
    have g_12 : (G_9.1 30 4).toInt = y_3.toInt := (congrArg Int32.toInt (show G_9.1 30 4 = y_3 from ((gp_row eG_9 (by decide)).trans ((gp_ne eG_7 (by decide)).trans (gp_eq eG_4)))))
    have g_13 : (G_9.1 30 5).toInt = y_6.toInt := (congrArg Int32.toInt (show G_9.1 30 5 = y_6 from ((gp_row eG_9 (by decide)).trans (gp_eq eG_7))))
    exact W.zret (v := 1) hx hb hr (by decide) (fun t ht _ => ⟨⟨1, G_9, rfl, (P_eBack_mk ⟨hB_G_9, hF, ⟨by decide, by decide⟩, (by have hq : (1 : Int32).toInt = 1 := rfl; (try dsimp only); omega), (Or.inl ⟨c_2, ⟨y_3, ty_3, ⟨y_6, ty_6, ⟨y_8, ty_8, ⟨rfl, (Fr.row (rs := [58]) (fs := [(30, 4), (30, 5)]) (Fr.put (rs := [58]) (fs := [(30, 4), (30, 5)]) (Fr.put (rs := [58]) (fs := [(30, 4), (30, 5)]) Fr.rf eG_4 (Or.inr (by decide))) eG_7 (Or.inr (by decide))) eG_9 (by decide)), ((gp_row eG_9 (by decide)).trans ((gp_ne eG_7 (by decide)).trans (gp_eq eG_4))), ((gp_row eG_9 (by decide)).trans (gp_eq eG_7)), (rw_row eG_9).trans (by rw [show G_7.1 59 = (G.1 59) from (rw_put eG_7 (by decide)).trans (rw_put eG_4 (by decide)), show G_7.1 58 = (G.1 58) from (rw_put eG_7 (by decide)).trans (rw_put eG_4 (by decide))])⟩⟩⟩⟩⟩)⟩), wd_t ht hW⟩, hS.F ht⟩) hS.2.2 dX1_takeBack_51
  · have c_2 : (G.1 30 4).toInt ≤ 0 := xI_nlt rfl rfl c_2
    refine ic_0 hx hb dX1_takeBack_7 ?_
    have b_14 : 0 ≤ (G.1 30 5).toInt ∧ (G.1 30 5).toInt ≤ 40 := bd_30_5 hB_G
    exact W.zret (v := 0) hx hb hr (by decide) (fun t ht _ => ⟨⟨0, G, rfl, (P_eBack_mk ⟨hB_G, hF, ⟨by decide, by decide⟩, (by have hq : (0 : Int32).toInt = 0 := rfl; (try dsimp only); omega), (Or.inr ⟨c_2, ⟨rfl, rfl⟩⟩)⟩), wd_t ht hW⟩, hS.F ht⟩) hS.2.2 dX1_takeBack_8

set_option maxHeartbeats 4000000 in
set_option maxRecDepth 100000 in
theorem k_eAgain (l : Launch) (D : va_G) (k : KT) (A : Nat → Prop) (a : Nat → Nat) (z : SK) (G : GS)  (he : (G.1 30 4).toInt + (G.1 30 5).toInt ≤ 40) : Met l yX1_doAgain (WS yX1_doAgain cX1_doAgain 1 (some .boolean)) ({ frames := 1, cells := 0, slots := 0, locals := 40 }) (va_Pc [.ref (a 30)] (cW D k A a z G)) (va_Qi (fun (r : Int32) (G1 : GS) => P_eAgain G r G1) (fun (G1 : GS) t => Wd D k A a G1 t.heap) A) 0 0 A := by
  refine Met.ofW (cc := cX1_doAgain) (maxL := 1) (ret := (some .boolean)) (by decide) rfl ?_
  intro p e s m args below meth c s₁ B hml hv
  obtain ⟨rfl, hW, hB_G, hK, hZ⟩ := hv
  have hx := B.exec
  have hb := B.bytes
  have hr := B.returns
  have hts := atoms_spec (ws := WS yX1_doAgain cX1_doAgain 1 (some .boolean)) B.pre
  have hgd : ∀ w ∈ gd, w ∈ WS yX1_doAgain cX1_doAgain 1 (some .boolean) := fun w h => List.mem_cons_of_mem _ h
  have hg : ∀ w ∈ gd, w.before _ s = true := fun w h => hts w (hgd w h)
  have hown : s.vm.findClass RX1 = some m.cls := findClass_of_methodNamed B.named
  have hS : va_S A s.heap s.heap [] := va_S.rf
  have hF : Fr [58] [(30, 4), (30, 5)] G G := Fr.rf
  have hl := lv_entry ([.ref (a 30)]) (n := 1) (Nat.le_of_ble_eq_true rfl)
  rw [lg_entry_eq]
  generalize (lg_sl ([.ref (a 30)]) ++ List.replicate (1 - (lg_sl ([.ref (a 30)])).length) Slot.unset).toArray = ls at hl ⊢
  have hl : lv_has ls 1 [(0, .ref (a 30))] := hl
  refine lv_aload_n hx hb dX1_doAgain_0 rfl (lv_at hl 0 rfl) ?_
  have b_1 : 0 ≤ (G.1 30 5).toInt ∧ (G.1 30 5).toInt ≤ 40 := bd_30_5 hB_G
  refine S_getI (v := (G.1 30 5)) (C := RX1) (T := TX1) (N := 6) hx hb hg iX1 hown hK hW kd_30 rfl 5 (lt_b rfl) (hg (Cond.fieldLink RX1 37 "SlabWalk$Earnest" "undone" "I") m499) (fun _ h9 => h9) rfl rfl dX1_doAgain_1 ?_
  refine lv_if_gt (tgt := 9) hx hb dX1_doAgain_4 rfl (fun c_2 => ?_) (fun c_2 => ?_)
  · have c_2 : 0 < (G.1 30 5).toInt := xI_lt rfl rfl c_2
    refine lv_aload_n hx hb dX1_doAgain_9 rfl (lv_at hl 0 rfl) ?_
    refine lv_dup hx hb dX1_doAgain_10 rfl ?_
    have b_3 : 0 ≤ (G.1 30 4).toInt ∧ (G.1 30 4).toInt ≤ 40 := bd_30_4 hB_G
    refine S_getI (v := (G.1 30 4)) (C := RX1) (T := TX1) (N := 6) hx hb hg iX1 hown hK hW kd_30 rfl 4 (lt_b rfl) (hg (Cond.fieldLink RX1 34 "SlabWalk$Earnest" "done" "I") m497) (fun _ h9 => h9) rfl rfl dX1_doAgain_11 ?_
    refine ic_1 hx hb dX1_doAgain_14 ?_
    refine lv_iadd hx hb dX1_doAgain_15 ?_
    refine lv_topi (fun y_4 ey_4 => ?_)
    have ty_4 : y_4.toInt = (G.1 30 4).toInt + 1 := xI_add rfl rfl ey_4 ((by first | exact ok_21 b_3.1 | omega)) ((by first | exact ok_201 b_3.2 | omega))
    refine S_putI (ty := .int) (C := RX1) (T := TX1) (N := 6) hx hb hg iX1 tyX1 tyX1_ok nmX1 hown hK hW hS kd_30 rfl 4 (lt_b rfl) (hg (Cond.fieldLink RX1 34 "SlabWalk$Earnest" "done" "I") m497) (fun _ h9 => h9) rfl (by decide +kernel) rfl rfl rfl dX1_doAgain_16 (fun G_5 H locs eG_5 hW hS => ?_)
    have hB_G_5 : Bd G_5 := hB_G.put (V := y_4.toInt) (lo := 0) (hi := 40) eG_5 rfl rfl rfl ((by first | exact ok_23 b_3.1 ty_4 | omega)) ((by first | exact ok_212 he c_2 b_3.2 ty_4 | omega)) (hB_G.2.put eG_5 rfl)
    have hF := hF.put eG_5 (Or.inr (by decide))
    refine lv_aload_n hx hb dX1_doAgain_19 rfl (lv_at hl 0 rfl) ?_
    refine lv_dup hx hb dX1_doAgain_20 rfl ?_
    refine S_getI (v := (G.1 30 5)) (C := RX1) (T := TX1) (N := 6) hx hb hg iX1 hown hK hW kd_30 rfl 5 (lt_b rfl) (hg (Cond.fieldLink RX1 37 "SlabWalk$Earnest" "undone" "I") m499) (fun _ h9 => h9) rfl ((gp_ne eG_5 (by decide)).trans (rfl)) dX1_doAgain_21 ?_
    refine ic_1 hx hb dX1_doAgain_24 ?_
    refine lv_isub hx hb dX1_doAgain_25 ?_
    refine lv_topi (fun y_6 ey_6 => ?_)
    have ty_6 : y_6.toInt = (G.1 30 5).toInt - 1 := xI_sub rfl rfl ey_6 ((by first | exact ok_137 c_2 | omega)) ((by first | exact ok_207 b_1.2 | omega))
    refine S_putI (ty := .int) (C := RX1) (T := TX1) (N := 6) hx hb hg iX1 tyX1 tyX1_ok nmX1 hown hK hW hS kd_30 rfl 5 (lt_b rfl) (hg (Cond.fieldLink RX1 37 "SlabWalk$Earnest" "undone" "I") m499) (fun _ h9 => h9) rfl (by decide +kernel) rfl rfl rfl dX1_doAgain_26 (fun G_7 H locs eG_7 hW hS => ?_)
    have hB_G_7 : Bd G_7 := hB_G_5.put (V := y_6.toInt) (lo := 0) (hi := 40) eG_7 rfl rfl rfl ((by first | exact ok_139 c_2 ty_6 | omega)) ((by first | exact ok_208 b_1.2 ty_6 | omega)) (hB_G_5.2.put eG_7 rfl)
    have hF := hF.put eG_7 (Or.inr (by decide))
    refine lv_aload_n hx hb dX1_doAgain_29 rfl (lv_at hl 0 rfl) ?_
    refine S_getR (n := 59) (C := RX1) (T := TX1) (N := 6) hx hb hg iX1 hown hK hW kd_30 rfl 1 (lt_b rfl) (hg (Cond.fieldLink RX1 15 "SlabWalk$Earnest" "kept" "[I") m494) (fun _ h9 => h9) rfl dX1_doAgain_30 ?_
    refine lv_aload_n hx hb dX1_doAgain_33 rfl (lv_at hl 0 rfl) ?_
    refine S_getI (v := y_4) (C := RX1) (T := TX1) (N := 6) hx hb hg iX1 hown hK hW kd_30 rfl 4 (lt_b rfl) (hg (Cond.fieldLink RX1 34 "SlabWalk$Earnest" "done" "I") m497) (fun _ h9 => h9) rfl ((gp_ne eG_7 (by decide)).trans (gp_eq eG_5)) dX1_doAgain_34 ?_
    refine lv_bipush (v := 10) hx hb dX1_doAgain_37 (by decide) ?_
    refine lv_imul hx hb dX1_doAgain_39 ?_
    refine lv_topi (fun y_8 ey_8 => ?_)
    have ty_8 : y_8.toInt = y_4.toInt * 10 := xI_mul rfl rfl ey_8 ((by first | exact ok_203 b_3.1 ty_4 | omega)) ((by first | exact ok_204 b_3.2 ty_4 | omega))
    refine lv_aload_n hx hb dX1_doAgain_40 rfl (lv_at hl 0 rfl) ?_
    refine S_getR (n := 58) (C := RX1) (T := TX1) (N := 6) hx hb hg iX1 hown hK hW kd_30 rfl 0 (lt_b rfl) (hg (Cond.fieldLink RX1 11 "SlabWalk$Earnest" "now" "[I") m492) (fun _ h9 => h9) rfl dX1_doAgain_41 ?_
    refine ic_0 hx hb dX1_doAgain_44 ?_
    refine lv_bipush (v := 10) hx hb dX1_doAgain_45 (by decide) ?_
    have qc_10 : (0 : Int32).toInt = 0 := rfl
    have qc_11 : (10 : Int32).toInt = 10 := rfl
    refine S_copy hx hb (by rw [hml]; exact hl.1.symm) hown (hg (Cond.methodLink RX1 40 arraycopyName) m567) (hg (Cond.native arraycopyName) m569) (hg (Cond.static arraycopyName) m568) (hg (Cond.initialized "java/lang/System") m130) hK hW hS kd_59 kd_58 (by omega) (by decide) (by decide) (by omega) (by decide) (Nat.le_of_ble_eq_true rfl) (by decide +kernel) dX1_doAgain_47 (fun G_9 H locs eG_9 hW hS => ?_)
    have hB_G_9 : Bd G_9 := hB_G_7.rowp eG_9 (fun _ => ⟨(tI_rng _).1, (tI_rng _).2⟩) (hB_G_7.2.row eG_9 (fun _ => rfl))
    have hF := hF.row eG_9 (by decide)
    refine ic_1 hx hb dX1_doAgain_50 ?_
    have g_12 : (G_9.1 30 4).toInt = y_4.toInt := (congrArg Int32.toInt (show G_9.1 30 4 = y_4 from ((gp_row eG_9 (by decide)).trans ((gp_ne eG_7 (by decide)).trans (gp_eq eG_5)))))
    have g_13 : (G_9.1 30 5).toInt = y_6.toInt := (congrArg Int32.toInt (show G_9.1 30 5 = y_6 from ((gp_row eG_9 (by decide)).trans (gp_eq eG_7))))
    exact W.zret (v := 1) hx hb hr (by decide) (fun t ht _ => ⟨⟨1, G_9, rfl, (P_eAgain_mk ⟨hB_G_9, hF, ⟨by decide, by decide⟩, (by have hq : (1 : Int32).toInt = 1 := rfl; (try dsimp only); omega), (Or.inl ⟨c_2, ⟨y_4, ty_4, ⟨y_6, ty_6, ⟨y_8, ty_8, ⟨rfl, (Fr.row (rs := [58]) (fs := [(30, 4), (30, 5)]) (Fr.put (rs := [58]) (fs := [(30, 4), (30, 5)]) (Fr.put (rs := [58]) (fs := [(30, 4), (30, 5)]) Fr.rf eG_5 (Or.inr (by decide))) eG_7 (Or.inr (by decide))) eG_9 (by decide)), ((gp_row eG_9 (by decide)).trans ((gp_ne eG_7 (by decide)).trans (gp_eq eG_5))), ((gp_row eG_9 (by decide)).trans (gp_eq eG_7)), (rw_row eG_9).trans (by rw [show G_7.1 59 = (G.1 59) from (rw_put eG_7 (by decide)).trans (rw_put eG_5 (by decide)), show G_7.1 58 = (G.1 58) from (rw_put eG_7 (by decide)).trans (rw_put eG_5 (by decide))])⟩⟩⟩⟩⟩)⟩), wd_t ht hW⟩, hS.F ht⟩) hS.2.2 dX1_doAgain_51
  · have c_2 : (G.1 30 5).toInt ≤ 0 := xI_nlt rfl rfl c_2
    refine ic_0 hx hb dX1_doAgain_7 ?_
    have b_14 : 0 ≤ (G.1 30 4).toInt ∧ (G.1 30 4).toInt ≤ 40 := bd_30_4 hB_G
    exact W.zret (v := 0) hx hb hr (by decide) (fun t ht _ => ⟨⟨0, G, rfl, (P_eAgain_mk ⟨hB_G, hF, ⟨by decide, by decide⟩, (by have hq : (0 : Int32).toInt = 0 := rfl; (try dsimp only); omega), (Or.inr ⟨c_2, ⟨rfl, rfl⟩⟩)⟩), wd_t ht hW⟩, hS.F ht⟩) hS.2.2 dX1_doAgain_8

set_option maxHeartbeats 4000000 in
set_option maxRecDepth 100000 in
theorem k_eIn (l : Launch) (D : va_G) (k : KT) (A : Nat → Prop) (a : Nat → Nat) (z : SK) (G : GS) (p0 : Int32) (he : (G.1 30 4).toInt + (G.1 30 5).toInt ≤ 40) : Met l yX1_keepIn (WS yX1_keepIn cX1_keepIn 2 (some .boolean)) ({ frames := 1, cells := 0, slots := 0, locals := 40 }) (va_Pc [.ref (a 30), .int p0] (cW D k A a z G)) (va_Qi (fun (r : Int32) (G1 : GS) => P_eIn p0 G r G1) (fun (G1 : GS) t => Wd D k A a G1 t.heap) A) 0 0 A := by
  refine Met.ofW (cc := cX1_keepIn) (maxL := 2) (ret := (some .boolean)) (by decide) rfl ?_
  intro p e s m args below meth c s₁ B hml hv
  obtain ⟨rfl, hW, hB_G, hK, hZ⟩ := hv
  have hx := B.exec
  have hb := B.bytes
  have hr := B.returns
  have hts := atoms_spec (ws := WS yX1_keepIn cX1_keepIn 2 (some .boolean)) B.pre
  have hgd : ∀ w ∈ gd, w ∈ WS yX1_keepIn cX1_keepIn 2 (some .boolean) := fun w h => List.mem_cons_of_mem _ h
  have hg : ∀ w ∈ gd, w.before _ s = true := fun w h => hts w (hgd w h)
  have hown : s.vm.findClass RX1 = some m.cls := findClass_of_methodNamed B.named
  have hS : va_S A s.heap s.heap [] := va_S.rf
  have hF : Fr [60] [(30, 3)] G G := Fr.rf
  have hl := lv_entry ([.ref (a 30), .int p0]) (n := 2) (Nat.le_of_ble_eq_true rfl)
  rw [lg_entry_eq]
  generalize (lg_sl ([.ref (a 30), .int p0]) ++ List.replicate (2 - (lg_sl ([.ref (a 30), .int p0])).length) Slot.unset).toArray = ls at hl ⊢
  have hl : lv_has ls 2 [(0, .ref (a 30)), (1, .int p0)] := hl
  refine lv_iload_n hx hb dX1_keepIn_0 rfl (lv_at hl 1 rfl) ?_
  refine lv_if_lt (tgt := 9) hx hb dX1_keepIn_1 rfl (fun c_1 => ?_) (fun c_1 => ?_)
  · have c_1 : p0.toInt < 0 := xI_lt rfl rfl c_1
    refine ic_0 hx hb dX1_keepIn_9 ?_
    have b_2 : 0 ≤ (G.1 30 4).toInt ∧ (G.1 30 4).toInt ≤ 40 := bd_30_4 hB_G
    have b_3 : 0 ≤ (G.1 30 5).toInt ∧ (G.1 30 5).toInt ≤ 40 := bd_30_5 hB_G
    exact W.zret (v := 0) hx hb hr (by decide) (fun t ht _ => ⟨⟨0, G, rfl, (P_eIn_mk ⟨hB_G, hF, ⟨by decide, by decide⟩, (by have hq : (0 : Int32).toInt = 0 := rfl; (try dsimp only); omega), (Or.inl ⟨c_1, ⟨rfl, rfl⟩⟩)⟩), wd_t ht hW⟩, hS.F ht⟩) hS.2.2 dX1_keepIn_10
  · have c_1 : 0 ≤ p0.toInt := xI_nlt rfl rfl c_1
    refine lv_iload_n hx hb dX1_keepIn_4 rfl (lv_at hl 1 rfl) ?_
    refine ic_3 hx hb dX1_keepIn_5 ?_
    refine lv_icmp_lt (tgt := 11) hx hb dX1_keepIn_6 rfl (fun c_4 => ?_) (fun c_4 => ?_)
    · have c_4 : p0.toInt < 3 := xI_lt rfl rfl c_4
      refine lv_aload_n hx hb dX1_keepIn_11 rfl (lv_at hl 0 rfl) ?_
      refine S_getR (n := 58) (C := RX1) (T := TX1) (N := 6) hx hb hg iX1 hown hK hW kd_30 rfl 0 (lt_b rfl) (hg (Cond.fieldLink RX1 11 "SlabWalk$Earnest" "now" "[I") m492) (fun _ h9 => h9) rfl dX1_keepIn_12 ?_
      refine ic_0 hx hb dX1_keepIn_15 ?_
      refine lv_aload_n hx hb dX1_keepIn_16 rfl (lv_at hl 0 rfl) ?_
      refine S_getR (n := 60) (C := RX1) (T := TX1) (N := 6) hx hb hg iX1 hown hK hW kd_30 rfl 2 (lt_b rfl) (hg (Cond.fieldLink RX1 18 "SlabWalk$Earnest" "boxes" "[I") m495) (fun _ h9 => h9) rfl dX1_keepIn_17 ?_
      refine lv_iload_n hx hb dX1_keepIn_20 rfl (lv_at hl 1 rfl) ?_
      refine lv_bipush (v := 10) hx hb dX1_keepIn_21 (by decide) ?_
      refine lv_imul hx hb dX1_keepIn_23 ?_
      refine lv_topi (fun y_5 ey_5 => ?_)
      have ty_5 : y_5.toInt = p0.toInt * 10 := xI_mul rfl rfl ey_5 ((by first | exact ok_213 c_1 | omega)) ((by first | exact ok_214 c_4 | omega))
      refine lv_bipush (v := 10) hx hb dX1_keepIn_24 (by decide) ?_
      have qc_7 : (0 : Int32).toInt = 0 := rfl
      have qc_8 : (10 : Int32).toInt = 10 := rfl
      refine S_copy hx hb (by rw [hml]; exact hl.1.symm) hown (hg (Cond.methodLink RX1 40 arraycopyName) m567) (hg (Cond.native arraycopyName) m569) (hg (Cond.static arraycopyName) m568) (hg (Cond.initialized "java/lang/System") m130) hK hW hS kd_58 kd_60 (by decide) (by omega) (by decide) (by decide) (by omega) (Nat.le_of_ble_eq_true rfl) (by decide +kernel) dX1_keepIn_26 (fun G_6 H locs eG_6 hW hS => ?_)
      have hB_G_6 : Bd G_6 := hB_G.rowp eG_6 (fun _ => ⟨(tI_rng _).1, (tI_rng _).2⟩) (hB_G.2.row eG_6 (fun _ => rfl))
      have hF := hF.row eG_6 (by decide)
      refine lv_aload_n hx hb dX1_keepIn_29 rfl (lv_at hl 0 rfl) ?_
      refine lv_dup hx hb dX1_keepIn_30 rfl ?_
      refine S_getI (v := (G.1 30 3)) (C := RX1) (T := TX1) (N := 6) hx hb hg iX1 hown hK hW kd_30 rfl 3 (lt_b rfl) (hg (Cond.fieldLink RX1 27 "SlabWalk$Earnest" "full" "I") m496) (fun _ h9 => h9) rfl (gp_row eG_6 (by decide)) dX1_keepIn_31 ?_
      refine ic_1 hx hb dX1_keepIn_34 ?_
      refine lv_iload_n hx hb dX1_keepIn_35 rfl (lv_at hl 1 rfl) ?_
      refine lv_ishl hx hb dX1_keepIn_36 ?_
      refine lv_topi (fun y_9 ey_9 => ?_)
      have ty_9 := sh5 (Y := p0.toInt) rfl ey_9 rfl (by omega) (by omega)
      refine lv_ior hx hb dX1_keepIn_37 ?_
      refine lv_topi (fun y_10 ey_10 => ?_)
      refine S_putI (ty := .int) (C := RX1) (T := TX1) (N := 6) hx hb hg iX1 tyX1 tyX1_ok nmX1 hown hK hW hS kd_30 rfl 3 (lt_b rfl) (hg (Cond.fieldLink RX1 27 "SlabWalk$Earnest" "full" "I") m496) (fun _ h9 => h9) rfl (by decide +kernel) rfl rfl rfl dX1_keepIn_38 (fun G_11 H locs eG_11 hW hS => ?_)
      have hB_G_11 : Bd G_11 := hB_G_6.put (lo := (-2147483648)) (hi := 2147483647) eG_11 rfl rfl rfl (tI_rng _).1 (tI_rng _).2 (hB_G_6.2.put eG_11 rfl)
      have hF := hF.put eG_11 (Or.inr (by decide))
      refine ic_1 hx hb dX1_keepIn_41 ?_
      have b_12 : 0 ≤ (G.1 30 4).toInt ∧ (G.1 30 4).toInt ≤ 40 := bd_30_4 hB_G
      have g_13 : (G_11.1 30 4).toInt = (G.1 30 4).toInt := (congrArg Int32.toInt (show G_11.1 30 4 = (G.1 30 4) from ((gp_ne eG_11 (by decide)).trans (gp_row eG_6 (by decide)))))
      have b_14 : 0 ≤ (G.1 30 5).toInt ∧ (G.1 30 5).toInt ≤ 40 := bd_30_5 hB_G
      have g_15 : (G_11.1 30 5).toInt = (G.1 30 5).toInt := (congrArg Int32.toInt (show G_11.1 30 5 = (G.1 30 5) from ((gp_ne eG_11 (by decide)).trans (gp_row eG_6 (by decide)))))
      exact W.zret (v := 1) hx hb hr (by decide) (fun t ht _ => ⟨⟨1, G_11, rfl, (P_eIn_mk ⟨hB_G_11, hF, ⟨by decide, by decide⟩, (by have hq : (1 : Int32).toInt = 1 := rfl; (try dsimp only); omega), (Or.inr ⟨c_1, (Or.inl ⟨c_4, ⟨y_5, ty_5, ⟨y_9, ey_9, ⟨y_10, ey_10, ⟨rfl, (Fr.put (rs := [60]) (fs := [(30, 3)]) (Fr.row (rs := [60]) (fs := [(30, 3)]) Fr.rf eG_6 (by decide)) eG_11 (Or.inr (by decide))), (gp_eq eG_11), (rw_put eG_11 (by decide)).trans (rw_row eG_6)⟩⟩⟩⟩⟩)⟩)⟩), wd_t ht hW⟩, hS.F ht⟩) hS.2.2 dX1_keepIn_42
    · have c_4 : 3 ≤ p0.toInt := xI_nlt rfl rfl c_4
      refine ic_0 hx hb dX1_keepIn_9 ?_
      have b_16 : 0 ≤ (G.1 30 4).toInt ∧ (G.1 30 4).toInt ≤ 40 := bd_30_4 hB_G
      have b_17 : 0 ≤ (G.1 30 5).toInt ∧ (G.1 30 5).toInt ≤ 40 := bd_30_5 hB_G
      exact W.zret (v := 0) hx hb hr (by decide) (fun t ht _ => ⟨⟨0, G, rfl, (P_eIn_mk ⟨hB_G, hF, ⟨by decide, by decide⟩, (by have hq : (0 : Int32).toInt = 0 := rfl; (try dsimp only); omega), (Or.inr ⟨c_1, (Or.inr ⟨c_4, ⟨rfl, rfl⟩⟩)⟩)⟩), wd_t ht hW⟩, hS.F ht⟩) hS.2.2 dX1_keepIn_10

set_option maxHeartbeats 4000000 in
set_option maxRecDepth 100000 in
theorem k_eFrom (l : Launch) (D : va_G) (k : KT) (A : Nat → Prop) (a : Nat → Nat) (z : SK) (G : GS) (p0 : Int32) (he : (G.1 30 4).toInt + (G.1 30 5).toInt ≤ 40) : Met l yX1_bringFrom (WS yX1_bringFrom cX1_bringFrom 2 (some .boolean)) ({ frames := 2, cells := 0, slots := 0, locals := 60 }) (va_Pc [.ref (a 30), .int p0] (cW D k A a z G)) (va_Qi (fun (r : Int32) (G1 : GS) => P_eFrom p0 G r G1) (fun (G1 : GS) t => Wd D k A a G1 t.heap) A) 0 0 A := by
  refine Met.ofW (cc := cX1_bringFrom) (maxL := 2) (ret := (some .boolean)) (by decide) rfl ?_
  intro p e s m args below meth c s₁ B hml hv
  obtain ⟨rfl, hW, hB_G, hK, hZ⟩ := hv
  have hx := B.exec
  have hb := B.bytes
  have hr := B.returns
  have hts := atoms_spec (ws := WS yX1_bringFrom cX1_bringFrom 2 (some .boolean)) B.pre
  have hgd : ∀ w ∈ gd, w ∈ WS yX1_bringFrom cX1_bringFrom 2 (some .boolean) := fun w h => List.mem_cons_of_mem _ h
  have hg : ∀ w ∈ gd, w.before _ s = true := fun w h => hts w (hgd w h)
  have hown : s.vm.findClass RX1 = some m.cls := findClass_of_methodNamed B.named
  have hS : va_S A s.heap s.heap [] := va_S.rf
  have hF : Fr [58, 59] [(30, 4), (30, 5)] G G := Fr.rf
  have hl := lv_entry ([.ref (a 30), .int p0]) (n := 2) (Nat.le_of_ble_eq_true rfl)
  rw [lg_entry_eq]
  generalize (lg_sl ([.ref (a 30), .int p0]) ++ List.replicate (2 - (lg_sl ([.ref (a 30), .int p0])).length) Slot.unset).toArray = ls at hl ⊢
  have hl : lv_has ls 2 [(0, .ref (a 30)), (1, .int p0)] := hl
  refine lv_iload_n hx hb dX1_bringFrom_0 rfl (lv_at hl 1 rfl) ?_
  refine lv_if_lt (tgt := 20) hx hb dX1_bringFrom_1 rfl (fun c_1 => ?_) (fun c_1 => ?_)
  · have c_1 : p0.toInt < 0 := xI_lt rfl rfl c_1
    refine ic_0 hx hb dX1_bringFrom_20 ?_
    have b_2 : 0 ≤ (G.1 30 4).toInt ∧ (G.1 30 4).toInt ≤ 40 := bd_30_4 hB_G
    have b_3 : 0 ≤ (G.1 30 5).toInt ∧ (G.1 30 5).toInt ≤ 40 := bd_30_5 hB_G
    exact W.zret (v := 0) hx hb hr (by decide) (fun t ht _ => ⟨⟨0, G, rfl, (P_eFrom_mk ⟨hB_G, hF, ⟨by decide, by decide⟩, (by have hq : (0 : Int32).toInt = 0 := rfl; (try dsimp only); omega), (Or.inl ⟨c_1, ⟨rfl, rfl⟩⟩)⟩), wd_t ht hW⟩, hS.F ht⟩) hS.2.2 dX1_bringFrom_21
  · have c_1 : 0 ≤ p0.toInt := xI_nlt rfl rfl c_1
    refine lv_iload_n hx hb dX1_bringFrom_4 rfl (lv_at hl 1 rfl) ?_
    refine ic_3 hx hb dX1_bringFrom_5 ?_
    refine lv_icmp_ge (tgt := 20) hx hb dX1_bringFrom_6 rfl (fun c_4 => ?_) (fun c_4 => ?_)
    · have c_4 : 3 ≤ p0.toInt := xI_le rfl rfl c_4
      refine ic_0 hx hb dX1_bringFrom_20 ?_
      have b_5 : 0 ≤ (G.1 30 4).toInt ∧ (G.1 30 4).toInt ≤ 40 := bd_30_4 hB_G
      have b_6 : 0 ≤ (G.1 30 5).toInt ∧ (G.1 30 5).toInt ≤ 40 := bd_30_5 hB_G
      exact W.zret (v := 0) hx hb hr (by decide) (fun t ht _ => ⟨⟨0, G, rfl, (P_eFrom_mk ⟨hB_G, hF, ⟨by decide, by decide⟩, (by have hq : (0 : Int32).toInt = 0 := rfl; (try dsimp only); omega), (Or.inr ⟨c_1, (Or.inl ⟨c_4, ⟨rfl, rfl⟩⟩)⟩)⟩), wd_t ht hW⟩, hS.F ht⟩) hS.2.2 dX1_bringFrom_21
    · have c_4 : p0.toInt < 3 := xI_nle rfl rfl c_4
      refine lv_aload_n hx hb dX1_bringFrom_9 rfl (lv_at hl 0 rfl) ?_
      refine S_getI (v := (G.1 30 3)) (C := RX1) (T := TX1) (N := 6) hx hb hg iX1 hown hK hW kd_30 rfl 3 (lt_b rfl) (hg (Cond.fieldLink RX1 27 "SlabWalk$Earnest" "full" "I") m496) (fun _ h9 => h9) rfl rfl dX1_bringFrom_10 ?_
      refine lv_iload_n hx hb dX1_bringFrom_13 rfl (lv_at hl 1 rfl) ?_
      refine lv_ishr hx hb dX1_bringFrom_14 ?_
      refine lv_topi (fun y_7 ey_7 => ?_)
      refine ic_1 hx hb dX1_bringFrom_15 ?_
      refine lv_iand hx hb dX1_bringFrom_16 ?_
      refine lv_topi (fun y_8 ey_8 => ?_)
      have ty_8 := xI_and (Y := 1) rfl ey_8 (by decide)
      refine lv_if_ne (tgt := 22) hx hb dX1_bringFrom_17 rfl (fun c_9 => ?_) (fun c_9 => ?_)
      · have c_9 : y_8.toInt ≠ 0 := xI_ne rfl rfl c_9
        refine lv_aload_n hx hb dX1_bringFrom_22 rfl (lv_at hl 0 rfl) ?_
        refine S_getR (n := 60) (C := RX1) (T := TX1) (N := 6) hx hb hg iX1 hown hK hW kd_30 rfl 2 (lt_b rfl) (hg (Cond.fieldLink RX1 18 "SlabWalk$Earnest" "boxes" "[I") m495) (fun _ h9 => h9) rfl dX1_bringFrom_23 ?_
        refine lv_iload_n hx hb dX1_bringFrom_26 rfl (lv_at hl 1 rfl) ?_
        refine lv_bipush (v := 10) hx hb dX1_bringFrom_27 (by decide) ?_
        refine lv_imul hx hb dX1_bringFrom_29 ?_
        refine lv_topi (fun y_10 ey_10 => ?_)
        have ty_10 : y_10.toInt = p0.toInt * 10 := xI_mul rfl rfl ey_10 ((by first | exact ok_213 c_1 | omega)) ((by first | exact ok_214 c_4 | omega))
        refine lv_aload_n hx hb dX1_bringFrom_30 rfl (lv_at hl 0 rfl) ?_
        refine S_getR (n := 58) (C := RX1) (T := TX1) (N := 6) hx hb hg iX1 hown hK hW kd_30 rfl 0 (lt_b rfl) (hg (Cond.fieldLink RX1 11 "SlabWalk$Earnest" "now" "[I") m492) (fun _ h9 => h9) rfl dX1_bringFrom_31 ?_
        refine ic_0 hx hb dX1_bringFrom_34 ?_
        refine lv_bipush (v := 10) hx hb dX1_bringFrom_35 (by decide) ?_
        have qc_12 : (0 : Int32).toInt = 0 := rfl
        have qc_13 : (10 : Int32).toInt = 10 := rfl
        refine S_copy hx hb (by rw [hml]; exact hl.1.symm) hown (hg (Cond.methodLink RX1 40 arraycopyName) m567) (hg (Cond.native arraycopyName) m569) (hg (Cond.static arraycopyName) m568) (hg (Cond.initialized "java/lang/System") m130) hK hW hS kd_60 kd_58 (by omega) (by decide) (by decide) (by omega) (by decide) (Nat.le_of_ble_eq_true rfl) (by decide +kernel) dX1_bringFrom_37 (fun G_11 H locs eG_11 hW hS => ?_)
        have hB_G_11 : Bd G_11 := hB_G.rowp eG_11 (fun _ => ⟨(tI_rng _).1, (tI_rng _).2⟩) (hB_G.2.row eG_11 (fun _ => rfl))
        have hF := hF.row eG_11 (by decide)
        refine lv_aload_n hx hb dX1_bringFrom_40 rfl (lv_at hl 0 rfl) ?_
        refine S_callv (va_runV (As := []) (rest := []) ⟨hx, hb, hml, hown, hts⟩ (k_eForget l D k A a z G_11  ) (cwV 0 hts (gd_V hgd m563 m565 m1 m127 m566) rfl rfl rfl hd_X1_forgetActs ⟨Nat.le_of_ble_eq_true rfl, Nat.le_of_ble_eq_true rfl⟩) (pre_W hW hB_G_11 hK hZ hS kd_30 rfl) rfl rfl hl.1 rfl (lv_room (Nat.le_of_ble_eq_true rfl)) dX1_bringFrom_41 ⟨Nat.le_of_ble_eq_true rfl, Nat.le_of_ble_eq_true rfl⟩) hS (fun G_15 H locs hpo hW hS => ?_)
        have hX_18 : P_eForget G_11 G_15 := hpo
        obtain ⟨hB_G_15, hq_16, hp_17, -⟩ := hpo
        have hF := hF.call9 hq_16 rfl rfl
        refine ic_1 hx hb dX1_bringFrom_44 ?_
        have b_19 : 0 ≤ (G_15.1 30 4).toInt ∧ (G_15.1 30 4).toInt ≤ 40 := bd_30_4 hB_G_15
        have b_20 : 0 ≤ (G_15.1 30 5).toInt ∧ (G_15.1 30 5).toInt ≤ 40 := bd_30_5 hB_G_15
        exact W.zret (v := 1) hx hb hr (by decide) (fun t ht _ => ⟨⟨1, G_15, rfl, (P_eFrom_mk ⟨hB_G_15, hF, ⟨by decide, by decide⟩, (by have hq : (1 : Int32).toInt = 1 := rfl; (try dsimp only); omega), (Or.inr ⟨c_1, (Or.inr ⟨c_4, ⟨y_7, ey_7, ⟨y_8, ey_8, (Or.inr ⟨c_9, ⟨y_10, ty_10, ⟨G_11, hB_G_11, (Fr.row (rs := [58]) (fs := []) Fr.rf eG_11 (by decide)), rw_row eG_11, ⟨G_15, hX_18, ⟨rfl, rfl⟩⟩⟩⟩⟩)⟩⟩⟩)⟩)⟩), wd_t ht hW⟩, hS.F ht⟩) hS.2.2 dX1_bringFrom_45
      · have c_9 : y_8.toInt = 0 := xI_eq rfl rfl c_9
        refine ic_0 hx hb dX1_bringFrom_20 ?_
        have b_21 : 0 ≤ (G.1 30 4).toInt ∧ (G.1 30 4).toInt ≤ 40 := bd_30_4 hB_G
        have b_22 : 0 ≤ (G.1 30 5).toInt ∧ (G.1 30 5).toInt ≤ 40 := bd_30_5 hB_G
        exact W.zret (v := 0) hx hb hr (by decide) (fun t ht _ => ⟨⟨0, G, rfl, (P_eFrom_mk ⟨hB_G, hF, ⟨by decide, by decide⟩, (by have hq : (0 : Int32).toInt = 0 := rfl; (try dsimp only); omega), (Or.inr ⟨c_1, (Or.inr ⟨c_4, ⟨y_7, ey_7, ⟨y_8, ey_8, (Or.inl ⟨c_9, ⟨rfl, rfl⟩⟩)⟩⟩⟩)⟩)⟩), wd_t ht hW⟩, hS.F ht⟩) hS.2.2 dX1_bringFrom_21

theorem m34 : Cond.selects RX5 yX5_setNextFeet yX5_setNextFeet ∈ gd := gds_3 2 rfl
theorem m40 : Cond.selects RX5 yX5_aimFrom yX5_aimFrom ∈ gd := gds_3 8 rfl
theorem m126 : Cond.initialized RX5 ∈ gd := gdc_1_0 10 rfl gw_initialized
theorem m372 : Cond.fieldLink RX5 36 "SlabWalk$Course" "lawful" "[Z" ∈ gd := gdc_2_1 0 rfl gw_fieldLink
theorem m379 : Cond.fieldLink RX5 58 "SlabWalk$Course" "least" "I" ∈ gd := gdc_2_1 7 rfl gw_fieldLink
theorem m381 : Cond.fieldLink RX5 40 "SlabWalk$Course" "most" "I" ∈ gd := gdc_2_1 9 rfl gw_fieldLink
theorem m387 : Cond.fieldLink RX5 65 "SlabWalk$Course" "leap" "I" ∈ gd := gdc_2_1 15 rfl gw_fieldLink
theorem m389 : Cond.fieldLink RX5 30 "SlabWalk$Course" "last" "I" ∈ gd := gdc_2_2 1 rfl gw_fieldLink
theorem m392 : Cond.fieldLink RX5 47 "SlabWalk$Course" "end" "I" ∈ gd := gdc_2_2 4 rfl gw_fieldLink
theorem m464 : Cond.fieldLink RX5 11 "SlabWalk$Odds" "stepped" "[J" ∈ gd := gdc_2_6 12 rfl gw_fieldLink
theorem m465 : Cond.fieldLink RX5 15 "SlabWalk$Odds" "leapt" "[J" ∈ gd := gdc_2_6 13 rfl gw_fieldLink
theorem m466 : Cond.fieldLink RX5 18 "SlabWalk$Odds" "sums" "[J" ∈ gd := gdc_2_6 14 rfl gw_fieldLink
theorem m467 : Cond.fieldLink RX5 21 "SlabWalk$Odds" "steppedSums" "[J" ∈ gd := gdc_2_6 15 rfl gw_fieldLink
theorem m469 : Cond.fieldLink RX5 27 "SlabWalk$Odds" "aims" "[J" ∈ gd := gdc_2_7 1 rfl gw_fieldLink
theorem m470 : Cond.fieldLink RX5 82 "SlabWalk$Odds" "boldest" "I" ∈ gd := gdc_2_7 2 rfl gw_fieldLink
theorem m1023 : Cond.methodLink RX5 43 yX5_setNextFeet ∈ gd := gdc_4_11 11 rfl gw_methodLink
theorem m1025 : Cond.instanceMethod yX5_setNextFeet ∈ gd := gdc_4_11 13 rfl gw_instanceMethod
theorem m1026 : Cond.code yX5_setNextFeet cX5_setNextFeet 4 none ∈ gd := gdc_4_11 14 rfl gw_code
theorem m1027 : Cond.methodLink RX5 61 yX5_sumOf ∈ gd := gdc_4_11 15 rfl gw_methodLink
theorem m1028 : Cond.static yX5_sumOf ∈ gd := gdc_4_12 0 rfl gw_static
theorem m1029 : Cond.code yX5_sumOf cX5_sumOf 6 (some .long) ∈ gd := gdc_4_12 1 rfl gw_code
theorem m1030 : Cond.methodLink RX5 68 Lib.Math.max.name ∈ gd := gdc_4_12 2 rfl gw_methodLink
theorem m1031 : Cond.methodLink RX5 72 Lib.Math.min.name ∈ gd := gdc_4_12 3 rfl gw_methodLink
theorem m1032 : Cond.constantLong RX5 50 1000000000000000 ∈ gd := gdc_4_12 4 rfl gw_constantLong
theorem m1033 : Cond.methodLink RX5 52 Lib.MathLoose.min_long.x ∈ gd := gdc_4_12 5 rfl gw_methodLink
theorem m1034 : Cond.static Lib.MathLoose.min_long.x ∈ gd := gdc_4_12 6 rfl gw_static
theorem m1035 : Cond.code Lib.MathLoose.min_long.x Lib.MathLoose.min_long.code 4 (some .long) ∈ gd := gdc_4_12 7 rfl gw_code
theorem m1130 : Cond.methodLink RX5 78 yX5_aimFrom ∈ gd := gdc_5_3 6 rfl gw_methodLink
theorem m1132 : Cond.instanceMethod yX5_aimFrom ∈ gd := gdc_5_3 8 rfl gw_instanceMethod
theorem m1133 : Cond.code yX5_aimFrom cX5_aimFrom 4 (some .long) ∈ gd := gdc_5_3 9 rfl gw_code
noncomputable def rbX5_aimFrom_0 : List (Nat × List Nat) := [(0, [42]), (1, [180, 0, 27]), (4, [28]), (5, [29]), (6, [96]), (7, [43]), (8, [180, 0, 30]), (11, [5]), (12, [96]), (13, [184, 0, 72]), (16, [47]), (17, [173])]
theorem rcX5_aimFrom_0 : dgo (lb cX5_aimFrom) 0 rbX5_aimFrom_0 = true := by decide +kernel
theorem dX5_aimFrom_0 : decode cX5_aimFrom 0 = .ok (.aload_n 0, 1) := dk_42 (dw rcX5_aimFrom_0 0 rfl)
theorem dX5_aimFrom_1 : decode cX5_aimFrom 1 = .ok (.getfield 27, 3) := dk_180 (dw rcX5_aimFrom_0 1 rfl) rfl
theorem dX5_aimFrom_4 : decode cX5_aimFrom 4 = .ok (.iload_n 2, 1) := dk_28 (dw rcX5_aimFrom_0 2 rfl)
theorem dX5_aimFrom_5 : decode cX5_aimFrom 5 = .ok (.iload_n 3, 1) := dk_29 (dw rcX5_aimFrom_0 3 rfl)
theorem dX5_aimFrom_6 : decode cX5_aimFrom 6 = .ok (.iadd, 1) := dk_96 (dw rcX5_aimFrom_0 4 rfl)
theorem dX5_aimFrom_7 : decode cX5_aimFrom 7 = .ok (.aload_n 1, 1) := dk_43 (dw rcX5_aimFrom_0 5 rfl)
theorem dX5_aimFrom_8 : decode cX5_aimFrom 8 = .ok (.getfield 30, 3) := dk_180 (dw rcX5_aimFrom_0 6 rfl) rfl
theorem dX5_aimFrom_11 : decode cX5_aimFrom 11 = .ok (.iconst 2, 1) := dk_5 (dw rcX5_aimFrom_0 7 rfl)
theorem dX5_aimFrom_12 : decode cX5_aimFrom 12 = .ok (.iadd, 1) := dk_96 (dw rcX5_aimFrom_0 8 rfl)
theorem dX5_aimFrom_13 : decode cX5_aimFrom 13 = .ok (.invokestatic 72, 3) := dk_184 (dw rcX5_aimFrom_0 9 rfl) rfl
theorem dX5_aimFrom_16 : decode cX5_aimFrom 16 = .ok (.laload, 1) := dk_47 (dw rcX5_aimFrom_0 10 rfl)
theorem dX5_aimFrom_17 : decode cX5_aimFrom 17 = .ok (.lreturn, 1) := dk_173 (dw rcX5_aimFrom_0 11 rfl)
noncomputable def rbX5_bestStep_0 : List (Nat × List Nat) := [(0, [43]), (1, [180, 0, 58]), (4, [62]), (5, [42]), (6, [43]), (7, [28]), (8, [29]), (9, [182, 0, 78]), (12, [55, 4]), (14, [29]), (15, [4]), (16, [96]), (17, [54, 6]), (19, [21, 6]), (21, [43]), (22, [180, 0, 40]), (25, [163, 0, 51]), (28, [28]), (29, [21, 6]), (31, [96]), (32, [43]), (33, [180, 0, 30]), (36, [5]), (37, [96])]
theorem rcX5_bestStep_0 : dgo (lb cX5_bestStep) 0 rbX5_bestStep_0 = true := by decide +kernel
theorem dX5_bestStep_0 : decode cX5_bestStep 0 = .ok (.aload_n 1, 1) := dk_43 (dw rcX5_bestStep_0 0 rfl)
theorem dX5_bestStep_1 : decode cX5_bestStep 1 = .ok (.getfield 58, 3) := dk_180 (dw rcX5_bestStep_0 1 rfl) rfl
theorem dX5_bestStep_4 : decode cX5_bestStep 4 = .ok (.istore_n 3, 1) := dk_62 (dw rcX5_bestStep_0 2 rfl)
theorem dX5_bestStep_5 : decode cX5_bestStep 5 = .ok (.aload_n 0, 1) := dk_42 (dw rcX5_bestStep_0 3 rfl)
theorem dX5_bestStep_6 : decode cX5_bestStep 6 = .ok (.aload_n 1, 1) := dk_43 (dw rcX5_bestStep_0 4 rfl)
theorem dX5_bestStep_7 : decode cX5_bestStep 7 = .ok (.iload_n 2, 1) := dk_28 (dw rcX5_bestStep_0 5 rfl)
theorem dX5_bestStep_8 : decode cX5_bestStep 8 = .ok (.iload_n 3, 1) := dk_29 (dw rcX5_bestStep_0 6 rfl)
theorem dX5_bestStep_9 : decode cX5_bestStep 9 = .ok (.invokevirtual 78, 3) := dk_182 (dw rcX5_bestStep_0 7 rfl) rfl
theorem dX5_bestStep_12 : decode cX5_bestStep 12 = .ok (.lstore 4, 2) := dk_55 (dw rcX5_bestStep_0 8 rfl)
theorem dX5_bestStep_14 : decode cX5_bestStep 14 = .ok (.iload_n 3, 1) := dk_29 (dw rcX5_bestStep_0 9 rfl)
theorem dX5_bestStep_15 : decode cX5_bestStep 15 = .ok (.iconst 1, 1) := dk_4 (dw rcX5_bestStep_0 10 rfl)
theorem dX5_bestStep_16 : decode cX5_bestStep 16 = .ok (.iadd, 1) := dk_96 (dw rcX5_bestStep_0 11 rfl)
theorem dX5_bestStep_17 : decode cX5_bestStep 17 = .ok (.istore 6, 2) := dk_54 (dw rcX5_bestStep_0 12 rfl)
theorem dX5_bestStep_19 : decode cX5_bestStep 19 = .ok (.iload 6, 2) := dk_21 (dw rcX5_bestStep_0 13 rfl)
theorem dX5_bestStep_21 : decode cX5_bestStep 21 = .ok (.aload_n 1, 1) := dk_43 (dw rcX5_bestStep_0 14 rfl)
theorem dX5_bestStep_22 : decode cX5_bestStep 22 = .ok (.getfield 40, 3) := dk_180 (dw rcX5_bestStep_0 15 rfl) rfl
theorem dX5_bestStep_25 : decode cX5_bestStep 25 = .ok (.if_icmp .gt 51, 3) := dk_163 (dw rcX5_bestStep_0 16 rfl) rfl
theorem dX5_bestStep_28 : decode cX5_bestStep 28 = .ok (.iload_n 2, 1) := dk_28 (dw rcX5_bestStep_0 17 rfl)
theorem dX5_bestStep_29 : decode cX5_bestStep 29 = .ok (.iload 6, 2) := dk_21 (dw rcX5_bestStep_0 18 rfl)
theorem dX5_bestStep_31 : decode cX5_bestStep 31 = .ok (.iadd, 1) := dk_96 (dw rcX5_bestStep_0 19 rfl)
theorem dX5_bestStep_32 : decode cX5_bestStep 32 = .ok (.aload_n 1, 1) := dk_43 (dw rcX5_bestStep_0 20 rfl)
theorem dX5_bestStep_33 : decode cX5_bestStep 33 = .ok (.getfield 30, 3) := dk_180 (dw rcX5_bestStep_0 21 rfl) rfl
theorem dX5_bestStep_36 : decode cX5_bestStep 36 = .ok (.iconst 2, 1) := dk_5 (dw rcX5_bestStep_0 22 rfl)
theorem dX5_bestStep_37 : decode cX5_bestStep 37 = .ok (.iadd, 1) := dk_96 (dw rcX5_bestStep_0 23 rfl)
noncomputable def rbX5_bestStep_38 : List (Nat × List Nat) := [(38, [163, 0, 38]), (41, [42]), (42, [180, 0, 27]), (45, [28]), (46, [21, 6]), (48, [96]), (49, [47]), (50, [22, 4]), (52, [148]), (53, [158, 0, 17]), (56, [21, 6]), (58, [62]), (59, [42]), (60, [180, 0, 27]), (63, [28]), (64, [21, 6]), (66, [96]), (67, [47]), (68, [55, 4]), (70, [132, 6, 1]), (73, [167, 255, 202]), (76, [29]), (77, [172])]
theorem rcX5_bestStep_38 : dgo (lb cX5_bestStep) 0 rbX5_bestStep_38 = true := by decide +kernel
theorem dX5_bestStep_38 : decode cX5_bestStep 38 = .ok (.if_icmp .gt 38, 3) := dk_163 (dw rcX5_bestStep_38 0 rfl) rfl
theorem dX5_bestStep_41 : decode cX5_bestStep 41 = .ok (.aload_n 0, 1) := dk_42 (dw rcX5_bestStep_38 1 rfl)
theorem dX5_bestStep_42 : decode cX5_bestStep 42 = .ok (.getfield 27, 3) := dk_180 (dw rcX5_bestStep_38 2 rfl) rfl
theorem dX5_bestStep_45 : decode cX5_bestStep 45 = .ok (.iload_n 2, 1) := dk_28 (dw rcX5_bestStep_38 3 rfl)
theorem dX5_bestStep_46 : decode cX5_bestStep 46 = .ok (.iload 6, 2) := dk_21 (dw rcX5_bestStep_38 4 rfl)
theorem dX5_bestStep_48 : decode cX5_bestStep 48 = .ok (.iadd, 1) := dk_96 (dw rcX5_bestStep_38 5 rfl)
theorem dX5_bestStep_49 : decode cX5_bestStep 49 = .ok (.laload, 1) := dk_47 (dw rcX5_bestStep_38 6 rfl)
theorem dX5_bestStep_50 : decode cX5_bestStep 50 = .ok (.lload 4, 2) := dk_22 (dw rcX5_bestStep_38 7 rfl)
theorem dX5_bestStep_52 : decode cX5_bestStep 52 = .ok (.lcmp, 1) := dk_148 (dw rcX5_bestStep_38 8 rfl)
theorem dX5_bestStep_53 : decode cX5_bestStep 53 = .ok (.ifCond .le 17, 3) := dk_158 (dw rcX5_bestStep_38 9 rfl) rfl
theorem dX5_bestStep_56 : decode cX5_bestStep 56 = .ok (.iload 6, 2) := dk_21 (dw rcX5_bestStep_38 10 rfl)
theorem dX5_bestStep_58 : decode cX5_bestStep 58 = .ok (.istore_n 3, 1) := dk_62 (dw rcX5_bestStep_38 11 rfl)
theorem dX5_bestStep_59 : decode cX5_bestStep 59 = .ok (.aload_n 0, 1) := dk_42 (dw rcX5_bestStep_38 12 rfl)
theorem dX5_bestStep_60 : decode cX5_bestStep 60 = .ok (.getfield 27, 3) := dk_180 (dw rcX5_bestStep_38 13 rfl) rfl
theorem dX5_bestStep_63 : decode cX5_bestStep 63 = .ok (.iload_n 2, 1) := dk_28 (dw rcX5_bestStep_38 14 rfl)
theorem dX5_bestStep_64 : decode cX5_bestStep 64 = .ok (.iload 6, 2) := dk_21 (dw rcX5_bestStep_38 15 rfl)
theorem dX5_bestStep_66 : decode cX5_bestStep 66 = .ok (.iadd, 1) := dk_96 (dw rcX5_bestStep_38 16 rfl)
theorem dX5_bestStep_67 : decode cX5_bestStep 67 = .ok (.laload, 1) := dk_47 (dw rcX5_bestStep_38 17 rfl)
theorem dX5_bestStep_68 : decode cX5_bestStep 68 = .ok (.lstore 4, 2) := dk_55 (dw rcX5_bestStep_38 18 rfl)
theorem dX5_bestStep_70 : decode cX5_bestStep 70 = .ok (.iinc 6 1, 3) := dk_132 (dw rcX5_bestStep_38 19 rfl) rfl
theorem dX5_bestStep_73 : decode cX5_bestStep 73 = .ok (.goto (-54), 3) := dk_167 (dw rcX5_bestStep_38 20 rfl) rfl
theorem dX5_bestStep_76 : decode cX5_bestStep 76 = .ok (.iload_n 3, 1) := dk_29 (dw rcX5_bestStep_38 21 rfl)
theorem dX5_bestStep_77 : decode cX5_bestStep 77 = .ok (.ireturn, 1) := dk_172 (dw rcX5_bestStep_38 22 rfl)
noncomputable def rbX5_boldestStep_0 : List (Nat × List Nat) := [(0, [42]), (1, [180, 0, 82]), (4, [172])]
theorem rcX5_boldestStep_0 : dgo (lb cX5_boldestStep) 0 rbX5_boldestStep_0 = true := by decide +kernel
theorem dX5_boldestStep_0 : decode cX5_boldestStep 0 = .ok (.aload_n 0, 1) := dk_42 (dw rcX5_boldestStep_0 0 rfl)
theorem dX5_boldestStep_1 : decode cX5_boldestStep 1 = .ok (.getfield 82, 3) := dk_180 (dw rcX5_boldestStep_0 1 rfl) rfl
theorem dX5_boldestStep_4 : decode cX5_boldestStep 4 = .ok (.ireturn, 1) := dk_172 (dw rcX5_boldestStep_0 2 rfl)
noncomputable def rbX5_countWays_0 : List (Nat × List Nat) := [(0, [3]), (1, [62]), (2, [29]), (3, [43]), (4, [180, 0, 30]), (7, [163, 0, 44]), (10, [42]), (11, [180, 0, 11]), (14, [29]), (15, [43]), (16, [180, 0, 36]), (19, [29]), (20, [51]), (21, [153, 0, 15]), (24, [29]), (25, [43]), (26, [180, 0, 40]), (29, [162, 0, 7]), (32, [10]), (33, [167, 0, 4]), (36, [9]), (37, [80]), (38, [42]), (39, [180, 0, 15])]
theorem rcX5_countWays_0 : dgo (lb cX5_countWays) 0 rbX5_countWays_0 = true := by decide +kernel
theorem dX5_countWays_0 : decode cX5_countWays 0 = .ok (.iconst 0, 1) := dk_3 (dw rcX5_countWays_0 0 rfl)
theorem dX5_countWays_1 : decode cX5_countWays 1 = .ok (.istore_n 3, 1) := dk_62 (dw rcX5_countWays_0 1 rfl)
theorem dX5_countWays_2 : decode cX5_countWays 2 = .ok (.iload_n 3, 1) := dk_29 (dw rcX5_countWays_0 2 rfl)
theorem dX5_countWays_3 : decode cX5_countWays 3 = .ok (.aload_n 1, 1) := dk_43 (dw rcX5_countWays_0 3 rfl)
theorem dX5_countWays_4 : decode cX5_countWays 4 = .ok (.getfield 30, 3) := dk_180 (dw rcX5_countWays_0 4 rfl) rfl
theorem dX5_countWays_7 : decode cX5_countWays 7 = .ok (.if_icmp .gt 44, 3) := dk_163 (dw rcX5_countWays_0 5 rfl) rfl
theorem dX5_countWays_10 : decode cX5_countWays 10 = .ok (.aload_n 0, 1) := dk_42 (dw rcX5_countWays_0 6 rfl)
theorem dX5_countWays_11 : decode cX5_countWays 11 = .ok (.getfield 11, 3) := dk_180 (dw rcX5_countWays_0 7 rfl) rfl
theorem dX5_countWays_14 : decode cX5_countWays 14 = .ok (.iload_n 3, 1) := dk_29 (dw rcX5_countWays_0 8 rfl)
theorem dX5_countWays_15 : decode cX5_countWays 15 = .ok (.aload_n 1, 1) := dk_43 (dw rcX5_countWays_0 9 rfl)
theorem dX5_countWays_16 : decode cX5_countWays 16 = .ok (.getfield 36, 3) := dk_180 (dw rcX5_countWays_0 10 rfl) rfl
theorem dX5_countWays_19 : decode cX5_countWays 19 = .ok (.iload_n 3, 1) := dk_29 (dw rcX5_countWays_0 11 rfl)
theorem dX5_countWays_20 : decode cX5_countWays 20 = .ok (.baload, 1) := dk_51 (dw rcX5_countWays_0 12 rfl)
theorem dX5_countWays_21 : decode cX5_countWays 21 = .ok (.ifCond .eq 15, 3) := dk_153 (dw rcX5_countWays_0 13 rfl) rfl
theorem dX5_countWays_24 : decode cX5_countWays 24 = .ok (.iload_n 3, 1) := dk_29 (dw rcX5_countWays_0 14 rfl)
theorem dX5_countWays_25 : decode cX5_countWays 25 = .ok (.aload_n 1, 1) := dk_43 (dw rcX5_countWays_0 15 rfl)
theorem dX5_countWays_26 : decode cX5_countWays 26 = .ok (.getfield 40, 3) := dk_180 (dw rcX5_countWays_0 16 rfl) rfl
theorem dX5_countWays_29 : decode cX5_countWays 29 = .ok (.if_icmp .ge 7, 3) := dk_162 (dw rcX5_countWays_0 17 rfl) rfl
theorem dX5_countWays_32 : decode cX5_countWays 32 = .ok (.lconst 1, 1) := dk_10 (dw rcX5_countWays_0 18 rfl)
theorem dX5_countWays_33 : decode cX5_countWays 33 = .ok (.goto 4, 3) := dk_167 (dw rcX5_countWays_0 19 rfl) rfl
theorem dX5_countWays_36 : decode cX5_countWays 36 = .ok (.lconst 0, 1) := dk_9 (dw rcX5_countWays_0 20 rfl)
theorem dX5_countWays_37 : decode cX5_countWays 37 = .ok (.lastore, 1) := dk_80 (dw rcX5_countWays_0 21 rfl)
theorem dX5_countWays_38 : decode cX5_countWays 38 = .ok (.aload_n 0, 1) := dk_42 (dw rcX5_countWays_0 22 rfl)
theorem dX5_countWays_39 : decode cX5_countWays 39 = .ok (.getfield 15, 3) := dk_180 (dw rcX5_countWays_0 23 rfl) rfl
noncomputable def rbX5_countWays_42 : List (Nat × List Nat) := [(42, [29]), (43, [9]), (44, [80]), (45, [132, 3, 1]), (48, [167, 255, 210]), (51, [4]), (52, [62]), (53, [29]), (54, [28]), (55, [162, 0, 14]), (58, [42]), (59, [43]), (60, [182, 0, 43]), (63, [132, 3, 1]), (66, [167, 255, 243]), (69, [9]), (70, [66]), (71, [43]), (72, [180, 0, 47]), (75, [54, 5]), (77, [21, 5]), (79, [43]), (80, [180, 0, 30]), (83, [163, 0, 33])]
theorem rcX5_countWays_42 : dgo (lb cX5_countWays) 0 rbX5_countWays_42 = true := by decide +kernel
theorem dX5_countWays_42 : decode cX5_countWays 42 = .ok (.iload_n 3, 1) := dk_29 (dw rcX5_countWays_42 0 rfl)
theorem dX5_countWays_43 : decode cX5_countWays 43 = .ok (.lconst 0, 1) := dk_9 (dw rcX5_countWays_42 1 rfl)
theorem dX5_countWays_44 : decode cX5_countWays 44 = .ok (.lastore, 1) := dk_80 (dw rcX5_countWays_42 2 rfl)
theorem dX5_countWays_45 : decode cX5_countWays 45 = .ok (.iinc 3 1, 3) := dk_132 (dw rcX5_countWays_42 3 rfl) rfl
theorem dX5_countWays_48 : decode cX5_countWays 48 = .ok (.goto (-46), 3) := dk_167 (dw rcX5_countWays_42 4 rfl) rfl
theorem dX5_countWays_51 : decode cX5_countWays 51 = .ok (.iconst 1, 1) := dk_4 (dw rcX5_countWays_42 5 rfl)
theorem dX5_countWays_52 : decode cX5_countWays 52 = .ok (.istore_n 3, 1) := dk_62 (dw rcX5_countWays_42 6 rfl)
theorem dX5_countWays_53 : decode cX5_countWays 53 = .ok (.iload_n 3, 1) := dk_29 (dw rcX5_countWays_42 7 rfl)
theorem dX5_countWays_54 : decode cX5_countWays 54 = .ok (.iload_n 2, 1) := dk_28 (dw rcX5_countWays_42 8 rfl)
theorem dX5_countWays_55 : decode cX5_countWays 55 = .ok (.if_icmp .ge 14, 3) := dk_162 (dw rcX5_countWays_42 9 rfl) rfl
theorem dX5_countWays_58 : decode cX5_countWays 58 = .ok (.aload_n 0, 1) := dk_42 (dw rcX5_countWays_42 10 rfl)
theorem dX5_countWays_59 : decode cX5_countWays 59 = .ok (.aload_n 1, 1) := dk_43 (dw rcX5_countWays_42 11 rfl)
theorem dX5_countWays_60 : decode cX5_countWays 60 = .ok (.invokevirtual 43, 3) := dk_182 (dw rcX5_countWays_42 12 rfl) rfl
theorem dX5_countWays_63 : decode cX5_countWays 63 = .ok (.iinc 3 1, 3) := dk_132 (dw rcX5_countWays_42 13 rfl) rfl
theorem dX5_countWays_66 : decode cX5_countWays 66 = .ok (.goto (-13), 3) := dk_167 (dw rcX5_countWays_42 14 rfl) rfl
theorem dX5_countWays_69 : decode cX5_countWays 69 = .ok (.lconst 0, 1) := dk_9 (dw rcX5_countWays_42 15 rfl)
theorem dX5_countWays_70 : decode cX5_countWays 70 = .ok (.lstore_n 3, 1) := dk_66 (dw rcX5_countWays_42 16 rfl)
theorem dX5_countWays_71 : decode cX5_countWays 71 = .ok (.aload_n 1, 1) := dk_43 (dw rcX5_countWays_42 17 rfl)
theorem dX5_countWays_72 : decode cX5_countWays 72 = .ok (.getfield 47, 3) := dk_180 (dw rcX5_countWays_42 18 rfl) rfl
theorem dX5_countWays_75 : decode cX5_countWays 75 = .ok (.istore 5, 2) := dk_54 (dw rcX5_countWays_42 19 rfl)
theorem dX5_countWays_77 : decode cX5_countWays 77 = .ok (.iload 5, 2) := dk_21 (dw rcX5_countWays_42 20 rfl)
theorem dX5_countWays_79 : decode cX5_countWays 79 = .ok (.aload_n 1, 1) := dk_43 (dw rcX5_countWays_42 21 rfl)
theorem dX5_countWays_80 : decode cX5_countWays 80 = .ok (.getfield 30, 3) := dk_180 (dw rcX5_countWays_42 22 rfl) rfl
theorem dX5_countWays_83 : decode cX5_countWays 83 = .ok (.if_icmp .gt 33, 3) := dk_163 (dw rcX5_countWays_42 23 rfl) rfl
noncomputable def rbX5_countWays_86 : List (Nat × List Nat) := [(86, [20, 0, 50]), (89, [33]), (90, [42]), (91, [180, 0, 11]), (94, [21, 5]), (96, [47]), (97, [97]), (98, [42]), (99, [180, 0, 15]), (102, [21, 5]), (104, [47]), (105, [97]), (106, [184, 0, 52]), (109, [66]), (110, [132, 5, 1]), (113, [167, 255, 220]), (116, [33]), (117, [173])]
theorem rcX5_countWays_86 : dgo (lb cX5_countWays) 0 rbX5_countWays_86 = true := by decide +kernel
theorem dX5_countWays_86 : decode cX5_countWays 86 = .ok (.ldc2_w 50, 3) := dk_20 (dw rcX5_countWays_86 0 rfl) rfl
theorem dX5_countWays_89 : decode cX5_countWays 89 = .ok (.lload_n 3, 1) := dk_33 (dw rcX5_countWays_86 1 rfl)
theorem dX5_countWays_90 : decode cX5_countWays 90 = .ok (.aload_n 0, 1) := dk_42 (dw rcX5_countWays_86 2 rfl)
theorem dX5_countWays_91 : decode cX5_countWays 91 = .ok (.getfield 11, 3) := dk_180 (dw rcX5_countWays_86 3 rfl) rfl
theorem dX5_countWays_94 : decode cX5_countWays 94 = .ok (.iload 5, 2) := dk_21 (dw rcX5_countWays_86 4 rfl)
theorem dX5_countWays_96 : decode cX5_countWays 96 = .ok (.laload, 1) := dk_47 (dw rcX5_countWays_86 5 rfl)
theorem dX5_countWays_97 : decode cX5_countWays 97 = .ok (.ladd, 1) := dk_97 (dw rcX5_countWays_86 6 rfl)
theorem dX5_countWays_98 : decode cX5_countWays 98 = .ok (.aload_n 0, 1) := dk_42 (dw rcX5_countWays_86 7 rfl)
theorem dX5_countWays_99 : decode cX5_countWays 99 = .ok (.getfield 15, 3) := dk_180 (dw rcX5_countWays_86 8 rfl) rfl
theorem dX5_countWays_102 : decode cX5_countWays 102 = .ok (.iload 5, 2) := dk_21 (dw rcX5_countWays_86 9 rfl)
theorem dX5_countWays_104 : decode cX5_countWays 104 = .ok (.laload, 1) := dk_47 (dw rcX5_countWays_86 10 rfl)
theorem dX5_countWays_105 : decode cX5_countWays 105 = .ok (.ladd, 1) := dk_97 (dw rcX5_countWays_86 11 rfl)
theorem dX5_countWays_106 : decode cX5_countWays 106 = .ok (.invokestatic 52, 3) := dk_184 (dw rcX5_countWays_86 12 rfl) rfl
theorem dX5_countWays_109 : decode cX5_countWays 109 = .ok (.lstore_n 3, 1) := dk_66 (dw rcX5_countWays_86 13 rfl)
theorem dX5_countWays_110 : decode cX5_countWays 110 = .ok (.iinc 5 1, 3) := dk_132 (dw rcX5_countWays_86 14 rfl) rfl
theorem dX5_countWays_113 : decode cX5_countWays 113 = .ok (.goto (-36), 3) := dk_167 (dw rcX5_countWays_86 15 rfl) rfl
theorem dX5_countWays_116 : decode cX5_countWays 116 = .ok (.lload_n 3, 1) := dk_33 (dw rcX5_countWays_86 16 rfl)
theorem dX5_countWays_117 : decode cX5_countWays 117 = .ok (.lreturn, 1) := dk_173 (dw rcX5_countWays_86 17 rfl)
noncomputable def rbX5_setNextFeet_0 : List (Nat × List Nat) := [(0, [42]), (1, [180, 0, 18]), (4, [3]), (5, [9]), (6, [80]), (7, [42]), (8, [180, 0, 21]), (11, [3]), (12, [9]), (13, [80]), (14, [3]), (15, [61]), (16, [28]), (17, [43]), (18, [180, 0, 47]), (21, [162, 0, 58]), (24, [42]), (25, [180, 0, 18]), (28, [28]), (29, [4]), (30, [96]), (31, [42]), (32, [180, 0, 18]), (35, [28])]
theorem rcX5_setNextFeet_0 : dgo (lb cX5_setNextFeet) 0 rbX5_setNextFeet_0 = true := by decide +kernel
theorem dX5_setNextFeet_0 : decode cX5_setNextFeet 0 = .ok (.aload_n 0, 1) := dk_42 (dw rcX5_setNextFeet_0 0 rfl)
theorem dX5_setNextFeet_1 : decode cX5_setNextFeet 1 = .ok (.getfield 18, 3) := dk_180 (dw rcX5_setNextFeet_0 1 rfl) rfl
theorem dX5_setNextFeet_4 : decode cX5_setNextFeet 4 = .ok (.iconst 0, 1) := dk_3 (dw rcX5_setNextFeet_0 2 rfl)
theorem dX5_setNextFeet_5 : decode cX5_setNextFeet 5 = .ok (.lconst 0, 1) := dk_9 (dw rcX5_setNextFeet_0 3 rfl)
theorem dX5_setNextFeet_6 : decode cX5_setNextFeet 6 = .ok (.lastore, 1) := dk_80 (dw rcX5_setNextFeet_0 4 rfl)
theorem dX5_setNextFeet_7 : decode cX5_setNextFeet 7 = .ok (.aload_n 0, 1) := dk_42 (dw rcX5_setNextFeet_0 5 rfl)
theorem dX5_setNextFeet_8 : decode cX5_setNextFeet 8 = .ok (.getfield 21, 3) := dk_180 (dw rcX5_setNextFeet_0 6 rfl) rfl
theorem dX5_setNextFeet_11 : decode cX5_setNextFeet 11 = .ok (.iconst 0, 1) := dk_3 (dw rcX5_setNextFeet_0 7 rfl)
theorem dX5_setNextFeet_12 : decode cX5_setNextFeet 12 = .ok (.lconst 0, 1) := dk_9 (dw rcX5_setNextFeet_0 8 rfl)
theorem dX5_setNextFeet_13 : decode cX5_setNextFeet 13 = .ok (.lastore, 1) := dk_80 (dw rcX5_setNextFeet_0 9 rfl)
theorem dX5_setNextFeet_14 : decode cX5_setNextFeet 14 = .ok (.iconst 0, 1) := dk_3 (dw rcX5_setNextFeet_0 10 rfl)
theorem dX5_setNextFeet_15 : decode cX5_setNextFeet 15 = .ok (.istore_n 2, 1) := dk_61 (dw rcX5_setNextFeet_0 11 rfl)
theorem dX5_setNextFeet_16 : decode cX5_setNextFeet 16 = .ok (.iload_n 2, 1) := dk_28 (dw rcX5_setNextFeet_0 12 rfl)
theorem dX5_setNextFeet_17 : decode cX5_setNextFeet 17 = .ok (.aload_n 1, 1) := dk_43 (dw rcX5_setNextFeet_0 13 rfl)
theorem dX5_setNextFeet_18 : decode cX5_setNextFeet 18 = .ok (.getfield 47, 3) := dk_180 (dw rcX5_setNextFeet_0 14 rfl) rfl
theorem dX5_setNextFeet_21 : decode cX5_setNextFeet 21 = .ok (.if_icmp .ge 58, 3) := dk_162 (dw rcX5_setNextFeet_0 15 rfl) rfl
theorem dX5_setNextFeet_24 : decode cX5_setNextFeet 24 = .ok (.aload_n 0, 1) := dk_42 (dw rcX5_setNextFeet_0 16 rfl)
theorem dX5_setNextFeet_25 : decode cX5_setNextFeet 25 = .ok (.getfield 18, 3) := dk_180 (dw rcX5_setNextFeet_0 17 rfl) rfl
theorem dX5_setNextFeet_28 : decode cX5_setNextFeet 28 = .ok (.iload_n 2, 1) := dk_28 (dw rcX5_setNextFeet_0 18 rfl)
theorem dX5_setNextFeet_29 : decode cX5_setNextFeet 29 = .ok (.iconst 1, 1) := dk_4 (dw rcX5_setNextFeet_0 19 rfl)
theorem dX5_setNextFeet_30 : decode cX5_setNextFeet 30 = .ok (.iadd, 1) := dk_96 (dw rcX5_setNextFeet_0 20 rfl)
theorem dX5_setNextFeet_31 : decode cX5_setNextFeet 31 = .ok (.aload_n 0, 1) := dk_42 (dw rcX5_setNextFeet_0 21 rfl)
theorem dX5_setNextFeet_32 : decode cX5_setNextFeet 32 = .ok (.getfield 18, 3) := dk_180 (dw rcX5_setNextFeet_0 22 rfl) rfl
theorem dX5_setNextFeet_35 : decode cX5_setNextFeet 35 = .ok (.iload_n 2, 1) := dk_28 (dw rcX5_setNextFeet_0 23 rfl)
noncomputable def rbX5_setNextFeet_36 : List (Nat × List Nat) := [(36, [47]), (37, [42]), (38, [180, 0, 11]), (41, [28]), (42, [47]), (43, [97]), (44, [42]), (45, [180, 0, 15]), (48, [28]), (49, [47]), (50, [97]), (51, [80]), (52, [42]), (53, [180, 0, 21]), (56, [28]), (57, [4]), (58, [96]), (59, [42]), (60, [180, 0, 21]), (63, [28]), (64, [47]), (65, [42]), (66, [180, 0, 11]), (69, [28])]
theorem rcX5_setNextFeet_36 : dgo (lb cX5_setNextFeet) 0 rbX5_setNextFeet_36 = true := by decide +kernel
theorem dX5_setNextFeet_36 : decode cX5_setNextFeet 36 = .ok (.laload, 1) := dk_47 (dw rcX5_setNextFeet_36 0 rfl)
theorem dX5_setNextFeet_37 : decode cX5_setNextFeet 37 = .ok (.aload_n 0, 1) := dk_42 (dw rcX5_setNextFeet_36 1 rfl)
theorem dX5_setNextFeet_38 : decode cX5_setNextFeet 38 = .ok (.getfield 11, 3) := dk_180 (dw rcX5_setNextFeet_36 2 rfl) rfl
theorem dX5_setNextFeet_41 : decode cX5_setNextFeet 41 = .ok (.iload_n 2, 1) := dk_28 (dw rcX5_setNextFeet_36 3 rfl)
theorem dX5_setNextFeet_42 : decode cX5_setNextFeet 42 = .ok (.laload, 1) := dk_47 (dw rcX5_setNextFeet_36 4 rfl)
theorem dX5_setNextFeet_43 : decode cX5_setNextFeet 43 = .ok (.ladd, 1) := dk_97 (dw rcX5_setNextFeet_36 5 rfl)
theorem dX5_setNextFeet_44 : decode cX5_setNextFeet 44 = .ok (.aload_n 0, 1) := dk_42 (dw rcX5_setNextFeet_36 6 rfl)
theorem dX5_setNextFeet_45 : decode cX5_setNextFeet 45 = .ok (.getfield 15, 3) := dk_180 (dw rcX5_setNextFeet_36 7 rfl) rfl
theorem dX5_setNextFeet_48 : decode cX5_setNextFeet 48 = .ok (.iload_n 2, 1) := dk_28 (dw rcX5_setNextFeet_36 8 rfl)
theorem dX5_setNextFeet_49 : decode cX5_setNextFeet 49 = .ok (.laload, 1) := dk_47 (dw rcX5_setNextFeet_36 9 rfl)
theorem dX5_setNextFeet_50 : decode cX5_setNextFeet 50 = .ok (.ladd, 1) := dk_97 (dw rcX5_setNextFeet_36 10 rfl)
theorem dX5_setNextFeet_51 : decode cX5_setNextFeet 51 = .ok (.lastore, 1) := dk_80 (dw rcX5_setNextFeet_36 11 rfl)
theorem dX5_setNextFeet_52 : decode cX5_setNextFeet 52 = .ok (.aload_n 0, 1) := dk_42 (dw rcX5_setNextFeet_36 12 rfl)
theorem dX5_setNextFeet_53 : decode cX5_setNextFeet 53 = .ok (.getfield 21, 3) := dk_180 (dw rcX5_setNextFeet_36 13 rfl) rfl
theorem dX5_setNextFeet_56 : decode cX5_setNextFeet 56 = .ok (.iload_n 2, 1) := dk_28 (dw rcX5_setNextFeet_36 14 rfl)
theorem dX5_setNextFeet_57 : decode cX5_setNextFeet 57 = .ok (.iconst 1, 1) := dk_4 (dw rcX5_setNextFeet_36 15 rfl)
theorem dX5_setNextFeet_58 : decode cX5_setNextFeet 58 = .ok (.iadd, 1) := dk_96 (dw rcX5_setNextFeet_36 16 rfl)
theorem dX5_setNextFeet_59 : decode cX5_setNextFeet 59 = .ok (.aload_n 0, 1) := dk_42 (dw rcX5_setNextFeet_36 17 rfl)
theorem dX5_setNextFeet_60 : decode cX5_setNextFeet 60 = .ok (.getfield 21, 3) := dk_180 (dw rcX5_setNextFeet_36 18 rfl) rfl
theorem dX5_setNextFeet_63 : decode cX5_setNextFeet 63 = .ok (.iload_n 2, 1) := dk_28 (dw rcX5_setNextFeet_36 19 rfl)
theorem dX5_setNextFeet_64 : decode cX5_setNextFeet 64 = .ok (.laload, 1) := dk_47 (dw rcX5_setNextFeet_36 20 rfl)
theorem dX5_setNextFeet_65 : decode cX5_setNextFeet 65 = .ok (.aload_n 0, 1) := dk_42 (dw rcX5_setNextFeet_36 21 rfl)
theorem dX5_setNextFeet_66 : decode cX5_setNextFeet 66 = .ok (.getfield 11, 3) := dk_180 (dw rcX5_setNextFeet_36 22 rfl) rfl
theorem dX5_setNextFeet_69 : decode cX5_setNextFeet 69 = .ok (.iload_n 2, 1) := dk_28 (dw rcX5_setNextFeet_36 23 rfl)
noncomputable def rbX5_setNextFeet_70 : List (Nat × List Nat) := [(70, [47]), (71, [97]), (72, [80]), (73, [132, 2, 1]), (76, [167, 255, 196]), (79, [3]), (80, [61]), (81, [28]), (82, [43]), (83, [180, 0, 30]), (86, [163, 0, 92]), (89, [43]), (90, [180, 0, 36]), (93, [28]), (94, [51]), (95, [62]), (96, [42]), (97, [180, 0, 11]), (100, [28]), (101, [29]), (102, [153, 0, 29]), (105, [42]), (106, [180, 0, 18]), (109, [43])]
theorem rcX5_setNextFeet_70 : dgo (lb cX5_setNextFeet) 0 rbX5_setNextFeet_70 = true := by decide +kernel
theorem dX5_setNextFeet_70 : decode cX5_setNextFeet 70 = .ok (.laload, 1) := dk_47 (dw rcX5_setNextFeet_70 0 rfl)
theorem dX5_setNextFeet_71 : decode cX5_setNextFeet 71 = .ok (.ladd, 1) := dk_97 (dw rcX5_setNextFeet_70 1 rfl)
theorem dX5_setNextFeet_72 : decode cX5_setNextFeet 72 = .ok (.lastore, 1) := dk_80 (dw rcX5_setNextFeet_70 2 rfl)
theorem dX5_setNextFeet_73 : decode cX5_setNextFeet 73 = .ok (.iinc 2 1, 3) := dk_132 (dw rcX5_setNextFeet_70 3 rfl) rfl
theorem dX5_setNextFeet_76 : decode cX5_setNextFeet 76 = .ok (.goto (-60), 3) := dk_167 (dw rcX5_setNextFeet_70 4 rfl) rfl
theorem dX5_setNextFeet_79 : decode cX5_setNextFeet 79 = .ok (.iconst 0, 1) := dk_3 (dw rcX5_setNextFeet_70 5 rfl)
theorem dX5_setNextFeet_80 : decode cX5_setNextFeet 80 = .ok (.istore_n 2, 1) := dk_61 (dw rcX5_setNextFeet_70 6 rfl)
theorem dX5_setNextFeet_81 : decode cX5_setNextFeet 81 = .ok (.iload_n 2, 1) := dk_28 (dw rcX5_setNextFeet_70 7 rfl)
theorem dX5_setNextFeet_82 : decode cX5_setNextFeet 82 = .ok (.aload_n 1, 1) := dk_43 (dw rcX5_setNextFeet_70 8 rfl)
theorem dX5_setNextFeet_83 : decode cX5_setNextFeet 83 = .ok (.getfield 30, 3) := dk_180 (dw rcX5_setNextFeet_70 9 rfl) rfl
theorem dX5_setNextFeet_86 : decode cX5_setNextFeet 86 = .ok (.if_icmp .gt 92, 3) := dk_163 (dw rcX5_setNextFeet_70 10 rfl) rfl
theorem dX5_setNextFeet_89 : decode cX5_setNextFeet 89 = .ok (.aload_n 1, 1) := dk_43 (dw rcX5_setNextFeet_70 11 rfl)
theorem dX5_setNextFeet_90 : decode cX5_setNextFeet 90 = .ok (.getfield 36, 3) := dk_180 (dw rcX5_setNextFeet_70 12 rfl) rfl
theorem dX5_setNextFeet_93 : decode cX5_setNextFeet 93 = .ok (.iload_n 2, 1) := dk_28 (dw rcX5_setNextFeet_70 13 rfl)
theorem dX5_setNextFeet_94 : decode cX5_setNextFeet 94 = .ok (.baload, 1) := dk_51 (dw rcX5_setNextFeet_70 14 rfl)
theorem dX5_setNextFeet_95 : decode cX5_setNextFeet 95 = .ok (.istore_n 3, 1) := dk_62 (dw rcX5_setNextFeet_70 15 rfl)
theorem dX5_setNextFeet_96 : decode cX5_setNextFeet 96 = .ok (.aload_n 0, 1) := dk_42 (dw rcX5_setNextFeet_70 16 rfl)
theorem dX5_setNextFeet_97 : decode cX5_setNextFeet 97 = .ok (.getfield 11, 3) := dk_180 (dw rcX5_setNextFeet_70 17 rfl) rfl
theorem dX5_setNextFeet_100 : decode cX5_setNextFeet 100 = .ok (.iload_n 2, 1) := dk_28 (dw rcX5_setNextFeet_70 18 rfl)
theorem dX5_setNextFeet_101 : decode cX5_setNextFeet 101 = .ok (.iload_n 3, 1) := dk_29 (dw rcX5_setNextFeet_70 19 rfl)
theorem dX5_setNextFeet_102 : decode cX5_setNextFeet 102 = .ok (.ifCond .eq 29, 3) := dk_153 (dw rcX5_setNextFeet_70 20 rfl) rfl
theorem dX5_setNextFeet_105 : decode cX5_setNextFeet 105 = .ok (.aload_n 0, 1) := dk_42 (dw rcX5_setNextFeet_70 21 rfl)
theorem dX5_setNextFeet_106 : decode cX5_setNextFeet 106 = .ok (.getfield 18, 3) := dk_180 (dw rcX5_setNextFeet_70 22 rfl) rfl
theorem dX5_setNextFeet_109 : decode cX5_setNextFeet 109 = .ok (.aload_n 1, 1) := dk_43 (dw rcX5_setNextFeet_70 23 rfl)
noncomputable def rbX5_setNextFeet_110 : List (Nat × List Nat) := [(110, [180, 0, 47]), (113, [28]), (114, [43]), (115, [180, 0, 40]), (118, [100]), (119, [28]), (120, [43]), (121, [180, 0, 58]), (124, [100]), (125, [184, 0, 61]), (128, [167, 0, 4]), (131, [9]), (132, [80]), (133, [42]), (134, [180, 0, 15]), (137, [28]), (138, [29]), (139, [153, 0, 31]), (142, [42]), (143, [180, 0, 21]), (146, [43]), (147, [180, 0, 47]), (150, [28]), (151, [43])]
theorem rcX5_setNextFeet_110 : dgo (lb cX5_setNextFeet) 0 rbX5_setNextFeet_110 = true := by decide +kernel
theorem dX5_setNextFeet_110 : decode cX5_setNextFeet 110 = .ok (.getfield 47, 3) := dk_180 (dw rcX5_setNextFeet_110 0 rfl) rfl
theorem dX5_setNextFeet_113 : decode cX5_setNextFeet 113 = .ok (.iload_n 2, 1) := dk_28 (dw rcX5_setNextFeet_110 1 rfl)
theorem dX5_setNextFeet_114 : decode cX5_setNextFeet 114 = .ok (.aload_n 1, 1) := dk_43 (dw rcX5_setNextFeet_110 2 rfl)
theorem dX5_setNextFeet_115 : decode cX5_setNextFeet 115 = .ok (.getfield 40, 3) := dk_180 (dw rcX5_setNextFeet_110 3 rfl) rfl
theorem dX5_setNextFeet_118 : decode cX5_setNextFeet 118 = .ok (.isub, 1) := dk_100 (dw rcX5_setNextFeet_110 4 rfl)
theorem dX5_setNextFeet_119 : decode cX5_setNextFeet 119 = .ok (.iload_n 2, 1) := dk_28 (dw rcX5_setNextFeet_110 5 rfl)
theorem dX5_setNextFeet_120 : decode cX5_setNextFeet 120 = .ok (.aload_n 1, 1) := dk_43 (dw rcX5_setNextFeet_110 6 rfl)
theorem dX5_setNextFeet_121 : decode cX5_setNextFeet 121 = .ok (.getfield 58, 3) := dk_180 (dw rcX5_setNextFeet_110 7 rfl) rfl
theorem dX5_setNextFeet_124 : decode cX5_setNextFeet 124 = .ok (.isub, 1) := dk_100 (dw rcX5_setNextFeet_110 8 rfl)
theorem dX5_setNextFeet_125 : decode cX5_setNextFeet 125 = .ok (.invokestatic 61, 3) := dk_184 (dw rcX5_setNextFeet_110 9 rfl) rfl
theorem dX5_setNextFeet_128 : decode cX5_setNextFeet 128 = .ok (.goto 4, 3) := dk_167 (dw rcX5_setNextFeet_110 10 rfl) rfl
theorem dX5_setNextFeet_131 : decode cX5_setNextFeet 131 = .ok (.lconst 0, 1) := dk_9 (dw rcX5_setNextFeet_110 11 rfl)
theorem dX5_setNextFeet_132 : decode cX5_setNextFeet 132 = .ok (.lastore, 1) := dk_80 (dw rcX5_setNextFeet_110 12 rfl)
theorem dX5_setNextFeet_133 : decode cX5_setNextFeet 133 = .ok (.aload_n 0, 1) := dk_42 (dw rcX5_setNextFeet_110 13 rfl)
theorem dX5_setNextFeet_134 : decode cX5_setNextFeet 134 = .ok (.getfield 15, 3) := dk_180 (dw rcX5_setNextFeet_110 14 rfl) rfl
theorem dX5_setNextFeet_137 : decode cX5_setNextFeet 137 = .ok (.iload_n 2, 1) := dk_28 (dw rcX5_setNextFeet_110 15 rfl)
theorem dX5_setNextFeet_138 : decode cX5_setNextFeet 138 = .ok (.iload_n 3, 1) := dk_29 (dw rcX5_setNextFeet_110 16 rfl)
theorem dX5_setNextFeet_139 : decode cX5_setNextFeet 139 = .ok (.ifCond .eq 31, 3) := dk_153 (dw rcX5_setNextFeet_110 17 rfl) rfl
theorem dX5_setNextFeet_142 : decode cX5_setNextFeet 142 = .ok (.aload_n 0, 1) := dk_42 (dw rcX5_setNextFeet_110 18 rfl)
theorem dX5_setNextFeet_143 : decode cX5_setNextFeet 143 = .ok (.getfield 21, 3) := dk_180 (dw rcX5_setNextFeet_110 19 rfl) rfl
theorem dX5_setNextFeet_146 : decode cX5_setNextFeet 146 = .ok (.aload_n 1, 1) := dk_43 (dw rcX5_setNextFeet_110 20 rfl)
theorem dX5_setNextFeet_147 : decode cX5_setNextFeet 147 = .ok (.getfield 47, 3) := dk_180 (dw rcX5_setNextFeet_110 21 rfl) rfl
theorem dX5_setNextFeet_150 : decode cX5_setNextFeet 150 = .ok (.iload_n 2, 1) := dk_28 (dw rcX5_setNextFeet_110 22 rfl)
theorem dX5_setNextFeet_151 : decode cX5_setNextFeet 151 = .ok (.aload_n 1, 1) := dk_43 (dw rcX5_setNextFeet_110 23 rfl)
noncomputable def rbX5_setNextFeet_152 : List (Nat × List Nat) := [(152, [180, 0, 65]), (155, [100]), (156, [28]), (157, [43]), (158, [180, 0, 40]), (161, [100]), (162, [4]), (163, [100]), (164, [184, 0, 61]), (167, [167, 0, 4]), (170, [9]), (171, [80]), (172, [132, 2, 1]), (175, [167, 255, 162]), (178, [177])]
theorem rcX5_setNextFeet_152 : dgo (lb cX5_setNextFeet) 0 rbX5_setNextFeet_152 = true := by decide +kernel
theorem dX5_setNextFeet_152 : decode cX5_setNextFeet 152 = .ok (.getfield 65, 3) := dk_180 (dw rcX5_setNextFeet_152 0 rfl) rfl
theorem dX5_setNextFeet_155 : decode cX5_setNextFeet 155 = .ok (.isub, 1) := dk_100 (dw rcX5_setNextFeet_152 1 rfl)
theorem dX5_setNextFeet_156 : decode cX5_setNextFeet 156 = .ok (.iload_n 2, 1) := dk_28 (dw rcX5_setNextFeet_152 2 rfl)
theorem dX5_setNextFeet_157 : decode cX5_setNextFeet 157 = .ok (.aload_n 1, 1) := dk_43 (dw rcX5_setNextFeet_152 3 rfl)
theorem dX5_setNextFeet_158 : decode cX5_setNextFeet 158 = .ok (.getfield 40, 3) := dk_180 (dw rcX5_setNextFeet_152 4 rfl) rfl
theorem dX5_setNextFeet_161 : decode cX5_setNextFeet 161 = .ok (.isub, 1) := dk_100 (dw rcX5_setNextFeet_152 5 rfl)
theorem dX5_setNextFeet_162 : decode cX5_setNextFeet 162 = .ok (.iconst 1, 1) := dk_4 (dw rcX5_setNextFeet_152 6 rfl)
theorem dX5_setNextFeet_163 : decode cX5_setNextFeet 163 = .ok (.isub, 1) := dk_100 (dw rcX5_setNextFeet_152 7 rfl)
theorem dX5_setNextFeet_164 : decode cX5_setNextFeet 164 = .ok (.invokestatic 61, 3) := dk_184 (dw rcX5_setNextFeet_152 8 rfl) rfl
theorem dX5_setNextFeet_167 : decode cX5_setNextFeet 167 = .ok (.goto 4, 3) := dk_167 (dw rcX5_setNextFeet_152 9 rfl) rfl
theorem dX5_setNextFeet_170 : decode cX5_setNextFeet 170 = .ok (.lconst 0, 1) := dk_9 (dw rcX5_setNextFeet_152 10 rfl)
theorem dX5_setNextFeet_171 : decode cX5_setNextFeet 171 = .ok (.lastore, 1) := dk_80 (dw rcX5_setNextFeet_152 11 rfl)
theorem dX5_setNextFeet_172 : decode cX5_setNextFeet 172 = .ok (.iinc 2 1, 3) := dk_132 (dw rcX5_setNextFeet_152 12 rfl) rfl
theorem dX5_setNextFeet_175 : decode cX5_setNextFeet 175 = .ok (.goto (-94), 3) := dk_167 (dw rcX5_setNextFeet_152 13 rfl) rfl
theorem dX5_setNextFeet_178 : decode cX5_setNextFeet 178 = .ok (.return_, 1) := dk_177 (dw rcX5_setNextFeet_152 14 rfl)
noncomputable def rbX5_sumOf_0 : List (Nat × List Nat) := [(0, [3]), (1, [28]), (2, [184, 0, 68]), (5, [54, 4]), (7, [29]), (8, [4]), (9, [96]), (10, [27]), (11, [184, 0, 72]), (14, [54, 5]), (16, [21, 5]), (18, [21, 4]), (20, [163, 0, 7]), (23, [9]), (24, [167, 0, 18]), (27, [20, 0, 50]), (30, [42]), (31, [21, 5]), (33, [47]), (34, [42]), (35, [21, 4]), (37, [47]), (38, [101]), (39, [184, 0, 52])]
theorem rcX5_sumOf_0 : dgo (lb cX5_sumOf) 0 rbX5_sumOf_0 = true := by decide +kernel
theorem dX5_sumOf_0 : decode cX5_sumOf 0 = .ok (.iconst 0, 1) := dk_3 (dw rcX5_sumOf_0 0 rfl)
theorem dX5_sumOf_1 : decode cX5_sumOf 1 = .ok (.iload_n 2, 1) := dk_28 (dw rcX5_sumOf_0 1 rfl)
theorem dX5_sumOf_2 : decode cX5_sumOf 2 = .ok (.invokestatic 68, 3) := dk_184 (dw rcX5_sumOf_0 2 rfl) rfl
theorem dX5_sumOf_5 : decode cX5_sumOf 5 = .ok (.istore 4, 2) := dk_54 (dw rcX5_sumOf_0 3 rfl)
theorem dX5_sumOf_7 : decode cX5_sumOf 7 = .ok (.iload_n 3, 1) := dk_29 (dw rcX5_sumOf_0 4 rfl)
theorem dX5_sumOf_8 : decode cX5_sumOf 8 = .ok (.iconst 1, 1) := dk_4 (dw rcX5_sumOf_0 5 rfl)
theorem dX5_sumOf_9 : decode cX5_sumOf 9 = .ok (.iadd, 1) := dk_96 (dw rcX5_sumOf_0 6 rfl)
theorem dX5_sumOf_10 : decode cX5_sumOf 10 = .ok (.iload_n 1, 1) := dk_27 (dw rcX5_sumOf_0 7 rfl)
theorem dX5_sumOf_11 : decode cX5_sumOf 11 = .ok (.invokestatic 72, 3) := dk_184 (dw rcX5_sumOf_0 8 rfl) rfl
theorem dX5_sumOf_14 : decode cX5_sumOf 14 = .ok (.istore 5, 2) := dk_54 (dw rcX5_sumOf_0 9 rfl)
theorem dX5_sumOf_16 : decode cX5_sumOf 16 = .ok (.iload 5, 2) := dk_21 (dw rcX5_sumOf_0 10 rfl)
theorem dX5_sumOf_18 : decode cX5_sumOf 18 = .ok (.iload 4, 2) := dk_21 (dw rcX5_sumOf_0 11 rfl)
theorem dX5_sumOf_20 : decode cX5_sumOf 20 = .ok (.if_icmp .gt 7, 3) := dk_163 (dw rcX5_sumOf_0 12 rfl) rfl
theorem dX5_sumOf_23 : decode cX5_sumOf 23 = .ok (.lconst 0, 1) := dk_9 (dw rcX5_sumOf_0 13 rfl)
theorem dX5_sumOf_24 : decode cX5_sumOf 24 = .ok (.goto 18, 3) := dk_167 (dw rcX5_sumOf_0 14 rfl) rfl
theorem dX5_sumOf_27 : decode cX5_sumOf 27 = .ok (.ldc2_w 50, 3) := dk_20 (dw rcX5_sumOf_0 15 rfl) rfl
theorem dX5_sumOf_30 : decode cX5_sumOf 30 = .ok (.aload_n 0, 1) := dk_42 (dw rcX5_sumOf_0 16 rfl)
theorem dX5_sumOf_31 : decode cX5_sumOf 31 = .ok (.iload 5, 2) := dk_21 (dw rcX5_sumOf_0 17 rfl)
theorem dX5_sumOf_33 : decode cX5_sumOf 33 = .ok (.laload, 1) := dk_47 (dw rcX5_sumOf_0 18 rfl)
theorem dX5_sumOf_34 : decode cX5_sumOf 34 = .ok (.aload_n 0, 1) := dk_42 (dw rcX5_sumOf_0 19 rfl)
theorem dX5_sumOf_35 : decode cX5_sumOf 35 = .ok (.iload 4, 2) := dk_21 (dw rcX5_sumOf_0 20 rfl)
theorem dX5_sumOf_37 : decode cX5_sumOf 37 = .ok (.laload, 1) := dk_47 (dw rcX5_sumOf_0 21 rfl)
theorem dX5_sumOf_38 : decode cX5_sumOf 38 = .ok (.lsub, 1) := dk_101 (dw rcX5_sumOf_0 22 rfl)
theorem dX5_sumOf_39 : decode cX5_sumOf 39 = .ok (.invokestatic 52, 3) := dk_184 (dw rcX5_sumOf_0 23 rfl) rfl
theorem dX5_sumOf_42 : decode cX5_sumOf 42 = .ok (.lreturn, 1) := dq_of (by decide +kernel)
set_option maxHeartbeats 4000000 in
set_option maxRecDepth 100000 in
theorem k_oSum_54 (l : Launch) (D : va_G) (k : KT) (A : Nat → Prop) (a : Nat → Nat) (z : SK) (G : GS) (p0 : Int32) (p1 : Int32) (p2 : Int32) (ha_p0 : 0 ≤ p0.toInt ∧ p0.toInt ≤ 400) (ha_p1 : -200 ≤ p1.toInt ∧ p1.toInt ≤ 600) (ha_p2 : -200 ≤ p2.toInt ∧ p2.toInt ≤ 600) : Met l yX5_sumOf (WS yX5_sumOf cX5_sumOf 6 (some .long)) ({ frames := 1, cells := 0, slots := 0, locals := 15 }) (va_Pc [.ref (a 54), .int p0, .int p1, .int p2] (cW D k A a z G)) (va_Ql (fun (r : Int64) (G1 : GS) => P_oSum_54 p0 p1 p2 G r G1) (fun (G1 : GS) t => Wd D k A a G1 t.heap) A) 0 0 A := by
  refine Met.ofW (cc := cX5_sumOf) (maxL := 6) (ret := (some .long)) (by decide) rfl ?_
  intro p e s m args below meth c s₁ B hml hv
  obtain ⟨rfl, hW, hB_G, hK, hZ⟩ := hv
  have hx := B.exec
  have hb := B.bytes
  have hr := B.returns
  have hts := atoms_spec (ws := WS yX5_sumOf cX5_sumOf 6 (some .long)) B.pre
  have hgd : ∀ w ∈ gd, w ∈ WS yX5_sumOf cX5_sumOf 6 (some .long) := fun w h => List.mem_cons_of_mem _ h
  have hg : ∀ w ∈ gd, w.before _ s = true := fun w h => hts w (hgd w h)
  have hown : s.vm.findClass RX5 = some m.cls := findClass_of_methodNamed B.named
  have hS : va_S A s.heap s.heap [] := va_S.rf
  have hF : Fr [] [] G G := Fr.rf
  have hl := lv_entry ([.ref (a 54), .int p0, .int p1, .int p2]) (n := 6) (Nat.le_of_ble_eq_true rfl)
  rw [lg_entry_eq]
  generalize (lg_sl ([.ref (a 54), .int p0, .int p1, .int p2]) ++ List.replicate (6 - (lg_sl ([.ref (a 54), .int p0, .int p1, .int p2])).length) Slot.unset).toArray = ls at hl ⊢
  have hl : lv_has ls 6 [(0, .ref (a 54)), (1, .int p0), (2, .int p1), (3, .int p2)] := hl
  refine ic_0 hx hb dX5_sumOf_0 ?_
  refine lv_iload_n hx hb dX5_sumOf_1 rfl (lv_at hl 2 rfl) ?_
  refine va_mmax hx hb (by rw [hml]; exact hl.1.symm) hown (hg (Cond.methodLink RX5 68 Lib.Math.max.name) m1030) (hg (Cond.static Lib.Math.max.name) m728) (hg (Cond.initialized "java/lang/Math") m132) (hg (Cond.code Lib.Math.max.name Lib.Math.max.code 2 (some .int)) m729) (Nat.le_of_ble_eq_true rfl) (Nat.le_of_ble_eq_true rfl) (Nat.le_of_ble_eq_true rfl) (Nat.le_of_ble_eq_true rfl) dX5_sumOf_2 ?_
  refine lv_topi (fun y_1 ey_1 => ?_)
  have ty_1 := xI_max (X := 0) (Y := p1.toInt) rfl rfl ey_1
  refine lv_istore (lv' := [(4, .int y_1), (0, .ref (a 54)), (1, .int p0), (2, .int p1), (3, .int p2)]) hx hb dX5_sumOf_5 hl (lt_b rfl) rfl (fun ls hl => ?_)
  refine lv_iload_n hx hb dX5_sumOf_7 rfl (lv_at hl 4 rfl) ?_
  refine ic_1 hx hb dX5_sumOf_8 ?_
  refine lv_iadd hx hb dX5_sumOf_9 ?_
  refine lv_topi (fun y_2 ey_2 => ?_)
  have ty_2 : y_2.toInt = p2.toInt + 1 := xI_add rfl rfl ey_2 ((by first | exact ok_215 ha_p2.1 | omega)) ((by first | exact ok_216 ha_p2.2 | omega))
  refine lv_iload_n hx hb dX5_sumOf_10 rfl (lv_at hl 2 rfl) ?_
  refine va_mmin hx hb (by rw [hml]; exact hl.1.symm) hown (hg (Cond.methodLink RX5 72 Lib.Math.min.name) m1031) (hg (Cond.static Lib.Math.min.name) m636) (hg (Cond.initialized "java/lang/Math") m132) (hg (Cond.code Lib.Math.min.name Lib.Math.min.code 2 (some .int)) m637) (Nat.le_of_ble_eq_true rfl) (Nat.le_of_ble_eq_true rfl) (Nat.le_of_ble_eq_true rfl) (Nat.le_of_ble_eq_true rfl) dX5_sumOf_11 ?_
  refine lv_topi (fun y_3 ey_3 => ?_)
  have ty_3 := xI_min (X := y_2.toInt) (Y := p0.toInt) rfl rfl ey_3
  refine lv_istore (lv' := [(5, .int y_3), (4, .int y_1), (0, .ref (a 54)), (1, .int p0), (2, .int p1), (3, .int p2)]) hx hb dX5_sumOf_14 hl (lt_b rfl) rfl (fun ls hl => ?_)
  refine lv_iload hx hb dX5_sumOf_16 (lv_at hl 0 rfl) ?_
  refine lv_iload hx hb dX5_sumOf_18 (lv_at hl 1 rfl) ?_
  refine lv_icmp_gt (tgt := 27) hx hb dX5_sumOf_20 rfl (fun c_4 => ?_) (fun c_4 => ?_)
  · have c_4 : y_1.toInt < y_3.toInt := xI_lt rfl rfl c_4
    refine lv_ldc2 (v := 1000000000000000) hx hb hown (hg (Cond.constantLong RX5 50 1000000000000000) m1032) dX5_sumOf_27 ?_
    refine lv_aload_n hx hb dX5_sumOf_30 rfl (lv_at hl 2 rfl) ?_
    refine lv_iload hx hb dX5_sumOf_31 (lv_at hl 0 rfl) ?_
    refine S_lald hx hb hK hW kd_54 (vin ((by first | exact ok_217 ty_1 c_4 | omega)) ((by first | exact ok_218 ha_p0.2 ty_3 | omega))) dX5_sumOf_33 (fun y_5 ey_5 => ?_)
    refine lv_aload_n hx hb dX5_sumOf_34 rfl (lv_at hl 2 rfl) ?_
    refine lv_iload hx hb dX5_sumOf_35 (lv_at hl 1 rfl) ?_
    refine S_lald hx hb hK hW kd_54 (vin ((by first | exact ok_182 ty_1 | omega)) ((by first | exact ok_219 ha_p0.2 ty_3 c_4 | omega))) dX5_sumOf_37 (fun y_6 ey_6 => ?_)
    refine lv_lsub hx hb dX5_sumOf_38 ?_
    refine lv_topl (fun y_7 ey_7 => ?_)
    refine va_mmin_long hx hb (by rw [hml]; exact hl.1.symm) hown (hg (Cond.methodLink RX5 52 Lib.MathLoose.min_long.x) m1033) (hg (Cond.static Lib.MathLoose.min_long.x) m1034) (hg (Cond.initialized "java/lang/Math") m132) (hg (Cond.code Lib.MathLoose.min_long.x Lib.MathLoose.min_long.code 4 (some .long)) m1035) (Nat.le_of_ble_eq_true rfl) (Nat.le_of_ble_eq_true rfl) (Nat.le_of_ble_eq_true rfl) (Nat.le_of_ble_eq_true rfl) dX5_sumOf_39 ?_
    refine lv_topl (fun y_8 ey_8 => ?_)
    exact W.lret (v := y_8) hx hb hr (fun t ht _ => ⟨⟨y_8, G, rfl, (P_oSum_54_mk ⟨hB_G, hF, ⟨y_1, ty_1, ⟨y_2, ty_2, ⟨y_3, ty_3, (Or.inl ⟨c_4, ⟨y_5, ey_5, ⟨y_6, ey_6, ⟨y_7, ey_7, ⟨y_8, ey_8, ⟨rfl, rfl⟩⟩⟩⟩⟩⟩)⟩⟩⟩⟩), wd_t ht hW⟩, hS.F ht⟩) hS.2.2 dX5_sumOf_42
  · have c_4 : y_3.toInt ≤ y_1.toInt := xI_nlt rfl rfl c_4
    refine lv_lconst (v := 0) hx hb dX5_sumOf_23 (by decide) ?_
    refine lv_goto (tgt := 42) hx hb dX5_sumOf_24 rfl ?_
    exact W.lret (v := 0) hx hb hr (fun t ht _ => ⟨⟨0, G, rfl, (P_oSum_54_mk ⟨hB_G, hF, ⟨y_1, ty_1, ⟨y_2, ty_2, ⟨y_3, ty_3, (Or.inr ⟨c_4, ⟨rfl, rfl⟩⟩)⟩⟩⟩⟩), wd_t ht hW⟩, hS.F ht⟩) hS.2.2 dX5_sumOf_42

set_option maxHeartbeats 4000000 in
set_option maxRecDepth 100000 in
theorem k_oSum_55 (l : Launch) (D : va_G) (k : KT) (A : Nat → Prop) (a : Nat → Nat) (z : SK) (G : GS) (p0 : Int32) (p1 : Int32) (p2 : Int32) (ha_p0 : 0 ≤ p0.toInt ∧ p0.toInt ≤ 400) (ha_p1 : -200 ≤ p1.toInt ∧ p1.toInt ≤ 600) (ha_p2 : -200 ≤ p2.toInt ∧ p2.toInt ≤ 600) : Met l yX5_sumOf (WS yX5_sumOf cX5_sumOf 6 (some .long)) ({ frames := 1, cells := 0, slots := 0, locals := 15 }) (va_Pc [.ref (a 55), .int p0, .int p1, .int p2] (cW D k A a z G)) (va_Ql (fun (r : Int64) (G1 : GS) => P_oSum_55 p0 p1 p2 G r G1) (fun (G1 : GS) t => Wd D k A a G1 t.heap) A) 0 0 A := by
  refine Met.ofW (cc := cX5_sumOf) (maxL := 6) (ret := (some .long)) (by decide) rfl ?_
  intro p e s m args below meth c s₁ B hml hv
  obtain ⟨rfl, hW, hB_G, hK, hZ⟩ := hv
  have hx := B.exec
  have hb := B.bytes
  have hr := B.returns
  have hts := atoms_spec (ws := WS yX5_sumOf cX5_sumOf 6 (some .long)) B.pre
  have hgd : ∀ w ∈ gd, w ∈ WS yX5_sumOf cX5_sumOf 6 (some .long) := fun w h => List.mem_cons_of_mem _ h
  have hg : ∀ w ∈ gd, w.before _ s = true := fun w h => hts w (hgd w h)
  have hown : s.vm.findClass RX5 = some m.cls := findClass_of_methodNamed B.named
  have hS : va_S A s.heap s.heap [] := va_S.rf
  have hF : Fr [] [] G G := Fr.rf
  have hl := lv_entry ([.ref (a 55), .int p0, .int p1, .int p2]) (n := 6) (Nat.le_of_ble_eq_true rfl)
  rw [lg_entry_eq]
  generalize (lg_sl ([.ref (a 55), .int p0, .int p1, .int p2]) ++ List.replicate (6 - (lg_sl ([.ref (a 55), .int p0, .int p1, .int p2])).length) Slot.unset).toArray = ls at hl ⊢
  have hl : lv_has ls 6 [(0, .ref (a 55)), (1, .int p0), (2, .int p1), (3, .int p2)] := hl
  refine ic_0 hx hb dX5_sumOf_0 ?_
  refine lv_iload_n hx hb dX5_sumOf_1 rfl (lv_at hl 2 rfl) ?_
  refine va_mmax hx hb (by rw [hml]; exact hl.1.symm) hown (hg (Cond.methodLink RX5 68 Lib.Math.max.name) m1030) (hg (Cond.static Lib.Math.max.name) m728) (hg (Cond.initialized "java/lang/Math") m132) (hg (Cond.code Lib.Math.max.name Lib.Math.max.code 2 (some .int)) m729) (Nat.le_of_ble_eq_true rfl) (Nat.le_of_ble_eq_true rfl) (Nat.le_of_ble_eq_true rfl) (Nat.le_of_ble_eq_true rfl) dX5_sumOf_2 ?_
  refine lv_topi (fun y_1 ey_1 => ?_)
  have ty_1 := xI_max (X := 0) (Y := p1.toInt) rfl rfl ey_1
  refine lv_istore (lv' := [(4, .int y_1), (0, .ref (a 55)), (1, .int p0), (2, .int p1), (3, .int p2)]) hx hb dX5_sumOf_5 hl (lt_b rfl) rfl (fun ls hl => ?_)
  refine lv_iload_n hx hb dX5_sumOf_7 rfl (lv_at hl 4 rfl) ?_
  refine ic_1 hx hb dX5_sumOf_8 ?_
  refine lv_iadd hx hb dX5_sumOf_9 ?_
  refine lv_topi (fun y_2 ey_2 => ?_)
  have ty_2 : y_2.toInt = p2.toInt + 1 := xI_add rfl rfl ey_2 ((by first | exact ok_215 ha_p2.1 | omega)) ((by first | exact ok_216 ha_p2.2 | omega))
  refine lv_iload_n hx hb dX5_sumOf_10 rfl (lv_at hl 2 rfl) ?_
  refine va_mmin hx hb (by rw [hml]; exact hl.1.symm) hown (hg (Cond.methodLink RX5 72 Lib.Math.min.name) m1031) (hg (Cond.static Lib.Math.min.name) m636) (hg (Cond.initialized "java/lang/Math") m132) (hg (Cond.code Lib.Math.min.name Lib.Math.min.code 2 (some .int)) m637) (Nat.le_of_ble_eq_true rfl) (Nat.le_of_ble_eq_true rfl) (Nat.le_of_ble_eq_true rfl) (Nat.le_of_ble_eq_true rfl) dX5_sumOf_11 ?_
  refine lv_topi (fun y_3 ey_3 => ?_)
  have ty_3 := xI_min (X := y_2.toInt) (Y := p0.toInt) rfl rfl ey_3
  refine lv_istore (lv' := [(5, .int y_3), (4, .int y_1), (0, .ref (a 55)), (1, .int p0), (2, .int p1), (3, .int p2)]) hx hb dX5_sumOf_14 hl (lt_b rfl) rfl (fun ls hl => ?_)
  refine lv_iload hx hb dX5_sumOf_16 (lv_at hl 0 rfl) ?_
  refine lv_iload hx hb dX5_sumOf_18 (lv_at hl 1 rfl) ?_
  refine lv_icmp_gt (tgt := 27) hx hb dX5_sumOf_20 rfl (fun c_4 => ?_) (fun c_4 => ?_)
  · have c_4 : y_1.toInt < y_3.toInt := xI_lt rfl rfl c_4
    refine lv_ldc2 (v := 1000000000000000) hx hb hown (hg (Cond.constantLong RX5 50 1000000000000000) m1032) dX5_sumOf_27 ?_
    refine lv_aload_n hx hb dX5_sumOf_30 rfl (lv_at hl 2 rfl) ?_
    refine lv_iload hx hb dX5_sumOf_31 (lv_at hl 0 rfl) ?_
    refine S_lald hx hb hK hW kd_55 (vin ((by first | exact ok_217 ty_1 c_4 | omega)) ((by first | exact ok_218 ha_p0.2 ty_3 | omega))) dX5_sumOf_33 (fun y_5 ey_5 => ?_)
    refine lv_aload_n hx hb dX5_sumOf_34 rfl (lv_at hl 2 rfl) ?_
    refine lv_iload hx hb dX5_sumOf_35 (lv_at hl 1 rfl) ?_
    refine S_lald hx hb hK hW kd_55 (vin ((by first | exact ok_182 ty_1 | omega)) ((by first | exact ok_219 ha_p0.2 ty_3 c_4 | omega))) dX5_sumOf_37 (fun y_6 ey_6 => ?_)
    refine lv_lsub hx hb dX5_sumOf_38 ?_
    refine lv_topl (fun y_7 ey_7 => ?_)
    refine va_mmin_long hx hb (by rw [hml]; exact hl.1.symm) hown (hg (Cond.methodLink RX5 52 Lib.MathLoose.min_long.x) m1033) (hg (Cond.static Lib.MathLoose.min_long.x) m1034) (hg (Cond.initialized "java/lang/Math") m132) (hg (Cond.code Lib.MathLoose.min_long.x Lib.MathLoose.min_long.code 4 (some .long)) m1035) (Nat.le_of_ble_eq_true rfl) (Nat.le_of_ble_eq_true rfl) (Nat.le_of_ble_eq_true rfl) (Nat.le_of_ble_eq_true rfl) dX5_sumOf_39 ?_
    refine lv_topl (fun y_8 ey_8 => ?_)
    exact W.lret (v := y_8) hx hb hr (fun t ht _ => ⟨⟨y_8, G, rfl, (P_oSum_55_mk ⟨hB_G, hF, ⟨y_1, ty_1, ⟨y_2, ty_2, ⟨y_3, ty_3, (Or.inl ⟨c_4, ⟨y_5, ey_5, ⟨y_6, ey_6, ⟨y_7, ey_7, ⟨y_8, ey_8, ⟨rfl, rfl⟩⟩⟩⟩⟩⟩)⟩⟩⟩⟩), wd_t ht hW⟩, hS.F ht⟩) hS.2.2 dX5_sumOf_42
  · have c_4 : y_3.toInt ≤ y_1.toInt := xI_nlt rfl rfl c_4
    refine lv_lconst (v := 0) hx hb dX5_sumOf_23 (by decide) ?_
    refine lv_goto (tgt := 42) hx hb dX5_sumOf_24 rfl ?_
    exact W.lret (v := 0) hx hb hr (fun t ht _ => ⟨⟨0, G, rfl, (P_oSum_55_mk ⟨hB_G, hF, ⟨y_1, ty_1, ⟨y_2, ty_2, ⟨y_3, ty_3, (Or.inr ⟨c_4, ⟨rfl, rfl⟩⟩)⟩⟩⟩⟩), wd_t ht hW⟩, hS.F ht⟩) hS.2.2 dX5_sumOf_42

set_option maxHeartbeats 4000000 in
set_option maxRecDepth 100000 in
theorem k_oNext (l : Launch) (D : va_G) (k : KT) (A : Nat → Prop) (a : Nat → Nat) (z : SK) (G : GS)  (hci : (G.1 7 6).toInt ≤ 399 ∧ (G.1 7 3).toInt ≤ (G.1 7 4).toInt ∧ ((G.1 7 7).toInt ≤ 0 ∨ (G.1 7 7).toInt + (G.1 7 4).toInt ≤ (G.1 7 6).toInt + 1)) : Met l yX5_setNextFeet (WS yX5_setNextFeet cX5_setNextFeet 4 none) ({ frames := 2, cells := 0, slots := 0, locals := 40 }) (va_Pc [.ref (a 29), .ref (a 7)] (cW D k A a z G)) (va_Qv (fun (G1 : GS) => P_oNext G G1) (fun (G1 : GS) t => Wd D k A a G1 t.heap) A) 0 0 A := by
  refine Met.ofW (cc := cX5_setNextFeet) (maxL := 4) (ret := none) (by decide) rfl ?_
  intro p e s m args below meth c s₁ B hml hv
  obtain ⟨rfl, hW, hB_G, hK, hZ⟩ := hv
  have hx := B.exec
  have hb := B.bytes
  have hr := B.returns
  have hts := atoms_spec (ws := WS yX5_setNextFeet cX5_setNextFeet 4 none) B.pre
  have hgd : ∀ w ∈ gd, w ∈ WS yX5_setNextFeet cX5_setNextFeet 4 none := fun w h => List.mem_cons_of_mem _ h
  have hg : ∀ w ∈ gd, w.before _ s = true := fun w h => hts w (hgd w h)
  have hown : s.vm.findClass RX5 = some m.cls := findClass_of_methodNamed B.named
  have hS : va_S A s.heap s.heap [] := va_S.rf
  have hF : Fr [52, 53, 54, 55] [] G G := Fr.rf
  have hl := lv_entry ([.ref (a 29), .ref (a 7)]) (n := 4) (Nat.le_of_ble_eq_true rfl)
  rw [lg_entry_eq]
  generalize (lg_sl ([.ref (a 29), .ref (a 7)]) ++ List.replicate (4 - (lg_sl ([.ref (a 29), .ref (a 7)])).length) Slot.unset).toArray = ls at hl ⊢
  have hl : lv_has ls 4 [(0, .ref (a 29)), (1, .ref (a 7))] := hl
  have b_1 : (-1) ≤ (G.1 7 6).toInt ∧ (G.1 7 6).toInt ≤ 400 := bd_7_6 hB_G
  refine lv_aload_n hx hb dX5_setNextFeet_0 rfl (lv_at hl 0 rfl) ?_
  refine S_getR (n := 54) (C := RX5) (T := TX5) (N := 7) hx hb hg iX5 hown hK hW kd_29 rfl 2 (lt_b rfl) (hg (Cond.fieldLink RX5 18 "SlabWalk$Odds" "sums" "[J") m466) (fun _ h9 => h9) rfl dX5_setNextFeet_1 ?_
  refine ic_0 hx hb dX5_setNextFeet_4 ?_
  refine lv_lconst (v := 0) hx hb dX5_setNextFeet_5 (by decide) ?_
  refine S_last hx hb hK hW hS kd_54 (vin (by decide) (by decide)) dX5_setNextFeet_6 (fun G_2 H locs eG_2 hW hS => ?_)
  have hB_G_2 : Bd G_2 := hB_G.putl eG_2
  have hF := hF.putl eG_2 (Or.inl (by decide))
  refine lv_aload_n hx hb dX5_setNextFeet_7 rfl (lv_at hl 0 rfl) ?_
  refine S_getR (n := 55) (C := RX5) (T := TX5) (N := 7) hx hb hg iX5 hown hK hW kd_29 rfl 3 (lt_b rfl) (hg (Cond.fieldLink RX5 21 "SlabWalk$Odds" "steppedSums" "[J") m467) (fun _ h9 => h9) rfl dX5_setNextFeet_8 ?_
  refine ic_0 hx hb dX5_setNextFeet_11 ?_
  refine lv_lconst (v := 0) hx hb dX5_setNextFeet_12 (by decide) ?_
  refine S_last hx hb hK hW hS kd_55 (vin (by decide) (by decide)) dX5_setNextFeet_13 (fun G_3 H locs eG_3 hW hS => ?_)
  have hB_G_3 : Bd G_3 := hB_G_2.putl eG_3
  have hF := hF.putl eG_3 (Or.inl (by decide))
  refine ic_0 hx hb dX5_setNextFeet_14 ?_
  refine lv_istore_n (lv' := [(2, .int 0), (0, .ref (a 29)), (1, .ref (a 7))]) hx hb dX5_setNextFeet_15 rfl hl (lt_b rfl) rfl (fun ls hl => ?_)
  have qc_10 : (0 : Int32).toInt = 0 := rfl
  refine loop_N (Inv := fun n H locs ls => ∃ (G_4 : GS) (x_8 : Int32), (n : Int) = 400 - x_8.toInt ∧ (0 ≤ x_8.toInt ∧ x_8.toInt ≤ 400) ∧ Rc (St_k_oNext_1 G) (0, G_3) (x_8, G_4) ∧ Wd D k A a G_4 H ∧ Bd G_4 ∧ Fr [52, 53, 54, 55] [] G G_4 ∧ Fr [54, 55] [] G_3 G_4 ∧ va_S A s.heap H locs ∧ lv_has ls 4 [(2, .int x_8), (0, .ref (a 29)), (1, .ref (a 7))]) (fun n_7 H locs ls ih_6 hI => ?_) (400 - 0 : Int).toNat ⟨G_3, 0, (Int.toNat_of_nonneg ((by decide))), ⟨(by decide), (by decide)⟩, Rc.rf, hW, hB_G_3, hF, Fr.rf, hS, lv_sub hl [0, 1, 2] rfl⟩
  obtain ⟨G_4, x_8, hn_12, f_11, hX_9, hW, hB_G_4, hF, hq_5, hS, hl⟩ := hI
  refine lv_iload_n hx hb dX5_setNextFeet_16 rfl (lv_at hl 0 rfl) ?_
  refine lv_aload_n hx hb dX5_setNextFeet_17 rfl (lv_at hl 2 rfl) ?_
  have b_13 : 0 ≤ (G.1 7 7).toInt ∧ (G.1 7 7).toInt ≤ 400 := bd_7_7 hB_G
  refine S_getI (v := (G.1 7 7)) (C := RX0) (T := TX0) (N := 8) hx hb hg iX0 hown hK hW kd_7 rfl 7 (lt_b rfl) (hg (Cond.fieldLink RX5 47 "SlabWalk$Course" "end" "I") m392) (fun _ h9 => h9) rfl ((hq_5.i9 7 7 rfl rfl).trans ((congrFun (congrFun (gp_l eG_3).1 7) 7).trans (congrFun (congrFun (gp_l eG_2).1 7) 7))) dX5_setNextFeet_18 ?_
  refine lv_icmp_ge (tgt := 79) hx hb dX5_setNextFeet_21 rfl (fun c_14 => ?_) (fun c_14 => ?_)
  · have c_14 : (G.1 7 7).toInt ≤ x_8.toInt := xI_le rfl rfl c_14
    refine ic_0 hx hb dX5_setNextFeet_79 ?_
    refine lv_istore_n (lv' := [(2, .int 0), (0, .ref (a 29)), (1, .ref (a 7))]) hx hb dX5_setNextFeet_80 rfl hl (lt_b rfl) rfl (fun ls hl => ?_)
    have qc_21 : (0 : Int32).toInt = 0 := rfl
    refine loop_N (Inv := fun n H locs ls => ∃ (G_15 : GS) (x_19 : Int32), (n : Int) = 400 - x_19.toInt ∧ (0 ≤ x_19.toInt ∧ x_19.toInt ≤ 400) ∧ Rc (St_k_oNext_2 G) (0, G_4) (x_19, G_15) ∧ Wd D k A a G_15 H ∧ Bd G_15 ∧ Fr [52, 53, 54, 55] [] G G_15 ∧ Fr [52, 53] [] G_4 G_15 ∧ va_S A s.heap H locs ∧ lv_has ls 4 [(2, .int x_19), (0, .ref (a 29)), (1, .ref (a 7))]) (fun n_18 H locs ls ih_17 hI => ?_) (400 - 0 : Int).toNat ⟨G_4, 0, (Int.toNat_of_nonneg ((by decide))), ⟨(by decide), (by decide)⟩, Rc.rf, hW, hB_G_4, hF, Fr.rf, hS, lv_sub hl [0, 1, 2] rfl⟩
    obtain ⟨G_15, x_19, hn_23, f_22, hX_20, hW, hB_G_15, hF, hq_16, hS, hl⟩ := hI
    refine lv_iload_n hx hb dX5_setNextFeet_81 rfl (lv_at hl 0 rfl) ?_
    refine lv_aload_n hx hb dX5_setNextFeet_82 rfl (lv_at hl 2 rfl) ?_
    refine S_getI (v := (G.1 7 6)) (C := RX0) (T := TX0) (N := 8) hx hb hg iX0 hown hK hW kd_7 rfl 6 (lt_b rfl) (hg (Cond.fieldLink RX5 30 "SlabWalk$Course" "last" "I") m389) (fun _ h9 => h9) rfl ((hq_16.i9 7 6 rfl rfl).trans ((hq_5.i9 7 6 rfl rfl).trans ((congrFun (congrFun (gp_l eG_3).1 7) 6).trans ((congrFun (congrFun (gp_l eG_2).1 7) 6).trans (rfl))))) dX5_setNextFeet_83 ?_
    refine lv_icmp_gt (tgt := 178) hx hb dX5_setNextFeet_86 rfl (fun c_24 => ?_) (fun c_24 => ?_)
    · have c_24 : (G.1 7 6).toInt < x_19.toInt := xI_lt rfl rfl c_24
      exact W.vret hx hb hr (fun t ht _ => ⟨⟨G_15, rfl, (P_oNext_mk ⟨hB_G_15, hF, ⟨G_3, hB_G_3, (Fr.putl (rs := [54, 55]) (fs := []) (Fr.putl (rs := [54, 55]) (fs := []) Fr.rf eG_2 (Or.inl (by decide))) eG_3 (Or.inl (by decide))), (rl_ne eG_3 (by decide)).trans (rl_ast eG_2), (rl_ast eG_3).trans (congrArg (fun q => vp_updL q ((0 : Int32).toNatClampNeg) 0) (rl_ne eG_2 (by decide))), ⟨x_8, G_4, hX_9, f_11, hB_G_4, hq_5, ⟨c_14, ⟨x_19, G_15, hX_20, f_22, hB_G_15, hq_16, ⟨c_24, rfl⟩⟩⟩⟩⟩⟩), wd_t ht hW⟩, hS.F ht⟩) hS.2.2 dX5_setNextFeet_178
    · have c_24 : x_19.toInt ≤ (G.1 7 6).toInt := xI_nlt rfl rfl c_24
      refine lv_aload_n hx hb dX5_setNextFeet_89 rfl (lv_at hl 2 rfl) ?_
      refine S_getR (n := 40) (C := RX0) (T := TX0) (N := 8) hx hb hg iX0 hown hK hW kd_7 rfl 0 (lt_b rfl) (hg (Cond.fieldLink RX5 36 "SlabWalk$Course" "lawful" "[Z") m372) (fun _ h9 => h9) rfl dX5_setNextFeet_90 ?_
      refine lv_iload_n hx hb dX5_setNextFeet_93 rfl (lv_at hl 0 rfl) ?_
      refine S_zald hx hb hK hW kd_40 (vin ((by first | exact f_22.1 | omega)) ((by first | exact ok_220 hci.1 f_22.2 c_24 | omega))) dX5_setNextFeet_94 (fun y_25 ey_25 => ?_)
      have ty_25 : 0 ≤ y_25.toInt ∧ y_25.toInt ≤ 1 := bv_40 hB_G_15 ey_25
      refine lv_istore_n (lv' := [(3, .int y_25), (2, .int x_19), (0, .ref (a 29)), (1, .ref (a 7))]) hx hb dX5_setNextFeet_95 rfl hl (lt_b rfl) rfl (fun ls hl => ?_)
      refine lv_aload_n hx hb dX5_setNextFeet_96 rfl (lv_at hl 2 rfl) ?_
      refine S_getR (n := 52) (C := RX5) (T := TX5) (N := 7) hx hb hg iX5 hown hK hW kd_29 rfl 0 (lt_b rfl) (hg (Cond.fieldLink RX5 11 "SlabWalk$Odds" "stepped" "[J") m464) (fun _ h9 => h9) rfl dX5_setNextFeet_97 ?_
      refine lv_iload_n hx hb dX5_setNextFeet_100 rfl (lv_at hl 1 rfl) ?_
      refine lv_iload_n hx hb dX5_setNextFeet_101 rfl (lv_at hl 0 rfl) ?_
      refine W.cut (σ := Int64) (pcJ := 132) (J := fun y H locs ls => ∃ (G_33 : GS), Jn_k_oNext_3 x_19 y_25 G G_15 y G_33 ∧ Wd D k A a G_33 H ∧ Bd G_33 ∧ Fr [52, 53, 54, 55] [] G G_33 ∧ Fr [] [] G_15 G_33 ∧ va_S A s.heap H locs ∧ lv_has ls 4 [(3, .int y_25), (2, .int x_19), (0, .ref (a 29)), (1, .ref (a 7))]) (stJ := fun y => [.long y, .int x_19, .ref (a 52)]) ?_ (fun hJ_34 => ?_)
      · intro y H locs ls hI
        obtain ⟨w_30, hy⟩ : ∃ q, q = y := ⟨_, rfl⟩
        subst hy
        obtain ⟨G_33, hX_36, hW, hB_G_33, hF, hq_35, hS, hl⟩ := hI
        refine S_last hx hb hK hW hS kd_52 (vin ((by first | exact f_22.1 | omega)) ((by first | exact ok_221 f_22.2 | omega))) dX5_setNextFeet_132 (fun G_37 H locs eG_37 hW hS => ?_)
        have hB_G_37 : Bd G_37 := hB_G_33.putl eG_37
        have hF := hF.putl eG_37 (Or.inl (by decide))
        refine lv_aload_n hx hb dX5_setNextFeet_133 rfl (lv_at hl 2 rfl) ?_
        refine S_getR (n := 53) (C := RX5) (T := TX5) (N := 7) hx hb hg iX5 hown hK hW kd_29 rfl 1 (lt_b rfl) (hg (Cond.fieldLink RX5 15 "SlabWalk$Odds" "leapt" "[J") m465) (fun _ h9 => h9) rfl dX5_setNextFeet_134 ?_
        refine lv_iload_n hx hb dX5_setNextFeet_137 rfl (lv_at hl 1 rfl) ?_
        refine lv_iload_n hx hb dX5_setNextFeet_138 rfl (lv_at hl 0 rfl) ?_
        refine lv_if_eq (tgt := 170) hx hb dX5_setNextFeet_139 rfl (fun c_38 => ?_) (fun c_38 => ?_)
        · have c_38 : y_25.toInt = 0 := xI_eq rfl rfl c_38
          refine lv_lconst (v := 0) hx hb dX5_setNextFeet_170 (by decide) ?_
          refine S_last hx hb hK hW hS kd_53 (vin ((by first | exact f_22.1 | omega)) ((by first | exact ok_221 f_22.2 | omega))) dX5_setNextFeet_171 (fun G_39 H locs eG_39 hW hS => ?_)
          have hB_G_39 : Bd G_39 := hB_G_37.putl eG_39
          have hF := hF.putl eG_39 (Or.inl (by decide))
          obtain ⟨y_40, ey_40⟩ : ∃ q, q = x_19 + 1 := ⟨_, rfl⟩
          have ty_40 : y_40.toInt = x_19.toInt + 1 := xI_add rfl rfl ey_40 ((by first | exact ok_21 f_22.1 | omega)) ((by first | exact ok_40 f_22.2 | omega))
          refine lv_iinc (v := y_40) (lv' := [(2, .int y_40), (3, .int y_25), (0, .ref (a 29)), (1, .ref (a 7))]) hx hb dX5_setNextFeet_172 hl (k := 1) rfl (by rw [ey_40]; rfl) (lt_b rfl) rfl (fun ls hl => ?_)
          refine lv_goto (tgt := 81) hx hb dX5_setNextFeet_175 rfl ?_
          exact ih_17 (400 - y_40.toInt : Int).toNat ((by first | (clear hn_12 f_11 b_13 c_14 ty_25 c_38; omega) | omega)) _ _ _ ⟨G_39, y_40, (Int.toNat_of_nonneg ((by first | exact ok_222 hci.1 f_22.2 c_24 ty_40 | omega))), ⟨(by first | exact ok_23 f_22.1 ty_40 | omega), (by first | exact ok_223 hci.1 f_22.2 c_24 ty_40 | omega)⟩, (hX_20.st (St_k_oNext_2_mk ⟨x_19, G_15, y_40, G_39, rfl, rfl, f_22, hB_G_15, ⟨c_24, ⟨y_25, ey_25, ⟨w_30, G_33, hX_36, hB_G_33, hq_35, (Or.inl ⟨c_38, ⟨y_40, ty_40, ⟨rfl, (Fr.putl (rs := [52, 53]) (fs := []) (Fr.putl (rs := [52, 53]) (fs := []) Fr.rf eG_37 (Or.inl (by decide))) eG_39 (Or.inl (by decide))), (rl_ne eG_39 (by decide)).trans (rl_ast eG_37), (rl_ast eG_39).trans (congrArg (fun q => vp_updL q (x_19.toNatClampNeg) 0) (rl_ne eG_37 (by decide)))⟩⟩⟩)⟩⟩⟩⟩)), hW, hB_G_39, hF, (Fr.putl (rs := [52, 53]) (fs := []) (Fr.putl (rs := [52, 53]) (fs := []) (Fr.call9 (rs := [52, 53]) (fs := []) (Fr.call9 (rs := [52, 53]) (fs := []) Fr.rf hq_16 rfl rfl) hq_35 rfl rfl) eG_37 (Or.inl (by decide))) eG_39 (Or.inl (by decide))), hS, lv_sub hl [0, 2, 3] rfl⟩
        · have c_38 : y_25.toInt ≠ 0 := xI_ne rfl rfl c_38
          refine lv_aload_n hx hb dX5_setNextFeet_142 rfl (lv_at hl 2 rfl) ?_
          refine S_getR (n := 55) (C := RX5) (T := TX5) (N := 7) hx hb hg iX5 hown hK hW kd_29 rfl 3 (lt_b rfl) (hg (Cond.fieldLink RX5 21 "SlabWalk$Odds" "steppedSums" "[J") m467) (fun _ h9 => h9) rfl dX5_setNextFeet_143 ?_
          refine lv_aload_n hx hb dX5_setNextFeet_146 rfl (lv_at hl 3 rfl) ?_
          refine S_getI (v := (G.1 7 7)) (C := RX0) (T := TX0) (N := 8) hx hb hg iX0 hown hK hW kd_7 rfl 7 (lt_b rfl) (hg (Cond.fieldLink RX5 47 "SlabWalk$Course" "end" "I") m392) (fun _ h9 => h9) rfl ((congrFun (congrFun (gp_l eG_37).1 7) 7).trans ((hq_35.i9 7 7 rfl rfl).trans ((hq_16.i9 7 7 rfl rfl).trans ((hq_5.i9 7 7 rfl rfl).trans ((congrFun (congrFun (gp_l eG_3).1 7) 7).trans ((congrFun (congrFun (gp_l eG_2).1 7) 7).trans (rfl))))))) dX5_setNextFeet_147 ?_
          refine lv_iload_n hx hb dX5_setNextFeet_150 rfl (lv_at hl 1 rfl) ?_
          refine lv_aload_n hx hb dX5_setNextFeet_151 rfl (lv_at hl 3 rfl) ?_
          have b_41 : 0 ≤ (G.1 7 5).toInt ∧ (G.1 7 5).toInt ≤ 99 := bd_7_5 hB_G
          refine S_getI (v := (G.1 7 5)) (C := RX0) (T := TX0) (N := 8) hx hb hg iX0 hown hK hW kd_7 rfl 5 (lt_b rfl) (hg (Cond.fieldLink RX5 65 "SlabWalk$Course" "leap" "I") m387) (fun _ h9 => h9) rfl ((congrFun (congrFun (gp_l eG_37).1 7) 5).trans ((hq_35.i9 7 5 rfl rfl).trans ((hq_16.i9 7 5 rfl rfl).trans ((hq_5.i9 7 5 rfl rfl).trans ((congrFun (congrFun (gp_l eG_3).1 7) 5).trans (congrFun (congrFun (gp_l eG_2).1 7) 5)))))) dX5_setNextFeet_152 ?_
          refine lv_isub hx hb dX5_setNextFeet_155 ?_
          refine lv_topi (fun y_42 ey_42 => ?_)
          have ty_42 : y_42.toInt = x_19.toInt - (G.1 7 5).toInt := xI_sub rfl rfl ey_42 ((by first | exact ok_224 f_22.1 b_41.2 | omega)) ((by first | exact ok_225 f_22.2 b_41.1 | omega))
          refine lv_iload_n hx hb dX5_setNextFeet_156 rfl (lv_at hl 1 rfl) ?_
          refine lv_aload_n hx hb dX5_setNextFeet_157 rfl (lv_at hl 3 rfl) ?_
          have b_43 : 0 ≤ (G.1 7 4).toInt ∧ (G.1 7 4).toInt ≤ 60 := bd_7_4 hB_G
          refine S_getI (v := (G.1 7 4)) (C := RX0) (T := TX0) (N := 8) hx hb hg iX0 hown hK hW kd_7 rfl 4 (lt_b rfl) (hg (Cond.fieldLink RX5 40 "SlabWalk$Course" "most" "I") m381) (fun _ h9 => h9) rfl ((congrFun (congrFun (gp_l eG_37).1 7) 4).trans ((hq_35.i9 7 4 rfl rfl).trans ((hq_16.i9 7 4 rfl rfl).trans ((hq_5.i9 7 4 rfl rfl).trans ((congrFun (congrFun (gp_l eG_3).1 7) 4).trans (congrFun (congrFun (gp_l eG_2).1 7) 4)))))) dX5_setNextFeet_158 ?_
          refine lv_isub hx hb dX5_setNextFeet_161 ?_
          refine lv_topi (fun y_44 ey_44 => ?_)
          have ty_44 : y_44.toInt = x_19.toInt - (G.1 7 4).toInt := xI_sub rfl rfl ey_44 ((by first | exact ok_226 f_22.1 b_43.2 | omega)) ((by first | exact ok_225 f_22.2 b_43.1 | omega))
          refine ic_1 hx hb dX5_setNextFeet_162 ?_
          refine lv_isub hx hb dX5_setNextFeet_163 ?_
          refine lv_topi (fun y_45 ey_45 => ?_)
          have ty_45 : y_45.toInt = y_44.toInt - 1 := xI_sub rfl rfl ey_45 ((by first | exact ok_227 f_22.1 b_43.2 ty_44 | omega)) ((by first | exact ok_228 f_22.2 b_43.1 ty_44 | omega))
          refine S_calll (va_runS (As := [.ref (a 55), .int (G.1 7 7), .int y_42, .int y_45]) (rest := [.int x_19, .ref (a 53)]) ⟨hx, hb, hml, hown, hts⟩ (k_oSum_55 l D k A a z G_37 (G.1 7 7) y_42 y_45 ⟨(by first | exact b_13.1 | omega), (by first | exact b_13.2 | omega)⟩ ⟨(by first | exact ok_229 f_22.1 b_41.2 ty_42 | omega), (by first | exact ok_230 f_22.2 b_41.1 ty_42 | omega)⟩ ⟨(by first | exact ok_231 f_22.1 b_43.2 ty_44 ty_45 | omega), (by first | exact ok_232 f_22.2 b_43.1 ty_44 ty_45 | omega)⟩) (va_cwS 4 hts (gd_S hgd m1027 m1028 m126 m1029) rfl rfl rfl hd_X5_sumOf.2 ⟨Nat.le_of_ble_eq_true rfl, Nat.le_of_ble_eq_true rfl⟩) (pre_S hW hB_G_37 hK hZ hS) rfl rfl hl.1 rfl (lv_room (Nat.le_of_ble_eq_true rfl)) dX5_setNextFeet_164 ⟨Nat.le_of_ble_eq_true rfl, Nat.le_of_ble_eq_true rfl⟩) hS (fun r_46 G_47 H locs hpo hW hS => ?_)
          have hX_50 : P_oSum_55 (G.1 7 7) y_42 y_45 G_37 r_46 G_47 := hpo
          obtain ⟨hB_G_47, hq_48, -⟩ := hpo
          have hF := hF.call9 hq_48 rfl rfl
          refine lv_goto (tgt := 171) hx hb dX5_setNextFeet_167 rfl ?_
          refine S_last hx hb hK hW hS kd_53 (vin ((by first | exact f_22.1 | omega)) ((by first | exact ok_221 f_22.2 | omega))) dX5_setNextFeet_171 (fun G_51 H locs eG_51 hW hS => ?_)
          have hB_G_51 : Bd G_51 := hB_G_47.putl eG_51
          have hF := hF.putl eG_51 (Or.inl (by decide))
          obtain ⟨y_52, ey_52⟩ : ∃ q, q = x_19 + 1 := ⟨_, rfl⟩
          have ty_52 : y_52.toInt = x_19.toInt + 1 := xI_add rfl rfl ey_52 ((by first | exact ok_21 f_22.1 | omega)) ((by first | exact ok_40 f_22.2 | omega))
          refine lv_iinc (v := y_52) (lv' := [(2, .int y_52), (3, .int y_25), (0, .ref (a 29)), (1, .ref (a 7))]) hx hb dX5_setNextFeet_172 hl (k := 1) rfl (by rw [ey_52]; rfl) (lt_b rfl) rfl (fun ls hl => ?_)
          refine lv_goto (tgt := 81) hx hb dX5_setNextFeet_175 rfl ?_
          exact ih_17 (400 - y_52.toInt : Int).toNat ((by first | (clear f_11 ty_25 c_38; omega) | omega)) _ _ _ ⟨G_51, y_52, (Int.toNat_of_nonneg ((by first | exact ok_222 hci.1 f_22.2 c_24 ty_52 | omega))), ⟨(by first | exact ok_23 f_22.1 ty_52 | omega), (by first | exact ok_223 hci.1 f_22.2 c_24 ty_52 | omega)⟩, (hX_20.st (St_k_oNext_2_mk ⟨x_19, G_15, y_52, G_51, rfl, rfl, f_22, hB_G_15, ⟨c_24, ⟨y_25, ey_25, ⟨w_30, G_33, hX_36, hB_G_33, hq_35, (Or.inr ⟨c_38, ⟨y_42, ty_42, ⟨y_44, ty_44, ⟨y_45, ty_45, ⟨G_37, hB_G_37, (Fr.putl (rs := [52]) (fs := []) Fr.rf eG_37 (Or.inl (by decide))), rl_ast eG_37, ⟨r_46, G_47, hX_50, ⟨y_52, ty_52, ⟨rfl, (Fr.putl (rs := [53]) (fs := []) Fr.rf eG_51 (Or.inl (by decide))), rl_ast eG_51⟩⟩⟩⟩⟩⟩⟩⟩)⟩⟩⟩⟩)), hW, hB_G_51, hF, (Fr.putl (rs := [52, 53]) (fs := []) (Fr.call9 (rs := [52, 53]) (fs := []) (Fr.putl (rs := [52, 53]) (fs := []) (Fr.call9 (rs := [52, 53]) (fs := []) (Fr.call9 (rs := [52, 53]) (fs := []) Fr.rf hq_16 rfl rfl) hq_35 rfl rfl) eG_37 (Or.inl (by decide))) hq_48 rfl rfl) eG_51 (Or.inl (by decide))), hS, lv_sub hl [0, 2, 3] rfl⟩
      refine lv_if_eq (tgt := 131) hx hb dX5_setNextFeet_102 rfl (fun c_53 => ?_) (fun c_53 => ?_)
      · have c_53 : y_25.toInt = 0 := xI_eq rfl rfl c_53
        refine lv_lconst (v := 0) hx hb dX5_setNextFeet_131 (by decide) ?_
        exact hJ_34 0 _ _ _ ⟨G_15, (Jn_k_oNext_3_mk (Or.inl ⟨c_53, ⟨rfl, rfl⟩⟩)), hW, hB_G_15, hF, (Fr.rf (rs := []) (fs := [])), hS, lv_sub hl [0, 1, 2, 3] rfl⟩
      · have c_53 : y_25.toInt ≠ 0 := xI_ne rfl rfl c_53
        refine lv_aload_n hx hb dX5_setNextFeet_105 rfl (lv_at hl 2 rfl) ?_
        refine S_getR (n := 54) (C := RX5) (T := TX5) (N := 7) hx hb hg iX5 hown hK hW kd_29 rfl 2 (lt_b rfl) (hg (Cond.fieldLink RX5 18 "SlabWalk$Odds" "sums" "[J") m466) (fun _ h9 => h9) rfl dX5_setNextFeet_106 ?_
        refine lv_aload_n hx hb dX5_setNextFeet_109 rfl (lv_at hl 3 rfl) ?_
        refine S_getI (v := (G.1 7 7)) (C := RX0) (T := TX0) (N := 8) hx hb hg iX0 hown hK hW kd_7 rfl 7 (lt_b rfl) (hg (Cond.fieldLink RX5 47 "SlabWalk$Course" "end" "I") m392) (fun _ h9 => h9) rfl ((hq_16.i9 7 7 rfl rfl).trans ((hq_5.i9 7 7 rfl rfl).trans ((congrFun (congrFun (gp_l eG_3).1 7) 7).trans ((congrFun (congrFun (gp_l eG_2).1 7) 7).trans (rfl))))) dX5_setNextFeet_110 ?_
        refine lv_iload_n hx hb dX5_setNextFeet_113 rfl (lv_at hl 1 rfl) ?_
        refine lv_aload_n hx hb dX5_setNextFeet_114 rfl (lv_at hl 3 rfl) ?_
        have b_54 : 0 ≤ (G.1 7 4).toInt ∧ (G.1 7 4).toInt ≤ 60 := bd_7_4 hB_G
        refine S_getI (v := (G.1 7 4)) (C := RX0) (T := TX0) (N := 8) hx hb hg iX0 hown hK hW kd_7 rfl 4 (lt_b rfl) (hg (Cond.fieldLink RX5 40 "SlabWalk$Course" "most" "I") m381) (fun _ h9 => h9) rfl ((hq_16.i9 7 4 rfl rfl).trans ((hq_5.i9 7 4 rfl rfl).trans ((congrFun (congrFun (gp_l eG_3).1 7) 4).trans (congrFun (congrFun (gp_l eG_2).1 7) 4)))) dX5_setNextFeet_115 ?_
        refine lv_isub hx hb dX5_setNextFeet_118 ?_
        refine lv_topi (fun y_55 ey_55 => ?_)
        have ty_55 : y_55.toInt = x_19.toInt - (G.1 7 4).toInt := xI_sub rfl rfl ey_55 ((by first | exact ok_226 f_22.1 b_54.2 | omega)) ((by first | exact ok_225 f_22.2 b_54.1 | omega))
        refine lv_iload_n hx hb dX5_setNextFeet_119 rfl (lv_at hl 1 rfl) ?_
        refine lv_aload_n hx hb dX5_setNextFeet_120 rfl (lv_at hl 3 rfl) ?_
        have b_56 : 0 ≤ (G.1 7 3).toInt ∧ (G.1 7 3).toInt ≤ 60 := bd_7_3 hB_G
        refine S_getI (v := (G.1 7 3)) (C := RX0) (T := TX0) (N := 8) hx hb hg iX0 hown hK hW kd_7 rfl 3 (lt_b rfl) (hg (Cond.fieldLink RX5 58 "SlabWalk$Course" "least" "I") m379) (fun _ h9 => h9) rfl ((hq_16.i9 7 3 rfl rfl).trans ((hq_5.i9 7 3 rfl rfl).trans ((congrFun (congrFun (gp_l eG_3).1 7) 3).trans (congrFun (congrFun (gp_l eG_2).1 7) 3)))) dX5_setNextFeet_121 ?_
        refine lv_isub hx hb dX5_setNextFeet_124 ?_
        refine lv_topi (fun y_57 ey_57 => ?_)
        have ty_57 : y_57.toInt = x_19.toInt - (G.1 7 3).toInt := xI_sub rfl rfl ey_57 ((by first | exact ok_226 f_22.1 b_56.2 | omega)) ((by first | exact ok_225 f_22.2 b_56.1 | omega))
        refine S_calll (va_runS (As := [.ref (a 54), .int (G.1 7 7), .int y_55, .int y_57]) (rest := [.int x_19, .ref (a 52)]) ⟨hx, hb, hml, hown, hts⟩ (k_oSum_54 l D k A a z G_15 (G.1 7 7) y_55 y_57 ⟨(by first | exact b_13.1 | omega), (by first | exact b_13.2 | omega)⟩ ⟨(by first | exact ok_233 f_22.1 b_54.2 ty_55 | omega), (by first | exact ok_230 f_22.2 b_54.1 ty_55 | omega)⟩ ⟨(by first | exact ok_233 f_22.1 b_56.2 ty_57 | omega), (by first | exact ok_230 f_22.2 b_56.1 ty_57 | omega)⟩) (va_cwS 4 hts (gd_S hgd m1027 m1028 m126 m1029) rfl rfl rfl hd_X5_sumOf.2 ⟨Nat.le_of_ble_eq_true rfl, Nat.le_of_ble_eq_true rfl⟩) (pre_S hW hB_G_15 hK hZ hS) rfl rfl hl.1 rfl (lv_room (Nat.le_of_ble_eq_true rfl)) dX5_setNextFeet_125 ⟨Nat.le_of_ble_eq_true rfl, Nat.le_of_ble_eq_true rfl⟩) hS (fun r_58 G_59 H locs hpo hW hS => ?_)
        have hX_62 : P_oSum_54 (G.1 7 7) y_55 y_57 G_15 r_58 G_59 := hpo
        obtain ⟨hB_G_59, hq_60, -⟩ := hpo
        have hF := hF.call9 hq_60 rfl rfl
        refine lv_goto (tgt := 132) hx hb dX5_setNextFeet_128 rfl ?_
        exact hJ_34 r_58 _ _ _ ⟨G_59, (Jn_k_oNext_3_mk (Or.inr ⟨c_53, ⟨y_55, ty_55, ⟨y_57, ty_57, ⟨r_58, G_59, hX_62, ⟨rfl, rfl⟩⟩⟩⟩⟩)), hW, hB_G_59, hF, (Fr.call9 (rs := []) (fs := []) Fr.rf hq_60 rfl rfl), hS, lv_sub hl [0, 1, 2, 3] rfl⟩
  · have c_14 : x_8.toInt < (G.1 7 7).toInt := xI_nle rfl rfl c_14
    refine lv_aload_n hx hb dX5_setNextFeet_24 rfl (lv_at hl 1 rfl) ?_
    refine S_getR (n := 54) (C := RX5) (T := TX5) (N := 7) hx hb hg iX5 hown hK hW kd_29 rfl 2 (lt_b rfl) (hg (Cond.fieldLink RX5 18 "SlabWalk$Odds" "sums" "[J") m466) (fun _ h9 => h9) rfl dX5_setNextFeet_25 ?_
    refine lv_iload_n hx hb dX5_setNextFeet_28 rfl (lv_at hl 0 rfl) ?_
    refine ic_1 hx hb dX5_setNextFeet_29 ?_
    refine lv_iadd hx hb dX5_setNextFeet_30 ?_
    refine lv_topi (fun y_63 ey_63 => ?_)
    have ty_63 : y_63.toInt = x_8.toInt + 1 := xI_add rfl rfl ey_63 ((by first | exact ok_21 f_11.1 | omega)) ((by first | exact ok_40 f_11.2 | omega))
    refine lv_aload_n hx hb dX5_setNextFeet_31 rfl (lv_at hl 1 rfl) ?_
    refine S_getR (n := 54) (C := RX5) (T := TX5) (N := 7) hx hb hg iX5 hown hK hW kd_29 rfl 2 (lt_b rfl) (hg (Cond.fieldLink RX5 18 "SlabWalk$Odds" "sums" "[J") m466) (fun _ h9 => h9) rfl dX5_setNextFeet_32 ?_
    refine lv_iload_n hx hb dX5_setNextFeet_35 rfl (lv_at hl 0 rfl) ?_
    refine S_lald hx hb hK hW kd_54 (vin ((by first | exact f_11.1 | omega)) ((by first | exact ok_221 f_11.2 | omega))) dX5_setNextFeet_36 (fun y_64 ey_64 => ?_)
    refine lv_aload_n hx hb dX5_setNextFeet_37 rfl (lv_at hl 1 rfl) ?_
    refine S_getR (n := 52) (C := RX5) (T := TX5) (N := 7) hx hb hg iX5 hown hK hW kd_29 rfl 0 (lt_b rfl) (hg (Cond.fieldLink RX5 11 "SlabWalk$Odds" "stepped" "[J") m464) (fun _ h9 => h9) rfl dX5_setNextFeet_38 ?_
    refine lv_iload_n hx hb dX5_setNextFeet_41 rfl (lv_at hl 0 rfl) ?_
    refine S_lald hx hb hK hW kd_52 (vin ((by first | exact f_11.1 | omega)) ((by first | exact ok_221 f_11.2 | omega))) dX5_setNextFeet_42 (fun y_65 ey_65 => ?_)
    refine lv_ladd hx hb dX5_setNextFeet_43 ?_
    refine lv_topl (fun y_66 ey_66 => ?_)
    refine lv_aload_n hx hb dX5_setNextFeet_44 rfl (lv_at hl 1 rfl) ?_
    refine S_getR (n := 53) (C := RX5) (T := TX5) (N := 7) hx hb hg iX5 hown hK hW kd_29 rfl 1 (lt_b rfl) (hg (Cond.fieldLink RX5 15 "SlabWalk$Odds" "leapt" "[J") m465) (fun _ h9 => h9) rfl dX5_setNextFeet_45 ?_
    refine lv_iload_n hx hb dX5_setNextFeet_48 rfl (lv_at hl 0 rfl) ?_
    refine S_lald hx hb hK hW kd_53 (vin ((by first | exact f_11.1 | omega)) ((by first | exact ok_221 f_11.2 | omega))) dX5_setNextFeet_49 (fun y_67 ey_67 => ?_)
    refine lv_ladd hx hb dX5_setNextFeet_50 ?_
    refine lv_topl (fun y_68 ey_68 => ?_)
    refine S_last hx hb hK hW hS kd_54 (vin ((by first | exact ok_23 f_11.1 ty_63 | omega)) ((by first | exact ok_234 f_11.2 ty_63 | omega))) dX5_setNextFeet_51 (fun G_69 H locs eG_69 hW hS => ?_)
    have hB_G_69 : Bd G_69 := hB_G_4.putl eG_69
    have hF := hF.putl eG_69 (Or.inl (by decide))
    refine lv_aload_n hx hb dX5_setNextFeet_52 rfl (lv_at hl 1 rfl) ?_
    refine S_getR (n := 55) (C := RX5) (T := TX5) (N := 7) hx hb hg iX5 hown hK hW kd_29 rfl 3 (lt_b rfl) (hg (Cond.fieldLink RX5 21 "SlabWalk$Odds" "steppedSums" "[J") m467) (fun _ h9 => h9) rfl dX5_setNextFeet_53 ?_
    refine lv_iload_n hx hb dX5_setNextFeet_56 rfl (lv_at hl 0 rfl) ?_
    refine ic_1 hx hb dX5_setNextFeet_57 ?_
    refine lv_iadd hx hb dX5_setNextFeet_58 ?_
    refine lv_topi (fun y_70 ey_70 => ?_)
    have ty_70 : y_70.toInt = x_8.toInt + 1 := xI_add rfl rfl ey_70 ((by first | exact ok_21 f_11.1 | omega)) ((by first | exact ok_40 f_11.2 | omega))
    refine lv_aload_n hx hb dX5_setNextFeet_59 rfl (lv_at hl 1 rfl) ?_
    refine S_getR (n := 55) (C := RX5) (T := TX5) (N := 7) hx hb hg iX5 hown hK hW kd_29 rfl 3 (lt_b rfl) (hg (Cond.fieldLink RX5 21 "SlabWalk$Odds" "steppedSums" "[J") m467) (fun _ h9 => h9) rfl dX5_setNextFeet_60 ?_
    refine lv_iload_n hx hb dX5_setNextFeet_63 rfl (lv_at hl 0 rfl) ?_
    refine S_lald hx hb hK hW kd_55 (vin ((by first | exact f_11.1 | omega)) ((by first | exact ok_221 f_11.2 | omega))) dX5_setNextFeet_64 (fun y_71 ey_71 => ?_)
    refine lv_aload_n hx hb dX5_setNextFeet_65 rfl (lv_at hl 1 rfl) ?_
    refine S_getR (n := 52) (C := RX5) (T := TX5) (N := 7) hx hb hg iX5 hown hK hW kd_29 rfl 0 (lt_b rfl) (hg (Cond.fieldLink RX5 11 "SlabWalk$Odds" "stepped" "[J") m464) (fun _ h9 => h9) rfl dX5_setNextFeet_66 ?_
    refine lv_iload_n hx hb dX5_setNextFeet_69 rfl (lv_at hl 0 rfl) ?_
    refine S_lald hx hb hK hW kd_52 (vin ((by first | exact f_11.1 | omega)) ((by first | exact ok_221 f_11.2 | omega))) dX5_setNextFeet_70 (fun y_72 ey_72 => ?_)
    refine lv_ladd hx hb dX5_setNextFeet_71 ?_
    refine lv_topl (fun y_73 ey_73 => ?_)
    refine S_last hx hb hK hW hS kd_55 (vin ((by first | exact ok_23 f_11.1 ty_70 | omega)) ((by first | exact ok_234 f_11.2 ty_70 | omega))) dX5_setNextFeet_72 (fun G_74 H locs eG_74 hW hS => ?_)
    have hB_G_74 : Bd G_74 := hB_G_69.putl eG_74
    have hF := hF.putl eG_74 (Or.inl (by decide))
    obtain ⟨y_75, ey_75⟩ : ∃ q, q = x_8 + 1 := ⟨_, rfl⟩
    have ty_75 : y_75.toInt = x_8.toInt + 1 := xI_add rfl rfl ey_75 ((by first | exact ok_21 f_11.1 | omega)) ((by first | exact ok_40 f_11.2 | omega))
    refine lv_iinc (v := y_75) (lv' := [(2, .int y_75), (0, .ref (a 29)), (1, .ref (a 7))]) hx hb dX5_setNextFeet_73 hl (k := 0) rfl (by rw [ey_75]; rfl) (lt_b rfl) rfl (fun ls hl => ?_)
    refine lv_goto (tgt := 16) hx hb dX5_setNextFeet_76 rfl ?_
    exact ih_6 (400 - y_75.toInt : Int).toNat (by omega) _ _ _ ⟨G_74, y_75, (Int.toNat_of_nonneg ((by first | exact ok_155 f_11.2 b_13.2 c_14 ty_75 | omega))), ⟨(by first | exact ok_23 f_11.1 ty_75 | omega), (by first | exact ok_64 f_11.2 b_13.2 c_14 ty_75 | omega)⟩, (hX_9.st (St_k_oNext_1_mk ⟨x_8, G_4, y_75, G_74, rfl, rfl, f_11, hB_G_4, ⟨c_14, ⟨y_63, ty_63, ⟨y_64, ey_64, ⟨y_65, ey_65, ⟨y_66, ey_66, ⟨y_67, ey_67, ⟨y_68, ey_68, ⟨y_70, ty_70, ⟨y_71, ey_71.trans (congrFun (rl_ne eG_69 (by decide)) _), ⟨y_72, ey_72.trans (congrFun (rl_ne eG_69 (by decide)) _), ⟨y_73, ey_73, ⟨y_75, ty_75, ⟨rfl, (Fr.putl (rs := [54, 55]) (fs := []) (Fr.putl (rs := [54, 55]) (fs := []) Fr.rf eG_69 (Or.inl (by decide))) eG_74 (Or.inl (by decide))), (rl_ne eG_74 (by decide)).trans (rl_ast eG_69), (rl_ast eG_74).trans (congrArg (fun q => vp_updL q (y_70.toNatClampNeg) y_73) (rl_ne eG_69 (by decide)))⟩⟩⟩⟩⟩⟩⟩⟩⟩⟩⟩⟩⟩⟩)), hW, hB_G_74, hF, (Fr.putl (rs := [54, 55]) (fs := []) (Fr.putl (rs := [54, 55]) (fs := []) (Fr.call9 (rs := [54, 55]) (fs := []) Fr.rf hq_5 rfl rfl) eG_69 (Or.inl (by decide))) eG_74 (Or.inl (by decide))), hS, lv_sub hl [0, 1, 2] rfl⟩

set_option maxHeartbeats 4000000 in
set_option maxRecDepth 100000 in
theorem k_oCount (l : Launch) (D : va_G) (k : KT) (A : Nat → Prop) (a : Nat → Nat) (z : SK) (G : GS) (p0 : Int32) (ha_p0 : 1 ≤ p0.toInt ∧ p0.toInt ≤ 60) (hci : (G.1 7 6).toInt ≤ 399 ∧ (G.1 7 3).toInt ≤ (G.1 7 4).toInt ∧ ((G.1 7 7).toInt ≤ 0 ∨ (G.1 7 7).toInt + (G.1 7 4).toInt ≤ (G.1 7 6).toInt + 1)) : Met l yX5_countWays (WS yX5_countWays cX5_countWays 6 (some .long)) ({ frames := 3, cells := 0, slots := 0, locals := 63 }) (va_Pc [.ref (a 29), .ref (a 7), .int p0] (cW D k A a z G)) (va_Ql (fun (r : Int64) (G1 : GS) => P_oCount p0 G r G1) (fun (G1 : GS) t => Wd D k A a G1 t.heap) A) 0 0 A := by
  refine Met.ofW (cc := cX5_countWays) (maxL := 6) (ret := (some .long)) (by decide) rfl ?_
  intro p e s m args below meth c s₁ B hml hv
  obtain ⟨rfl, hW, hB_G, hK, hZ⟩ := hv
  have hx := B.exec
  have hb := B.bytes
  have hr := B.returns
  have hts := atoms_spec (ws := WS yX5_countWays cX5_countWays 6 (some .long)) B.pre
  have hgd : ∀ w ∈ gd, w ∈ WS yX5_countWays cX5_countWays 6 (some .long) := fun w h => List.mem_cons_of_mem _ h
  have hg : ∀ w ∈ gd, w.before _ s = true := fun w h => hts w (hgd w h)
  have hown : s.vm.findClass RX5 = some m.cls := findClass_of_methodNamed B.named
  have hS : va_S A s.heap s.heap [] := va_S.rf
  have hF : Fr [52, 53, 54, 55] [] G G := Fr.rf
  have hl := lv_entry ([.ref (a 29), .ref (a 7), .int p0]) (n := 6) (Nat.le_of_ble_eq_true rfl)
  rw [lg_entry_eq]
  generalize (lg_sl ([.ref (a 29), .ref (a 7), .int p0]) ++ List.replicate (6 - (lg_sl ([.ref (a 29), .ref (a 7), .int p0])).length) Slot.unset).toArray = ls at hl ⊢
  have hl : lv_has ls 6 [(0, .ref (a 29)), (1, .ref (a 7)), (2, .int p0)] := hl
  have b_1 : (-1) ≤ (G.1 7 6).toInt ∧ (G.1 7 6).toInt ≤ 400 := bd_7_6 hB_G
  refine ic_0 hx hb dX5_countWays_0 ?_
  refine lv_istore_n (lv' := [(3, .int 0), (0, .ref (a 29)), (1, .ref (a 7)), (2, .int p0)]) hx hb dX5_countWays_1 rfl hl (lt_b rfl) rfl (fun ls hl => ?_)
  have qc_8 : (0 : Int32).toInt = 0 := rfl
  refine loop_N (Inv := fun n H locs ls => ∃ (G_2 : GS) (x_6 : Int32), (n : Int) = 400 - x_6.toInt ∧ (0 ≤ x_6.toInt ∧ x_6.toInt ≤ 400) ∧ Rc (St_k_oCount_1 G) (0, G) (x_6, G_2) ∧ Wd D k A a G_2 H ∧ Bd G_2 ∧ Fr [52, 53, 54, 55] [] G G_2 ∧ Fr [52, 53] [] G G_2 ∧ va_S A s.heap H locs ∧ lv_has ls 6 [(3, .int x_6), (0, .ref (a 29)), (1, .ref (a 7)), (2, .int p0)]) (fun n_5 H locs ls ih_4 hI => ?_) (400 - 0 : Int).toNat ⟨G, 0, (Int.toNat_of_nonneg ((by decide))), ⟨(by decide), (by decide)⟩, Rc.rf, hW, hB_G, hF, Fr.rf, hS, lv_sub hl [0, 1, 2, 3] rfl⟩
  obtain ⟨G_2, x_6, hn_10, f_9, hX_7, hW, hB_G_2, hF, hq_3, hS, hl⟩ := hI
  refine lv_iload_n hx hb dX5_countWays_2 rfl (lv_at hl 0 rfl) ?_
  refine lv_aload_n hx hb dX5_countWays_3 rfl (lv_at hl 2 rfl) ?_
  refine S_getI (v := (G.1 7 6)) (C := RX0) (T := TX0) (N := 8) hx hb hg iX0 hown hK hW kd_7 rfl 6 (lt_b rfl) (hg (Cond.fieldLink RX5 30 "SlabWalk$Course" "last" "I") m389) (fun _ h9 => h9) rfl ((hq_3.i9 7 6 rfl rfl).trans (rfl)) dX5_countWays_4 ?_
  refine lv_icmp_gt (tgt := 51) hx hb dX5_countWays_7 rfl (fun c_11 => ?_) (fun c_11 => ?_)
  · have c_11 : (G.1 7 6).toInt < x_6.toInt := xI_lt rfl rfl c_11
    refine ic_1 hx hb dX5_countWays_51 ?_
    refine lv_istore_n (lv' := [(3, .int 1), (0, .ref (a 29)), (1, .ref (a 7)), (2, .int p0)]) hx hb dX5_countWays_52 rfl hl (lt_b rfl) rfl (fun ls hl => ?_)
    have qc_18 : (1 : Int32).toInt = 1 := rfl
    refine loop_N (Inv := fun n H locs ls => ∃ (G_12 : GS) (x_16 : Int32), (n : Int) = 60 - x_16.toInt ∧ (1 ≤ x_16.toInt ∧ x_16.toInt ≤ 60) ∧ Rc (St_k_oCount_2 p0) (1, G_2) (x_16, G_12) ∧ Wd D k A a G_12 H ∧ Bd G_12 ∧ Fr [52, 53, 54, 55] [] G G_12 ∧ Fr [52, 53, 54, 55] [] G_2 G_12 ∧ va_S A s.heap H locs ∧ lv_has ls 6 [(3, .int x_16), (0, .ref (a 29)), (1, .ref (a 7)), (2, .int p0)]) (fun n_15 H locs ls ih_14 hI => ?_) (60 - 1 : Int).toNat ⟨G_2, 1, (Int.toNat_of_nonneg ((by decide))), ⟨(by decide), (by decide)⟩, Rc.rf, hW, hB_G_2, hF, Fr.rf, hS, lv_sub hl [0, 1, 2, 3] rfl⟩
    obtain ⟨G_12, x_16, hn_20, f_19, hX_17, hW, hB_G_12, hF, hq_13, hS, hl⟩ := hI
    refine lv_iload_n hx hb dX5_countWays_53 rfl (lv_at hl 0 rfl) ?_
    refine lv_iload_n hx hb dX5_countWays_54 rfl (lv_at hl 3 rfl) ?_
    refine lv_icmp_ge (tgt := 69) hx hb dX5_countWays_55 rfl (fun c_21 => ?_) (fun c_21 => ?_)
    · have c_21 : p0.toInt ≤ x_16.toInt := xI_le rfl rfl c_21
      refine lv_lconst (v := 0) hx hb dX5_countWays_69 (by decide) ?_
      refine lv_lstore_n (lv' := [(3, .long 0), (0, .ref (a 29)), (1, .ref (a 7)), (2, .int p0)]) hx hb dX5_countWays_70 rfl hl (lt_b rfl) rfl (fun ls hl => ?_)
      refine lv_aload_n hx hb dX5_countWays_71 rfl (lv_at hl 2 rfl) ?_
      have b_22 : 0 ≤ (G.1 7 7).toInt ∧ (G.1 7 7).toInt ≤ 400 := bd_7_7 hB_G
      refine S_getI (v := (G.1 7 7)) (C := RX0) (T := TX0) (N := 8) hx hb hg iX0 hown hK hW kd_7 rfl 7 (lt_b rfl) (hg (Cond.fieldLink RX5 47 "SlabWalk$Course" "end" "I") m392) (fun _ h9 => h9) rfl ((hq_13.i9 7 7 rfl rfl).trans (hq_3.i9 7 7 rfl rfl)) dX5_countWays_72 ?_
      refine lv_istore (lv' := [(5, .int (G.1 7 7)), (3, .long 0), (0, .ref (a 29)), (1, .ref (a 7)), (2, .int p0)]) hx hb dX5_countWays_75 hl (lt_b rfl) rfl (fun ls hl => ?_)
      refine loop_N (Inv := fun n H locs ls => ∃ (G_23 : GS) (x_27 : Int32) (x_28 : Int64), (n : Int) = 400 - x_27.toInt ∧ (0 ≤ x_27.toInt ∧ x_27.toInt ≤ 400) ∧ Rc (St_k_oCount_3 G) ((G.1 7 7), 0, G_12) (x_27, x_28, G_23) ∧ Wd D k A a G_23 H ∧ Bd G_23 ∧ Fr [52, 53, 54, 55] [] G G_23 ∧ Fr [] [] G_12 G_23 ∧ va_S A s.heap H locs ∧ lv_has ls 6 [(5, .int x_27), (3, .long x_28), (0, .ref (a 29)), (1, .ref (a 7))]) (fun n_26 H locs ls ih_25 hI => ?_) (400 - (G.1 7 7).toInt : Int).toNat ⟨G_12, (G.1 7 7), 0, (Int.toNat_of_nonneg ((by first | exact ok_62 b_22.2 | omega))), ⟨(by first | exact b_22.1 | omega), (by first | exact b_22.2 | omega)⟩, Rc.rf, hW, hB_G_12, hF, Fr.rf, hS, lv_sub hl [0, 1, 2, 3] rfl⟩
      obtain ⟨G_23, x_27, x_28, hn_31, f_30, hX_29, hW, hB_G_23, hF, hq_24, hS, hl⟩ := hI
      refine lv_iload hx hb dX5_countWays_77 (lv_at hl 0 rfl) ?_
      refine lv_aload_n hx hb dX5_countWays_79 rfl (lv_at hl 3 rfl) ?_
      refine S_getI (v := (G.1 7 6)) (C := RX0) (T := TX0) (N := 8) hx hb hg iX0 hown hK hW kd_7 rfl 6 (lt_b rfl) (hg (Cond.fieldLink RX5 30 "SlabWalk$Course" "last" "I") m389) (fun _ h9 => h9) rfl ((hq_24.i9 7 6 rfl rfl).trans ((hq_13.i9 7 6 rfl rfl).trans ((hq_3.i9 7 6 rfl rfl).trans (rfl)))) dX5_countWays_80 ?_
      refine lv_icmp_gt (tgt := 116) hx hb dX5_countWays_83 rfl (fun c_32 => ?_) (fun c_32 => ?_)
      · have c_32 : (G.1 7 6).toInt < x_27.toInt := xI_lt rfl rfl c_32
        refine lv_lload_n hx hb dX5_countWays_116 rfl (lv_at hl 1 rfl) ?_
        exact W.lret (v := x_28) hx hb hr (fun t ht _ => ⟨⟨x_28, G_23, rfl, (P_oCount_mk ⟨hB_G_23, hF, ⟨x_6, G_2, hX_7, f_9, hB_G_2, hq_3, ⟨c_11, ⟨x_16, G_12, hX_17, f_19, hB_G_12, hq_13, ⟨c_21, ⟨x_27, x_28, G_23, hX_29, f_30, hB_G_23, hq_24, ⟨c_32, ⟨rfl, rfl⟩⟩⟩⟩⟩⟩⟩⟩), wd_t ht hW⟩, hS.F ht⟩) hS.2.2 dX5_countWays_117
      · have c_32 : x_27.toInt ≤ (G.1 7 6).toInt := xI_nlt rfl rfl c_32
        refine lv_ldc2 (v := 1000000000000000) hx hb hown (hg (Cond.constantLong RX5 50 1000000000000000) m1032) dX5_countWays_86 ?_
        refine lv_lload_n hx hb dX5_countWays_89 rfl (lv_at hl 1 rfl) ?_
        refine lv_aload_n hx hb dX5_countWays_90 rfl (lv_at hl 2 rfl) ?_
        refine S_getR (n := 52) (C := RX5) (T := TX5) (N := 7) hx hb hg iX5 hown hK hW kd_29 rfl 0 (lt_b rfl) (hg (Cond.fieldLink RX5 11 "SlabWalk$Odds" "stepped" "[J") m464) (fun _ h9 => h9) rfl dX5_countWays_91 ?_
        refine lv_iload hx hb dX5_countWays_94 (lv_at hl 0 rfl) ?_
        refine S_lald hx hb hK hW kd_52 (vin ((by first | exact f_30.1 | omega)) ((by first | exact ok_221 f_30.2 | omega))) dX5_countWays_96 (fun y_33 ey_33 => ?_)
        refine lv_ladd hx hb dX5_countWays_97 ?_
        refine lv_topl (fun y_34 ey_34 => ?_)
        refine lv_aload_n hx hb dX5_countWays_98 rfl (lv_at hl 2 rfl) ?_
        refine S_getR (n := 53) (C := RX5) (T := TX5) (N := 7) hx hb hg iX5 hown hK hW kd_29 rfl 1 (lt_b rfl) (hg (Cond.fieldLink RX5 15 "SlabWalk$Odds" "leapt" "[J") m465) (fun _ h9 => h9) rfl dX5_countWays_99 ?_
        refine lv_iload hx hb dX5_countWays_102 (lv_at hl 0 rfl) ?_
        refine S_lald hx hb hK hW kd_53 (vin ((by first | exact f_30.1 | omega)) ((by first | exact ok_221 f_30.2 | omega))) dX5_countWays_104 (fun y_35 ey_35 => ?_)
        refine lv_ladd hx hb dX5_countWays_105 ?_
        refine lv_topl (fun y_36 ey_36 => ?_)
        refine va_mmin_long hx hb (by rw [hml]; exact hl.1.symm) hown (hg (Cond.methodLink RX5 52 Lib.MathLoose.min_long.x) m1033) (hg (Cond.static Lib.MathLoose.min_long.x) m1034) (hg (Cond.initialized "java/lang/Math") m132) (hg (Cond.code Lib.MathLoose.min_long.x Lib.MathLoose.min_long.code 4 (some .long)) m1035) (Nat.le_of_ble_eq_true rfl) (Nat.le_of_ble_eq_true rfl) (Nat.le_of_ble_eq_true rfl) (Nat.le_of_ble_eq_true rfl) dX5_countWays_106 ?_
        refine lv_topl (fun y_37 ey_37 => ?_)
        refine lv_lstore_n (lv' := [(3, .long y_37), (5, .int x_27), (0, .ref (a 29)), (1, .ref (a 7))]) hx hb dX5_countWays_109 rfl hl (lt_b rfl) rfl (fun ls hl => ?_)
        obtain ⟨y_38, ey_38⟩ : ∃ q, q = x_27 + 1 := ⟨_, rfl⟩
        have ty_38 : y_38.toInt = x_27.toInt + 1 := xI_add rfl rfl ey_38 ((by first | exact ok_21 f_30.1 | omega)) ((by first | exact ok_40 f_30.2 | omega))
        refine lv_iinc (v := y_38) (lv' := [(5, .int y_38), (3, .long y_37), (0, .ref (a 29)), (1, .ref (a 7))]) hx hb dX5_countWays_110 hl (k := 1) rfl (by rw [ey_38]; rfl) (lt_b rfl) rfl (fun ls hl => ?_)
        refine lv_goto (tgt := 77) hx hb dX5_countWays_113 rfl ?_
        exact ih_25 (400 - y_38.toInt : Int).toNat ((by first | (clear ha_p0 f_9 hn_20 f_19 c_21 b_22; omega) | omega)) _ _ _ ⟨G_23, y_38, y_37, (Int.toNat_of_nonneg ((by first | exact ok_222 hci.1 f_30.2 c_32 ty_38 | omega))), ⟨(by first | exact ok_23 f_30.1 ty_38 | omega), (by first | exact ok_223 hci.1 f_30.2 c_32 ty_38 | omega)⟩, (hX_29.st (St_k_oCount_3_mk ⟨x_27, x_28, G_23, y_38, y_37, G_23, rfl, rfl, f_30, hB_G_23, ⟨c_32, ⟨y_33, ey_33, ⟨y_34, ey_34, ⟨y_35, ey_35, ⟨y_36, ey_36, ⟨y_37, ey_37, ⟨y_38, ty_38, ⟨rfl, rfl, rfl⟩⟩⟩⟩⟩⟩⟩⟩⟩)), hW, hB_G_23, hF, (Fr.call9 (rs := []) (fs := []) Fr.rf hq_24 rfl rfl), hS, lv_sub hl [0, 1, 2, 3] rfl⟩
    · have c_21 : x_16.toInt < p0.toInt := xI_nle rfl rfl c_21
      refine lv_aload_n hx hb dX5_countWays_58 rfl (lv_at hl 1 rfl) ?_
      refine lv_aload_n hx hb dX5_countWays_59 rfl (lv_at hl 2 rfl) ?_
      have b_39 : 0 ≤ (G.1 7 3).toInt ∧ (G.1 7 3).toInt ≤ 60 := bd_7_3 hB_G
      have g_40 : (G_12.1 7 3).toInt = (G.1 7 3).toInt := (congrArg Int32.toInt (show G_12.1 7 3 = (G.1 7 3) from ((hq_13.i9 7 3 rfl rfl).trans (hq_3.i9 7 3 rfl rfl))))
      have b_41 : 0 ≤ (G.1 7 4).toInt ∧ (G.1 7 4).toInt ≤ 60 := bd_7_4 hB_G
      have g_42 : (G_12.1 7 4).toInt = (G.1 7 4).toInt := (congrArg Int32.toInt (show G_12.1 7 4 = (G.1 7 4) from ((hq_13.i9 7 4 rfl rfl).trans (hq_3.i9 7 4 rfl rfl))))
      have g_43 : (G_12.1 7 6).toInt = (G.1 7 6).toInt := (congrArg Int32.toInt (show G_12.1 7 6 = (G.1 7 6) from ((hq_13.i9 7 6 rfl rfl).trans ((hq_3.i9 7 6 rfl rfl).trans (rfl)))))
      have b_44 : 0 ≤ (G.1 7 7).toInt ∧ (G.1 7 7).toInt ≤ 400 := bd_7_7 hB_G
      have g_45 : (G_12.1 7 7).toInt = (G.1 7 7).toInt := (congrArg Int32.toInt (show G_12.1 7 7 = (G.1 7 7) from ((hq_13.i9 7 7 rfl rfl).trans (hq_3.i9 7 7 rfl rfl))))
      refine S_callv (va_runV (As := [.ref (a 7)]) (rest := []) ⟨hx, hb, hml, hown, hts⟩ (k_oNext l D k A a z G_12  ((by first | exact ⟨(by first | exact ok_235 hci.1 g_43 | omega), ⟨(by first | exact ok_185 hci.2.1 g_40 g_42 | omega), (by first | exact ok_236 hci.2.2 g_42 g_43 g_45 | omega)⟩⟩ | omega))) (cwV 1 hts (gd_V hgd m1023 m1025 m34 m126 m1026) rfl rfl rfl hd_X5_setNextFeet ⟨Nat.le_of_ble_eq_true rfl, Nat.le_of_ble_eq_true rfl⟩) (pre_W hW hB_G_12 hK hZ hS kd_29 rfl) rfl rfl hl.1 rfl (lv_room (Nat.le_of_ble_eq_true rfl)) dX5_countWays_60 ⟨Nat.le_of_ble_eq_true rfl, Nat.le_of_ble_eq_true rfl⟩) hS (fun G_47 H locs hpo hW hS => ?_)
      have hX_50 : P_oNext G_12 G_47 := hpo
      obtain ⟨hB_G_47, hq_48, -⟩ := hpo
      have hF := hF.call9 hq_48 rfl rfl
      obtain ⟨y_51, ey_51⟩ : ∃ q, q = x_16 + 1 := ⟨_, rfl⟩
      have ty_51 : y_51.toInt = x_16.toInt + 1 := xI_add rfl rfl ey_51 ((by first | exact ok_237 f_19.1 | omega)) ((by first | exact ok_238 f_19.2 | omega))
      refine lv_iinc (v := y_51) (lv' := [(3, .int y_51), (0, .ref (a 29)), (1, .ref (a 7)), (2, .int p0)]) hx hb dX5_countWays_63 hl (k := 0) rfl (by rw [ey_51]; rfl) (lt_b rfl) rfl (fun ls hl => ?_)
      refine lv_goto (tgt := 53) hx hb dX5_countWays_66 rfl ?_
      exact ih_14 (60 - y_51.toInt : Int).toNat ((by first | (clear hci b_1 hn_10 f_9 c_11 b_39 g_40 b_41 g_42 g_43 b_44 g_45; omega) | omega)) _ _ _ ⟨G_47, y_51, (Int.toNat_of_nonneg ((by first | exact ok_239 ha_p0.2 f_19.2 c_21 ty_51 | omega))), ⟨(by first | exact ok_240 f_19.1 ty_51 | omega), (by first | exact ok_241 ha_p0.2 f_19.2 c_21 ty_51 | omega)⟩, (hX_17.st (St_k_oCount_2_mk ⟨x_16, G_12, y_51, G_47, rfl, rfl, f_19, hB_G_12, ⟨c_21, ⟨G_47, hX_50, ⟨y_51, ty_51, ⟨rfl, rfl⟩⟩⟩⟩⟩)), hW, hB_G_47, hF, (Fr.call9 (rs := [52, 53, 54, 55]) (fs := []) (Fr.call9 (rs := [52, 53, 54, 55]) (fs := []) Fr.rf hq_13 rfl rfl) hq_48 rfl rfl), hS, lv_sub hl [0, 1, 2, 3] rfl⟩
  · have c_11 : x_6.toInt ≤ (G.1 7 6).toInt := xI_nlt rfl rfl c_11
    refine lv_aload_n hx hb dX5_countWays_10 rfl (lv_at hl 1 rfl) ?_
    refine S_getR (n := 52) (C := RX5) (T := TX5) (N := 7) hx hb hg iX5 hown hK hW kd_29 rfl 0 (lt_b rfl) (hg (Cond.fieldLink RX5 11 "SlabWalk$Odds" "stepped" "[J") m464) (fun _ h9 => h9) rfl dX5_countWays_11 ?_
    refine lv_iload_n hx hb dX5_countWays_14 rfl (lv_at hl 0 rfl) ?_
    refine lv_aload_n hx hb dX5_countWays_15 rfl (lv_at hl 2 rfl) ?_
    refine S_getR (n := 40) (C := RX0) (T := TX0) (N := 8) hx hb hg iX0 hown hK hW kd_7 rfl 0 (lt_b rfl) (hg (Cond.fieldLink RX5 36 "SlabWalk$Course" "lawful" "[Z") m372) (fun _ h9 => h9) rfl dX5_countWays_16 ?_
    refine lv_iload_n hx hb dX5_countWays_19 rfl (lv_at hl 0 rfl) ?_
    refine S_zald hx hb hK hW kd_40 (vin ((by first | exact f_9.1 | omega)) ((by first | exact ok_220 hci.1 f_9.2 c_11 | omega))) dX5_countWays_20 (fun y_52 ey_52 => ?_)
    have ty_52 : 0 ≤ y_52.toInt ∧ y_52.toInt ≤ 1 := bv_40 hB_G_2 ey_52
    refine lv_if_eq (tgt := 36) hx hb dX5_countWays_21 rfl (fun c_53 => ?_) (fun c_53 => ?_)
    · have c_53 : y_52.toInt = 0 := xI_eq rfl rfl c_53
      refine lv_lconst (v := 0) hx hb dX5_countWays_36 (by decide) ?_
      refine S_last hx hb hK hW hS kd_52 (vin ((by first | exact f_9.1 | omega)) ((by first | exact ok_221 f_9.2 | omega))) dX5_countWays_37 (fun G_54 H locs eG_54 hW hS => ?_)
      have hB_G_54 : Bd G_54 := hB_G_2.putl eG_54
      have hF := hF.putl eG_54 (Or.inl (by decide))
      refine lv_aload_n hx hb dX5_countWays_38 rfl (lv_at hl 1 rfl) ?_
      refine S_getR (n := 53) (C := RX5) (T := TX5) (N := 7) hx hb hg iX5 hown hK hW kd_29 rfl 1 (lt_b rfl) (hg (Cond.fieldLink RX5 15 "SlabWalk$Odds" "leapt" "[J") m465) (fun _ h9 => h9) rfl dX5_countWays_39 ?_
      refine lv_iload_n hx hb dX5_countWays_42 rfl (lv_at hl 0 rfl) ?_
      refine lv_lconst (v := 0) hx hb dX5_countWays_43 (by decide) ?_
      refine S_last hx hb hK hW hS kd_53 (vin ((by first | exact f_9.1 | omega)) ((by first | exact ok_221 f_9.2 | omega))) dX5_countWays_44 (fun G_55 H locs eG_55 hW hS => ?_)
      have hB_G_55 : Bd G_55 := hB_G_54.putl eG_55
      have hF := hF.putl eG_55 (Or.inl (by decide))
      obtain ⟨y_56, ey_56⟩ : ∃ q, q = x_6 + 1 := ⟨_, rfl⟩
      have ty_56 : y_56.toInt = x_6.toInt + 1 := xI_add rfl rfl ey_56 ((by first | exact ok_21 f_9.1 | omega)) ((by first | exact ok_40 f_9.2 | omega))
      refine lv_iinc (v := y_56) (lv' := [(3, .int y_56), (0, .ref (a 29)), (1, .ref (a 7)), (2, .int p0)]) hx hb dX5_countWays_45 hl (k := 0) rfl (by rw [ey_56]; rfl) (lt_b rfl) rfl (fun ls hl => ?_)
      refine lv_goto (tgt := 2) hx hb dX5_countWays_48 rfl ?_
      exact ih_4 (400 - y_56.toInt : Int).toNat ((by first | (clear ha_p0 ty_52 c_53; omega) | omega)) _ _ _ ⟨G_55, y_56, (Int.toNat_of_nonneg ((by first | exact ok_222 hci.1 f_9.2 c_11 ty_56 | omega))), ⟨(by first | exact ok_23 f_9.1 ty_56 | omega), (by first | exact ok_223 hci.1 f_9.2 c_11 ty_56 | omega)⟩, (hX_7.st (St_k_oCount_1_mk ⟨x_6, G_2, y_56, G_55, rfl, rfl, f_9, hB_G_2, ⟨c_11, ⟨y_52, ey_52, (Or.inl ⟨c_53, ⟨y_56, ty_56, ⟨rfl, (Fr.putl (rs := [52, 53]) (fs := []) (Fr.putl (rs := [52, 53]) (fs := []) Fr.rf eG_54 (Or.inl (by decide))) eG_55 (Or.inl (by decide))), (rl_ne eG_55 (by decide)).trans (rl_ast eG_54), (rl_ast eG_55).trans (congrArg (fun q => vp_updL q (x_6.toNatClampNeg) 0) (rl_ne eG_54 (by decide)))⟩⟩⟩)⟩⟩⟩)), hW, hB_G_55, hF, (Fr.putl (rs := [52, 53]) (fs := []) (Fr.putl (rs := [52, 53]) (fs := []) (Fr.call9 (rs := [52, 53]) (fs := []) Fr.rf hq_3 rfl rfl) eG_54 (Or.inl (by decide))) eG_55 (Or.inl (by decide))), hS, lv_sub hl [0, 1, 2, 3] rfl⟩
    · have c_53 : y_52.toInt ≠ 0 := xI_ne rfl rfl c_53
      refine lv_iload_n hx hb dX5_countWays_24 rfl (lv_at hl 0 rfl) ?_
      refine lv_aload_n hx hb dX5_countWays_25 rfl (lv_at hl 2 rfl) ?_
      have b_57 : 0 ≤ (G.1 7 4).toInt ∧ (G.1 7 4).toInt ≤ 60 := bd_7_4 hB_G
      refine S_getI (v := (G.1 7 4)) (C := RX0) (T := TX0) (N := 8) hx hb hg iX0 hown hK hW kd_7 rfl 4 (lt_b rfl) (hg (Cond.fieldLink RX5 40 "SlabWalk$Course" "most" "I") m381) (fun _ h9 => h9) rfl (hq_3.i9 7 4 rfl rfl) dX5_countWays_26 ?_
      refine lv_icmp_ge (tgt := 36) hx hb dX5_countWays_29 rfl (fun c_58 => ?_) (fun c_58 => ?_)
      · have c_58 : (G.1 7 4).toInt ≤ x_6.toInt := xI_le rfl rfl c_58
        refine lv_lconst (v := 0) hx hb dX5_countWays_36 (by decide) ?_
        refine S_last hx hb hK hW hS kd_52 (vin ((by first | exact f_9.1 | omega)) ((by first | exact ok_221 f_9.2 | omega))) dX5_countWays_37 (fun G_59 H locs eG_59 hW hS => ?_)
        have hB_G_59 : Bd G_59 := hB_G_2.putl eG_59
        have hF := hF.putl eG_59 (Or.inl (by decide))
        refine lv_aload_n hx hb dX5_countWays_38 rfl (lv_at hl 1 rfl) ?_
        refine S_getR (n := 53) (C := RX5) (T := TX5) (N := 7) hx hb hg iX5 hown hK hW kd_29 rfl 1 (lt_b rfl) (hg (Cond.fieldLink RX5 15 "SlabWalk$Odds" "leapt" "[J") m465) (fun _ h9 => h9) rfl dX5_countWays_39 ?_
        refine lv_iload_n hx hb dX5_countWays_42 rfl (lv_at hl 0 rfl) ?_
        refine lv_lconst (v := 0) hx hb dX5_countWays_43 (by decide) ?_
        refine S_last hx hb hK hW hS kd_53 (vin ((by first | exact f_9.1 | omega)) ((by first | exact ok_221 f_9.2 | omega))) dX5_countWays_44 (fun G_60 H locs eG_60 hW hS => ?_)
        have hB_G_60 : Bd G_60 := hB_G_59.putl eG_60
        have hF := hF.putl eG_60 (Or.inl (by decide))
        obtain ⟨y_61, ey_61⟩ : ∃ q, q = x_6 + 1 := ⟨_, rfl⟩
        have ty_61 : y_61.toInt = x_6.toInt + 1 := xI_add rfl rfl ey_61 ((by first | exact ok_21 f_9.1 | omega)) ((by first | exact ok_40 f_9.2 | omega))
        refine lv_iinc (v := y_61) (lv' := [(3, .int y_61), (0, .ref (a 29)), (1, .ref (a 7)), (2, .int p0)]) hx hb dX5_countWays_45 hl (k := 0) rfl (by rw [ey_61]; rfl) (lt_b rfl) rfl (fun ls hl => ?_)
        refine lv_goto (tgt := 2) hx hb dX5_countWays_48 rfl ?_
        exact ih_4 (400 - y_61.toInt : Int).toNat ((by first | (clear ha_p0 ty_52 c_53; omega) | omega)) _ _ _ ⟨G_60, y_61, (Int.toNat_of_nonneg ((by first | exact ok_222 hci.1 f_9.2 c_11 ty_61 | omega))), ⟨(by first | exact ok_23 f_9.1 ty_61 | omega), (by first | exact ok_223 hci.1 f_9.2 c_11 ty_61 | omega)⟩, (hX_7.st (St_k_oCount_1_mk ⟨x_6, G_2, y_61, G_60, rfl, rfl, f_9, hB_G_2, ⟨c_11, ⟨y_52, ey_52, (Or.inr ⟨c_53, (Or.inl ⟨c_58, ⟨y_61, ty_61, ⟨rfl, (Fr.putl (rs := [52, 53]) (fs := []) (Fr.putl (rs := [52, 53]) (fs := []) Fr.rf eG_59 (Or.inl (by decide))) eG_60 (Or.inl (by decide))), (rl_ne eG_60 (by decide)).trans (rl_ast eG_59), (rl_ast eG_60).trans (congrArg (fun q => vp_updL q (x_6.toNatClampNeg) 0) (rl_ne eG_59 (by decide)))⟩⟩⟩)⟩)⟩⟩⟩)), hW, hB_G_60, hF, (Fr.putl (rs := [52, 53]) (fs := []) (Fr.putl (rs := [52, 53]) (fs := []) (Fr.call9 (rs := [52, 53]) (fs := []) Fr.rf hq_3 rfl rfl) eG_59 (Or.inl (by decide))) eG_60 (Or.inl (by decide))), hS, lv_sub hl [0, 1, 2, 3] rfl⟩
      · have c_58 : x_6.toInt < (G.1 7 4).toInt := xI_nle rfl rfl c_58
        refine lv_lconst (v := 1) hx hb dX5_countWays_32 (by decide) ?_
        refine lv_goto (tgt := 37) hx hb dX5_countWays_33 rfl ?_
        refine S_last hx hb hK hW hS kd_52 (vin ((by first | exact f_9.1 | omega)) ((by first | exact ok_221 f_9.2 | omega))) dX5_countWays_37 (fun G_62 H locs eG_62 hW hS => ?_)
        have hB_G_62 : Bd G_62 := hB_G_2.putl eG_62
        have hF := hF.putl eG_62 (Or.inl (by decide))
        refine lv_aload_n hx hb dX5_countWays_38 rfl (lv_at hl 1 rfl) ?_
        refine S_getR (n := 53) (C := RX5) (T := TX5) (N := 7) hx hb hg iX5 hown hK hW kd_29 rfl 1 (lt_b rfl) (hg (Cond.fieldLink RX5 15 "SlabWalk$Odds" "leapt" "[J") m465) (fun _ h9 => h9) rfl dX5_countWays_39 ?_
        refine lv_iload_n hx hb dX5_countWays_42 rfl (lv_at hl 0 rfl) ?_
        refine lv_lconst (v := 0) hx hb dX5_countWays_43 (by decide) ?_
        refine S_last hx hb hK hW hS kd_53 (vin ((by first | exact f_9.1 | omega)) ((by first | exact ok_221 f_9.2 | omega))) dX5_countWays_44 (fun G_63 H locs eG_63 hW hS => ?_)
        have hB_G_63 : Bd G_63 := hB_G_62.putl eG_63
        have hF := hF.putl eG_63 (Or.inl (by decide))
        obtain ⟨y_64, ey_64⟩ : ∃ q, q = x_6 + 1 := ⟨_, rfl⟩
        have ty_64 : y_64.toInt = x_6.toInt + 1 := xI_add rfl rfl ey_64 ((by first | exact ok_21 f_9.1 | omega)) ((by first | exact ok_40 f_9.2 | omega))
        refine lv_iinc (v := y_64) (lv' := [(3, .int y_64), (0, .ref (a 29)), (1, .ref (a 7)), (2, .int p0)]) hx hb dX5_countWays_45 hl (k := 0) rfl (by rw [ey_64]; rfl) (lt_b rfl) rfl (fun ls hl => ?_)
        refine lv_goto (tgt := 2) hx hb dX5_countWays_48 rfl ?_
        exact ih_4 (400 - y_64.toInt : Int).toNat ((by first | (clear ha_p0 ty_52 c_53; omega) | omega)) _ _ _ ⟨G_63, y_64, (Int.toNat_of_nonneg ((by first | exact ok_242 f_9.2 b_57.2 c_58 ty_64 | omega))), ⟨(by first | exact ok_23 f_9.1 ty_64 | omega), (by first | exact ok_243 f_9.2 b_57.2 c_58 ty_64 | omega)⟩, (hX_7.st (St_k_oCount_1_mk ⟨x_6, G_2, y_64, G_63, rfl, rfl, f_9, hB_G_2, ⟨c_11, ⟨y_52, ey_52, (Or.inr ⟨c_53, (Or.inr ⟨c_58, ⟨y_64, ty_64, ⟨rfl, (Fr.putl (rs := [52, 53]) (fs := []) (Fr.putl (rs := [52, 53]) (fs := []) Fr.rf eG_62 (Or.inl (by decide))) eG_63 (Or.inl (by decide))), (rl_ne eG_63 (by decide)).trans (rl_ast eG_62), (rl_ast eG_63).trans (congrArg (fun q => vp_updL q (x_6.toNatClampNeg) 0) (rl_ne eG_62 (by decide)))⟩⟩⟩)⟩)⟩⟩⟩)), hW, hB_G_63, hF, (Fr.putl (rs := [52, 53]) (fs := []) (Fr.putl (rs := [52, 53]) (fs := []) (Fr.call9 (rs := [52, 53]) (fs := []) Fr.rf hq_3 rfl rfl) eG_62 (Or.inl (by decide))) eG_63 (Or.inl (by decide))), hS, lv_sub hl [0, 1, 2, 3] rfl⟩

set_option maxHeartbeats 4000000 in
set_option maxRecDepth 100000 in
theorem k_oAim (l : Launch) (D : va_G) (k : KT) (A : Nat → Prop) (a : Nat → Nat) (z : SK) (G : GS) (p0 : Int32) (p1 : Int32) (ha_p0 : 0 ≤ p0.toInt ∧ p0.toInt ≤ 400) (ha_p1 : 0 ≤ p1.toInt ∧ p1.toInt ≤ 60) (hci : (G.1 7 6).toInt ≤ 399 ∧ (G.1 7 3).toInt ≤ (G.1 7 4).toInt ∧ ((G.1 7 7).toInt ≤ 0 ∨ (G.1 7 7).toInt + (G.1 7 4).toInt ≤ (G.1 7 6).toInt + 1)) : Met l yX5_aimFrom (WS yX5_aimFrom cX5_aimFrom 4 (some .long)) ({ frames := 1, cells := 0, slots := 0, locals := 14 }) (va_Pc [.ref (a 29), .ref (a 7), .int p0, .int p1] (cW D k A a z G)) (va_Ql (fun (r : Int64) (G1 : GS) => P_oAim p0 p1 G r G1) (fun (G1 : GS) t => Wd D k A a G1 t.heap) A) 0 0 A := by
  refine Met.ofW (cc := cX5_aimFrom) (maxL := 4) (ret := (some .long)) (by decide) rfl ?_
  intro p e s m args below meth c s₁ B hml hv
  obtain ⟨rfl, hW, hB_G, hK, hZ⟩ := hv
  have hx := B.exec
  have hb := B.bytes
  have hr := B.returns
  have hts := atoms_spec (ws := WS yX5_aimFrom cX5_aimFrom 4 (some .long)) B.pre
  have hgd : ∀ w ∈ gd, w ∈ WS yX5_aimFrom cX5_aimFrom 4 (some .long) := fun w h => List.mem_cons_of_mem _ h
  have hg : ∀ w ∈ gd, w.before _ s = true := fun w h => hts w (hgd w h)
  have hown : s.vm.findClass RX5 = some m.cls := findClass_of_methodNamed B.named
  have hS : va_S A s.heap s.heap [] := va_S.rf
  have hF : Fr [] [] G G := Fr.rf
  have hl := lv_entry ([.ref (a 29), .ref (a 7), .int p0, .int p1]) (n := 4) (Nat.le_of_ble_eq_true rfl)
  rw [lg_entry_eq]
  generalize (lg_sl ([.ref (a 29), .ref (a 7), .int p0, .int p1]) ++ List.replicate (4 - (lg_sl ([.ref (a 29), .ref (a 7), .int p0, .int p1])).length) Slot.unset).toArray = ls at hl ⊢
  have hl : lv_has ls 4 [(0, .ref (a 29)), (1, .ref (a 7)), (2, .int p0), (3, .int p1)] := hl
  have b_1 : (-1) ≤ (G.1 7 6).toInt ∧ (G.1 7 6).toInt ≤ 400 := bd_7_6 hB_G
  refine lv_aload_n hx hb dX5_aimFrom_0 rfl (lv_at hl 0 rfl) ?_
  refine S_getR (n := 57) (C := RX5) (T := TX5) (N := 7) hx hb hg iX5 hown hK hW kd_29 rfl 5 (lt_b rfl) (hg (Cond.fieldLink RX5 27 "SlabWalk$Odds" "aims" "[J") m469) (fun _ h9 => h9) rfl dX5_aimFrom_1 ?_
  refine lv_iload_n hx hb dX5_aimFrom_4 rfl (lv_at hl 2 rfl) ?_
  refine lv_iload_n hx hb dX5_aimFrom_5 rfl (lv_at hl 3 rfl) ?_
  refine lv_iadd hx hb dX5_aimFrom_6 ?_
  refine lv_topi (fun y_2 ey_2 => ?_)
  have ty_2 : y_2.toInt = p0.toInt + p1.toInt := xI_add rfl rfl ey_2 ((by first | exact ok_15 ha_p0.1 ha_p1.1 | omega)) ((by first | exact ok_244 ha_p0.2 ha_p1.2 | omega))
  refine lv_aload_n hx hb dX5_aimFrom_7 rfl (lv_at hl 1 rfl) ?_
  refine S_getI (v := (G.1 7 6)) (C := RX0) (T := TX0) (N := 8) hx hb hg iX0 hown hK hW kd_7 rfl 6 (lt_b rfl) (hg (Cond.fieldLink RX5 30 "SlabWalk$Course" "last" "I") m389) (fun _ h9 => h9) rfl rfl dX5_aimFrom_8 ?_
  refine ic_2 hx hb dX5_aimFrom_11 ?_
  refine lv_iadd hx hb dX5_aimFrom_12 ?_
  refine lv_topi (fun y_3 ey_3 => ?_)
  have ty_3 : y_3.toInt = (G.1 7 6).toInt + 2 := xI_add rfl rfl ey_3 ((by first | exact ok_245 b_1.1 | omega)) ((by first | exact ok_246 hci.1 | omega))
  refine va_mmin hx hb (by rw [hml]; exact hl.1.symm) hown (hg (Cond.methodLink RX5 72 Lib.Math.min.name) m1031) (hg (Cond.static Lib.Math.min.name) m636) (hg (Cond.initialized "java/lang/Math") m132) (hg (Cond.code Lib.Math.min.name Lib.Math.min.code 2 (some .int)) m637) (Nat.le_of_ble_eq_true rfl) (Nat.le_of_ble_eq_true rfl) (Nat.le_of_ble_eq_true rfl) (Nat.le_of_ble_eq_true rfl) dX5_aimFrom_13 ?_
  refine lv_topi (fun y_4 ey_4 => ?_)
  have ty_4 := xI_min (X := y_2.toInt) (Y := y_3.toInt) rfl rfl ey_4
  refine S_lald hx hb hK hW kd_57 (vin ((by first | exact ok_247 ha_p0.1 ha_p1.1 b_1.1 ty_2 ty_3 ty_4 | omega)) ((by first | exact ok_248 b_1.2 ty_3 ty_4 | omega))) dX5_aimFrom_16 (fun y_5 ey_5 => ?_)
  exact W.lret (v := y_5) hx hb hr (fun t ht _ => ⟨⟨y_5, G, rfl, (P_oAim_mk ⟨hB_G, hF, ⟨y_2, ty_2, ⟨y_3, ty_3, ⟨y_4, ty_4, ⟨y_5, ey_5, ⟨rfl, rfl⟩⟩⟩⟩⟩⟩), wd_t ht hW⟩, hS.F ht⟩) hS.2.2 dX5_aimFrom_17

set_option maxHeartbeats 4000000 in
set_option maxRecDepth 100000 in
theorem k_oBest (l : Launch) (D : va_G) (k : KT) (A : Nat → Prop) (a : Nat → Nat) (z : SK) (G : GS) (p0 : Int32) (ha_p0 : 0 ≤ p0.toInt ∧ p0.toInt ≤ 400) (hci : (G.1 7 6).toInt ≤ 399 ∧ (G.1 7 3).toInt ≤ (G.1 7 4).toInt ∧ ((G.1 7 7).toInt ≤ 0 ∨ (G.1 7 7).toInt + (G.1 7 4).toInt ≤ (G.1 7 6).toInt + 1)) : Met l yX5_bestStep (WS yX5_bestStep cX5_bestStep 7 (some .int)) ({ frames := 2, cells := 0, slots := 0, locals := 37 }) (va_Pc [.ref (a 29), .ref (a 7), .int p0] (cW D k A a z G)) (va_Qi (fun (r : Int32) (G1 : GS) => P_oBest p0 G r G1) (fun (G1 : GS) t => Wd D k A a G1 t.heap) A) 0 0 A := by
  refine Met.ofW (cc := cX5_bestStep) (maxL := 7) (ret := (some .int)) (by decide) rfl ?_
  intro p e s m args below meth c s₁ B hml hv
  obtain ⟨rfl, hW, hB_G, hK, hZ⟩ := hv
  have hx := B.exec
  have hb := B.bytes
  have hr := B.returns
  have hts := atoms_spec (ws := WS yX5_bestStep cX5_bestStep 7 (some .int)) B.pre
  have hgd : ∀ w ∈ gd, w ∈ WS yX5_bestStep cX5_bestStep 7 (some .int) := fun w h => List.mem_cons_of_mem _ h
  have hg : ∀ w ∈ gd, w.before _ s = true := fun w h => hts w (hgd w h)
  have hown : s.vm.findClass RX5 = some m.cls := findClass_of_methodNamed B.named
  have hS : va_S A s.heap s.heap [] := va_S.rf
  have hF : Fr [] [] G G := Fr.rf
  have hl := lv_entry ([.ref (a 29), .ref (a 7), .int p0]) (n := 7) (Nat.le_of_ble_eq_true rfl)
  rw [lg_entry_eq]
  generalize (lg_sl ([.ref (a 29), .ref (a 7), .int p0]) ++ List.replicate (7 - (lg_sl ([.ref (a 29), .ref (a 7), .int p0])).length) Slot.unset).toArray = ls at hl ⊢
  have hl : lv_has ls 7 [(0, .ref (a 29)), (1, .ref (a 7)), (2, .int p0)] := hl
  have b_1 : (-1) ≤ (G.1 7 6).toInt ∧ (G.1 7 6).toInt ≤ 400 := bd_7_6 hB_G
  refine lv_aload_n hx hb dX5_bestStep_0 rfl (lv_at hl 1 rfl) ?_
  have b_2 : 0 ≤ (G.1 7 3).toInt ∧ (G.1 7 3).toInt ≤ 60 := bd_7_3 hB_G
  refine S_getI (v := (G.1 7 3)) (C := RX0) (T := TX0) (N := 8) hx hb hg iX0 hown hK hW kd_7 rfl 3 (lt_b rfl) (hg (Cond.fieldLink RX5 58 "SlabWalk$Course" "least" "I") m379) (fun _ h9 => h9) rfl rfl dX5_bestStep_1 ?_
  refine lv_istore_n (lv' := [(3, .int (G.1 7 3)), (0, .ref (a 29)), (1, .ref (a 7)), (2, .int p0)]) hx hb dX5_bestStep_4 rfl hl (lt_b rfl) rfl (fun ls hl => ?_)
  refine lv_aload_n hx hb dX5_bestStep_5 rfl (lv_at hl 1 rfl) ?_
  refine lv_aload_n hx hb dX5_bestStep_6 rfl (lv_at hl 2 rfl) ?_
  refine lv_iload_n hx hb dX5_bestStep_7 rfl (lv_at hl 3 rfl) ?_
  refine lv_iload_n hx hb dX5_bestStep_8 rfl (lv_at hl 0 rfl) ?_
  have b_3 : 0 ≤ (G.1 7 4).toInt ∧ (G.1 7 4).toInt ≤ 60 := bd_7_4 hB_G
  have b_4 : 0 ≤ (G.1 7 7).toInt ∧ (G.1 7 7).toInt ≤ 400 := bd_7_7 hB_G
  refine S_calll (va_runV (As := [.ref (a 7), .int p0, .int (G.1 7 3)]) (rest := []) ⟨hx, hb, hml, hown, hts⟩ (k_oAim l D k A a z G p0 (G.1 7 3) ⟨(by first | exact ha_p0.1 | omega), (by first | exact ha_p0.2 | omega)⟩ ⟨(by first | exact b_2.1 | omega), (by first | exact b_2.2 | omega)⟩ ((by first | exact ⟨(by first | exact hci.1 | omega), ⟨(by first | exact hci.2.1 | omega), (by first | exact hci.2.2 | omega)⟩⟩ | omega))) (cwV 3 hts (gd_V hgd m1130 m1132 m40 m126 m1133) rfl rfl rfl hd_X5_aimFrom ⟨Nat.le_of_ble_eq_true rfl, Nat.le_of_ble_eq_true rfl⟩) (pre_W hW hB_G hK hZ hS kd_29 rfl) rfl rfl hl.1 rfl (lv_room (Nat.le_of_ble_eq_true rfl)) dX5_bestStep_9 ⟨Nat.le_of_ble_eq_true rfl, Nat.le_of_ble_eq_true rfl⟩) hS (fun r_5 G_6 H locs hpo hW hS => ?_)
  have hX_9 : P_oAim p0 (G.1 7 3) G r_5 G_6 := hpo
  obtain ⟨hB_G_6, hq_7, -⟩ := hpo
  have hF := hF.call9 hq_7 rfl rfl
  refine lv_lstore (lv' := [(4, .long r_5), (3, .int (G.1 7 3)), (0, .ref (a 29)), (1, .ref (a 7)), (2, .int p0)]) hx hb dX5_bestStep_12 hl (lt_b rfl) rfl (fun ls hl => ?_)
  refine lv_iload_n hx hb dX5_bestStep_14 rfl (lv_at hl 1 rfl) ?_
  refine ic_1 hx hb dX5_bestStep_15 ?_
  refine lv_iadd hx hb dX5_bestStep_16 ?_
  refine lv_topi (fun y_10 ey_10 => ?_)
  have ty_10 : y_10.toInt = (G.1 7 3).toInt + 1 := xI_add rfl rfl ey_10 ((by first | exact ok_21 b_2.1 | omega)) ((by first | exact ok_238 b_2.2 | omega))
  refine lv_istore (lv' := [(6, .int y_10), (4, .long r_5), (3, .int (G.1 7 3)), (0, .ref (a 29)), (1, .ref (a 7)), (2, .int p0)]) hx hb dX5_bestStep_17 hl (lt_b rfl) rfl (fun ls hl => ?_)
  refine loop_N (Inv := fun n H locs ls => ∃ (G_11 : GS) (x_15 : Int32) (x_16 : Int64) (x_17 : Int32), (n : Int) = 61 - x_15.toInt ∧ (1 ≤ x_15.toInt ∧ x_15.toInt ≤ 61) ∧ (0 ≤ x_17.toInt ∧ x_17.toInt ≤ 60) ∧ Rc (St_k_oBest_1 p0 G) (y_10, r_5, (G.1 7 3), G_6) (x_15, x_16, x_17, G_11) ∧ Wd D k A a G_11 H ∧ Bd G_11 ∧ Fr [] [] G G_11 ∧ Fr [] [] G_6 G_11 ∧ va_S A s.heap H locs ∧ lv_has ls 7 [(6, .int x_15), (4, .long x_16), (3, .int x_17), (0, .ref (a 29)), (1, .ref (a 7)), (2, .int p0)]) (fun n_14 H locs ls ih_13 hI => ?_) (61 - y_10.toInt : Int).toNat ⟨G_6, y_10, r_5, (G.1 7 3), (Int.toNat_of_nonneg ((by first | exact ok_249 b_2.2 ty_10 | omega))), ⟨(by first | exact ok_250 b_2.1 ty_10 | omega), (by first | exact ok_251 b_2.2 ty_10 | omega)⟩, ⟨(by first | exact b_2.1 | omega), (by first | exact b_2.2 | omega)⟩, Rc.rf, hW, hB_G_6, hF, Fr.rf, hS, lv_sub hl [0, 1, 2, 3, 4, 5] rfl⟩
  obtain ⟨G_11, x_15, x_16, x_17, hn_21, f_19, f_20, hX_18, hW, hB_G_11, hF, hq_12, hS, hl⟩ := hI
  refine lv_iload hx hb dX5_bestStep_19 (lv_at hl 0 rfl) ?_
  refine lv_aload_n hx hb dX5_bestStep_21 rfl (lv_at hl 4 rfl) ?_
  refine S_getI (v := (G.1 7 4)) (C := RX0) (T := TX0) (N := 8) hx hb hg iX0 hown hK hW kd_7 rfl 4 (lt_b rfl) (hg (Cond.fieldLink RX5 40 "SlabWalk$Course" "most" "I") m381) (fun _ h9 => h9) rfl ((hq_12.i9 7 4 rfl rfl).trans ((hq_7.i9 7 4 rfl rfl).trans (rfl))) dX5_bestStep_22 ?_
  refine lv_icmp_gt (tgt := 76) hx hb dX5_bestStep_25 rfl (fun c_22 => ?_) (fun c_22 => ?_)
  · have c_22 : (G.1 7 4).toInt < x_15.toInt := xI_lt rfl rfl c_22
    refine lv_iload_n hx hb dX5_bestStep_76 rfl (lv_at hl 2 rfl) ?_
    exact W.iret (v := x_17) hx hb hr (fun t ht _ => ⟨⟨x_17, G_11, rfl, (P_oBest_mk ⟨hB_G_11, hF, ⟨(by first | exact f_20.1 | omega), (by first | exact f_20.2 | omega)⟩, ⟨r_5, G_6, hX_9, ⟨y_10, ty_10, ⟨x_15, x_16, x_17, G_11, hX_18, f_19, f_20, hB_G_11, hq_12, (Or.inl ⟨c_22, ⟨rfl, rfl⟩⟩)⟩⟩⟩⟩), wd_t ht hW⟩, hS.F ht⟩) hS.2.2 dX5_bestStep_77
  · have c_22 : x_15.toInt ≤ (G.1 7 4).toInt := xI_nlt rfl rfl c_22
    refine lv_iload_n hx hb dX5_bestStep_28 rfl (lv_at hl 5 rfl) ?_
    refine lv_iload hx hb dX5_bestStep_29 (lv_at hl 0 rfl) ?_
    refine lv_iadd hx hb dX5_bestStep_31 ?_
    refine lv_topi (fun y_23 ey_23 => ?_)
    have ty_23 : y_23.toInt = p0.toInt + x_15.toInt := xI_add rfl rfl ey_23 ((by first | exact ok_252 ha_p0.1 f_19.1 | omega)) ((by first | exact ok_253 ha_p0.2 f_19.2 | omega))
    refine lv_aload_n hx hb dX5_bestStep_32 rfl (lv_at hl 4 rfl) ?_
    refine S_getI (v := (G.1 7 6)) (C := RX0) (T := TX0) (N := 8) hx hb hg iX0 hown hK hW kd_7 rfl 6 (lt_b rfl) (hg (Cond.fieldLink RX5 30 "SlabWalk$Course" "last" "I") m389) (fun _ h9 => h9) rfl ((hq_12.i9 7 6 rfl rfl).trans ((hq_7.i9 7 6 rfl rfl).trans (rfl))) dX5_bestStep_33 ?_
    refine ic_2 hx hb dX5_bestStep_36 ?_
    refine lv_iadd hx hb dX5_bestStep_37 ?_
    refine lv_topi (fun y_24 ey_24 => ?_)
    have ty_24 : y_24.toInt = (G.1 7 6).toInt + 2 := xI_add rfl rfl ey_24 ((by first | exact ok_245 b_1.1 | omega)) ((by first | exact ok_246 hci.1 | omega))
    refine lv_icmp_gt (tgt := 76) hx hb dX5_bestStep_38 rfl (fun c_25 => ?_) (fun c_25 => ?_)
    · have c_25 : y_24.toInt < y_23.toInt := xI_lt rfl rfl c_25
      refine lv_iload_n hx hb dX5_bestStep_76 rfl (lv_at hl 2 rfl) ?_
      exact W.iret (v := x_17) hx hb hr (fun t ht _ => ⟨⟨x_17, G_11, rfl, (P_oBest_mk ⟨hB_G_11, hF, ⟨(by first | exact f_20.1 | omega), (by first | exact f_20.2 | omega)⟩, ⟨r_5, G_6, hX_9, ⟨y_10, ty_10, ⟨x_15, x_16, x_17, G_11, hX_18, f_19, f_20, hB_G_11, hq_12, (Or.inr ⟨c_22, ⟨y_23, ty_23, ⟨y_24, ty_24, ⟨c_25, ⟨rfl, rfl⟩⟩⟩⟩⟩)⟩⟩⟩⟩), wd_t ht hW⟩, hS.F ht⟩) hS.2.2 dX5_bestStep_77
    · have c_25 : y_23.toInt ≤ y_24.toInt := xI_nlt rfl rfl c_25
      refine lv_aload_n hx hb dX5_bestStep_41 rfl (lv_at hl 3 rfl) ?_
      refine S_getR (n := 57) (C := RX5) (T := TX5) (N := 7) hx hb hg iX5 hown hK hW kd_29 rfl 5 (lt_b rfl) (hg (Cond.fieldLink RX5 27 "SlabWalk$Odds" "aims" "[J") m469) (fun _ h9 => h9) rfl dX5_bestStep_42 ?_
      refine lv_iload_n hx hb dX5_bestStep_45 rfl (lv_at hl 5 rfl) ?_
      refine lv_iload hx hb dX5_bestStep_46 (lv_at hl 0 rfl) ?_
      refine lv_iadd hx hb dX5_bestStep_48 ?_
      refine lv_topi (fun y_26 ey_26 => ?_)
      have ty_26 : y_26.toInt = p0.toInt + x_15.toInt := xI_add rfl rfl ey_26 ((by first | exact ok_252 ha_p0.1 f_19.1 | omega)) ((by first | exact ok_253 ha_p0.2 f_19.2 | omega))
      refine S_lald hx hb hK hW kd_57 (vin ((by first | exact ok_254 ha_p0.1 f_19.1 ty_26 | omega)) ((by first | exact ok_255 ha_p0.2 hci.1 f_19.2 ty_23 ty_24 c_25 ty_26 | omega))) dX5_bestStep_49 (fun y_27 ey_27 => ?_)
      refine lv_lload hx hb dX5_bestStep_50 (lv_at hl 1 rfl) ?_
      refine W.lcmp hx hb dX5_bestStep_52 ?_
      refine lv_topi (fun y_28 ey_28 => ?_)
      have ty_28 := lcmp_rng ey_28
      refine lv_if_le (tgt := 70) hx hb dX5_bestStep_53 rfl (fun c_29 => ?_) (fun c_29 => ?_)
      · have c_29 : y_28.toInt ≤ 0 := xI_le rfl rfl c_29
        obtain ⟨y_30, ey_30⟩ : ∃ q, q = x_15 + 1 := ⟨_, rfl⟩
        have ty_30 : y_30.toInt = x_15.toInt + 1 := xI_add rfl rfl ey_30 ((by first | exact ok_237 f_19.1 | omega)) ((by first | exact ok_256 f_19.2 | omega))
        refine lv_iinc (v := y_30) (lv' := [(6, .int y_30), (4, .long x_16), (3, .int x_17), (0, .ref (a 29)), (1, .ref (a 7)), (2, .int p0)]) hx hb dX5_bestStep_70 hl (k := 0) rfl (by rw [ey_30]; rfl) (lt_b rfl) rfl (fun ls hl => ?_)
        refine lv_goto (tgt := 19) hx hb dX5_bestStep_73 rfl ?_
        exact ih_13 (61 - y_30.toInt : Int).toNat ((by first | (clear b_2 b_4 f_20 ty_28 c_29; omega) | omega)) _ _ _ ⟨G_11, y_30, x_16, x_17, (Int.toNat_of_nonneg ((by first | exact ok_257 b_3.2 f_19.2 c_22 ty_30 | omega))), ⟨(by first | exact ok_240 f_19.1 ty_30 | omega), (by first | exact ok_258 b_3.2 f_19.2 c_22 ty_30 | omega)⟩, ⟨(by first | exact f_20.1 | omega), (by first | exact f_20.2 | omega)⟩, (hX_18.st (St_k_oBest_1_mk ⟨x_15, x_16, x_17, G_11, y_30, x_16, x_17, G_11, rfl, rfl, f_19, f_20, hB_G_11, ⟨c_22, ⟨y_23, ty_23, ⟨y_24, ty_24, ⟨c_25, ⟨y_26, ty_26, ⟨y_27, ey_27, ⟨y_28, ey_28, (Or.inl ⟨c_29, ⟨y_30, ty_30, ⟨rfl, rfl, rfl, rfl⟩⟩⟩)⟩⟩⟩⟩⟩⟩⟩⟩)), hW, hB_G_11, hF, (Fr.call9 (rs := []) (fs := []) Fr.rf hq_12 rfl rfl), hS, lv_sub hl [0, 1, 2, 3, 4, 5] rfl⟩
      · have c_29 : 0 < y_28.toInt := xI_nle rfl rfl c_29
        refine lv_iload hx hb dX5_bestStep_56 (lv_at hl 0 rfl) ?_
        refine lv_istore_n (lv' := [(3, .int x_15), (6, .int x_15), (4, .long x_16), (0, .ref (a 29)), (1, .ref (a 7)), (2, .int p0)]) hx hb dX5_bestStep_58 rfl hl (lt_b rfl) rfl (fun ls hl => ?_)
        refine lv_aload_n hx hb dX5_bestStep_59 rfl (lv_at hl 3 rfl) ?_
        refine S_getR (n := 57) (C := RX5) (T := TX5) (N := 7) hx hb hg iX5 hown hK hW kd_29 rfl 5 (lt_b rfl) (hg (Cond.fieldLink RX5 27 "SlabWalk$Odds" "aims" "[J") m469) (fun _ h9 => h9) rfl dX5_bestStep_60 ?_
        refine lv_iload_n hx hb dX5_bestStep_63 rfl (lv_at hl 5 rfl) ?_
        refine lv_iload hx hb dX5_bestStep_64 (lv_at hl 1 rfl) ?_
        refine lv_iadd hx hb dX5_bestStep_66 ?_
        refine lv_topi (fun y_31 ey_31 => ?_)
        have ty_31 : y_31.toInt = p0.toInt + x_15.toInt := xI_add rfl rfl ey_31 ((by first | exact ok_252 ha_p0.1 f_19.1 | omega)) ((by first | exact ok_253 ha_p0.2 f_19.2 | omega))
        refine S_lald hx hb hK hW kd_57 (vin ((by first | exact ok_254 ha_p0.1 f_19.1 ty_31 | omega)) ((by first | exact ok_255 ha_p0.2 hci.1 f_19.2 ty_23 ty_24 c_25 ty_31 | omega))) dX5_bestStep_67 (fun y_32 ey_32 => ?_)
        refine lv_lstore (lv' := [(4, .long y_32), (3, .int x_15), (6, .int x_15), (0, .ref (a 29)), (1, .ref (a 7)), (2, .int p0)]) hx hb dX5_bestStep_68 hl (lt_b rfl) rfl (fun ls hl => ?_)
        obtain ⟨y_33, ey_33⟩ : ∃ q, q = x_15 + 1 := ⟨_, rfl⟩
        have ty_33 : y_33.toInt = x_15.toInt + 1 := xI_add rfl rfl ey_33 ((by first | exact ok_237 f_19.1 | omega)) ((by first | exact ok_256 f_19.2 | omega))
        refine lv_iinc (v := y_33) (lv' := [(6, .int y_33), (4, .long y_32), (3, .int x_15), (0, .ref (a 29)), (1, .ref (a 7)), (2, .int p0)]) hx hb dX5_bestStep_70 hl (k := 2) rfl (by rw [ey_33]; rfl) (lt_b rfl) rfl (fun ls hl => ?_)
        refine lv_goto (tgt := 19) hx hb dX5_bestStep_73 rfl ?_
        exact ih_13 (61 - y_33.toInt : Int).toNat ((by first | (clear b_2 b_4 f_20 ty_28 c_29; omega) | omega)) _ _ _ ⟨G_11, y_33, y_32, x_15, (Int.toNat_of_nonneg ((by first | exact ok_257 b_3.2 f_19.2 c_22 ty_33 | omega))), ⟨(by first | exact ok_240 f_19.1 ty_33 | omega), (by first | exact ok_258 b_3.2 f_19.2 c_22 ty_33 | omega)⟩, ⟨(by first | exact ok_131 f_19.1 | omega), (by first | exact ok_259 b_3.2 f_19.2 c_22 | omega)⟩, (hX_18.st (St_k_oBest_1_mk ⟨x_15, x_16, x_17, G_11, y_33, y_32, x_15, G_11, rfl, rfl, f_19, f_20, hB_G_11, ⟨c_22, ⟨y_23, ty_23, ⟨y_24, ty_24, ⟨c_25, ⟨y_26, ty_26, ⟨y_27, ey_27, ⟨y_28, ey_28, (Or.inr ⟨c_29, ⟨y_31, ty_31, ⟨y_32, ey_32, ⟨y_33, ty_33, ⟨rfl, rfl, rfl, rfl⟩⟩⟩⟩⟩)⟩⟩⟩⟩⟩⟩⟩⟩)), hW, hB_G_11, hF, (Fr.call9 (rs := []) (fs := []) Fr.rf hq_12 rfl rfl), hS, lv_sub hl [0, 1, 2, 3, 4, 5] rfl⟩

set_option maxHeartbeats 4000000 in
set_option maxRecDepth 100000 in
theorem k_oBoldest (l : Launch) (D : va_G) (k : KT) (A : Nat → Prop) (a : Nat → Nat) (z : SK) (G : GS)   : Met l yX5_boldestStep (WS yX5_boldestStep cX5_boldestStep 1 (some .int)) ({ frames := 0, cells := 0, slots := 0, locals := 0 }) (va_Pc [.ref (a 29)] (cW D k A a z G)) (va_Qi (fun (r : Int32) (G1 : GS) => P_oBoldest G r G1) (fun (G1 : GS) t => Wd D k A a G1 t.heap) A) 0 0 A := by
  refine Met.ofW (cc := cX5_boldestStep) (maxL := 1) (ret := (some .int)) (by decide) rfl ?_
  intro p e s m args below meth c s₁ B hml hv
  obtain ⟨rfl, hW, hB_G, hK, hZ⟩ := hv
  have hx := B.exec
  have hb := B.bytes
  have hr := B.returns
  have hts := atoms_spec (ws := WS yX5_boldestStep cX5_boldestStep 1 (some .int)) B.pre
  have hgd : ∀ w ∈ gd, w ∈ WS yX5_boldestStep cX5_boldestStep 1 (some .int) := fun w h => List.mem_cons_of_mem _ h
  have hg : ∀ w ∈ gd, w.before _ s = true := fun w h => hts w (hgd w h)
  have hown : s.vm.findClass RX5 = some m.cls := findClass_of_methodNamed B.named
  have hS : va_S A s.heap s.heap [] := va_S.rf
  have hF : Fr [] [] G G := Fr.rf
  have hl := lv_entry ([.ref (a 29)]) (n := 1) (Nat.le_of_ble_eq_true rfl)
  rw [lg_entry_eq]
  generalize (lg_sl ([.ref (a 29)]) ++ List.replicate (1 - (lg_sl ([.ref (a 29)])).length) Slot.unset).toArray = ls at hl ⊢
  have hl : lv_has ls 1 [(0, .ref (a 29))] := hl
  refine lv_aload_n hx hb dX5_boldestStep_0 rfl (lv_at hl 0 rfl) ?_
  refine S_getI (v := (G.1 29 6)) (C := RX5) (T := TX5) (N := 7) hx hb hg iX5 hown hK hW kd_29 rfl 6 (lt_b rfl) (hg (Cond.fieldLink RX5 82 "SlabWalk$Odds" "boldest" "I") m470) (fun _ h9 => h9) rfl rfl dX5_boldestStep_1 ?_
  exact W.iret (v := (G.1 29 6)) hx hb hr (fun t ht _ => ⟨⟨(G.1 29 6), G, rfl, (P_oBoldest_mk ⟨hB_G, hF, ⟨rfl, rfl⟩⟩), wd_t ht hW⟩, hS.F ht⟩) hS.2.2 dX5_boldestStep_4

theorem m39 : Cond.selects RX5 yX5_bestStep yX5_bestStep ∈ gd := gds_3 7 rfl
theorem m468 : Cond.fieldLink RX5 24 "SlabWalk$Odds" "odds" "[J" ∈ gd := gdc_2_7 0 rfl gw_fieldLink
theorem m1126 : Cond.methodLink RX5 74 yX5_bestStep ∈ gd := gdc_5_3 2 rfl gw_methodLink
theorem m1128 : Cond.instanceMethod yX5_bestStep ∈ gd := gdc_5_3 4 rfl gw_instanceMethod
theorem m1129 : Cond.code yX5_bestStep cX5_bestStep 7 (some .int) ∈ gd := gdc_5_3 5 rfl gw_code
noncomputable def rbX5_bravest_0 : List (Nat × List Nat) := [(0, [10]), (1, [55, 5]), (3, [29]), (4, [54, 7]), (6, [21, 7]), (8, [43]), (9, [180, 0, 30]), (12, [163, 0, 31]), (15, [42]), (16, [180, 0, 24]), (19, [21, 7]), (21, [43]), (22, [180, 0, 36]), (25, [21, 7]), (27, [51]), (28, [153, 0, 7]), (31, [10]), (32, [167, 0, 4]), (35, [9]), (36, [80]), (37, [132, 7, 1]), (40, [167, 255, 222]), (43, [3]), (44, [54, 7])]
theorem rcX5_bravest_0 : dgo (lb cX5_bravest) 0 rbX5_bravest_0 = true := by decide +kernel
theorem dX5_bravest_0 : decode cX5_bravest 0 = .ok (.lconst 1, 1) := dk_10 (dw rcX5_bravest_0 0 rfl)
theorem dX5_bravest_1 : decode cX5_bravest 1 = .ok (.lstore 5, 2) := dk_55 (dw rcX5_bravest_0 1 rfl)
theorem dX5_bravest_3 : decode cX5_bravest 3 = .ok (.iload_n 3, 1) := dk_29 (dw rcX5_bravest_0 2 rfl)
theorem dX5_bravest_4 : decode cX5_bravest 4 = .ok (.istore 7, 2) := dk_54 (dw rcX5_bravest_0 3 rfl)
theorem dX5_bravest_6 : decode cX5_bravest 6 = .ok (.iload 7, 2) := dk_21 (dw rcX5_bravest_0 4 rfl)
theorem dX5_bravest_8 : decode cX5_bravest 8 = .ok (.aload_n 1, 1) := dk_43 (dw rcX5_bravest_0 5 rfl)
theorem dX5_bravest_9 : decode cX5_bravest 9 = .ok (.getfield 30, 3) := dk_180 (dw rcX5_bravest_0 6 rfl) rfl
theorem dX5_bravest_12 : decode cX5_bravest 12 = .ok (.if_icmp .gt 31, 3) := dk_163 (dw rcX5_bravest_0 7 rfl) rfl
theorem dX5_bravest_15 : decode cX5_bravest 15 = .ok (.aload_n 0, 1) := dk_42 (dw rcX5_bravest_0 8 rfl)
theorem dX5_bravest_16 : decode cX5_bravest 16 = .ok (.getfield 24, 3) := dk_180 (dw rcX5_bravest_0 9 rfl) rfl
theorem dX5_bravest_19 : decode cX5_bravest 19 = .ok (.iload 7, 2) := dk_21 (dw rcX5_bravest_0 10 rfl)
theorem dX5_bravest_21 : decode cX5_bravest 21 = .ok (.aload_n 1, 1) := dk_43 (dw rcX5_bravest_0 11 rfl)
theorem dX5_bravest_22 : decode cX5_bravest 22 = .ok (.getfield 36, 3) := dk_180 (dw rcX5_bravest_0 12 rfl) rfl
theorem dX5_bravest_25 : decode cX5_bravest 25 = .ok (.iload 7, 2) := dk_21 (dw rcX5_bravest_0 13 rfl)
theorem dX5_bravest_27 : decode cX5_bravest 27 = .ok (.baload, 1) := dk_51 (dw rcX5_bravest_0 14 rfl)
theorem dX5_bravest_28 : decode cX5_bravest 28 = .ok (.ifCond .eq 7, 3) := dk_153 (dw rcX5_bravest_0 15 rfl) rfl
theorem dX5_bravest_31 : decode cX5_bravest 31 = .ok (.lconst 1, 1) := dk_10 (dw rcX5_bravest_0 16 rfl)
theorem dX5_bravest_32 : decode cX5_bravest 32 = .ok (.goto 4, 3) := dk_167 (dw rcX5_bravest_0 17 rfl) rfl
theorem dX5_bravest_35 : decode cX5_bravest 35 = .ok (.lconst 0, 1) := dk_9 (dw rcX5_bravest_0 18 rfl)
theorem dX5_bravest_36 : decode cX5_bravest 36 = .ok (.lastore, 1) := dk_80 (dw rcX5_bravest_0 19 rfl)
theorem dX5_bravest_37 : decode cX5_bravest 37 = .ok (.iinc 7 1, 3) := dk_132 (dw rcX5_bravest_0 20 rfl) rfl
theorem dX5_bravest_40 : decode cX5_bravest 40 = .ok (.goto (-34), 3) := dk_167 (dw rcX5_bravest_0 21 rfl) rfl
theorem dX5_bravest_43 : decode cX5_bravest 43 = .ok (.iconst 0, 1) := dk_3 (dw rcX5_bravest_0 22 rfl)
theorem dX5_bravest_44 : decode cX5_bravest 44 = .ok (.istore 7, 2) := dk_54 (dw rcX5_bravest_0 23 rfl)
noncomputable def rbX5_bravest_46 : List (Nat × List Nat) := [(46, [21, 7]), (48, [21, 4]), (50, [162, 0, 184]), (53, [43]), (54, [180, 0, 30]), (57, [4]), (58, [96]), (59, [54, 8]), (61, [21, 8]), (63, [43]), (64, [180, 0, 30]), (67, [6]), (68, [96]), (69, [163, 0, 18]), (72, [42]), (73, [180, 0, 24]), (76, [21, 8]), (78, [22, 5]), (80, [80]), (81, [132, 8, 1]), (84, [167, 255, 233]), (87, [22, 5]), (89, [44]), (90, [3])]
theorem rcX5_bravest_46 : dgo (lb cX5_bravest) 0 rbX5_bravest_46 = true := by decide +kernel
theorem dX5_bravest_46 : decode cX5_bravest 46 = .ok (.iload 7, 2) := dk_21 (dw rcX5_bravest_46 0 rfl)
theorem dX5_bravest_48 : decode cX5_bravest 48 = .ok (.iload 4, 2) := dk_21 (dw rcX5_bravest_46 1 rfl)
theorem dX5_bravest_50 : decode cX5_bravest 50 = .ok (.if_icmp .ge 184, 3) := dk_162 (dw rcX5_bravest_46 2 rfl) rfl
theorem dX5_bravest_53 : decode cX5_bravest 53 = .ok (.aload_n 1, 1) := dk_43 (dw rcX5_bravest_46 3 rfl)
theorem dX5_bravest_54 : decode cX5_bravest 54 = .ok (.getfield 30, 3) := dk_180 (dw rcX5_bravest_46 4 rfl) rfl
theorem dX5_bravest_57 : decode cX5_bravest 57 = .ok (.iconst 1, 1) := dk_4 (dw rcX5_bravest_46 5 rfl)
theorem dX5_bravest_58 : decode cX5_bravest 58 = .ok (.iadd, 1) := dk_96 (dw rcX5_bravest_46 6 rfl)
theorem dX5_bravest_59 : decode cX5_bravest 59 = .ok (.istore 8, 2) := dk_54 (dw rcX5_bravest_46 7 rfl)
theorem dX5_bravest_61 : decode cX5_bravest 61 = .ok (.iload 8, 2) := dk_21 (dw rcX5_bravest_46 8 rfl)
theorem dX5_bravest_63 : decode cX5_bravest 63 = .ok (.aload_n 1, 1) := dk_43 (dw rcX5_bravest_46 9 rfl)
theorem dX5_bravest_64 : decode cX5_bravest 64 = .ok (.getfield 30, 3) := dk_180 (dw rcX5_bravest_46 10 rfl) rfl
theorem dX5_bravest_67 : decode cX5_bravest 67 = .ok (.iconst 3, 1) := dk_6 (dw rcX5_bravest_46 11 rfl)
theorem dX5_bravest_68 : decode cX5_bravest 68 = .ok (.iadd, 1) := dk_96 (dw rcX5_bravest_46 12 rfl)
theorem dX5_bravest_69 : decode cX5_bravest 69 = .ok (.if_icmp .gt 18, 3) := dk_163 (dw rcX5_bravest_46 13 rfl) rfl
theorem dX5_bravest_72 : decode cX5_bravest 72 = .ok (.aload_n 0, 1) := dk_42 (dw rcX5_bravest_46 14 rfl)
theorem dX5_bravest_73 : decode cX5_bravest 73 = .ok (.getfield 24, 3) := dk_180 (dw rcX5_bravest_46 15 rfl) rfl
theorem dX5_bravest_76 : decode cX5_bravest 76 = .ok (.iload 8, 2) := dk_21 (dw rcX5_bravest_46 16 rfl)
theorem dX5_bravest_78 : decode cX5_bravest 78 = .ok (.lload 5, 2) := dk_22 (dw rcX5_bravest_46 17 rfl)
theorem dX5_bravest_80 : decode cX5_bravest 80 = .ok (.lastore, 1) := dk_80 (dw rcX5_bravest_46 18 rfl)
theorem dX5_bravest_81 : decode cX5_bravest 81 = .ok (.iinc 8 1, 3) := dk_132 (dw rcX5_bravest_46 19 rfl) rfl
theorem dX5_bravest_84 : decode cX5_bravest 84 = .ok (.goto (-23), 3) := dk_167 (dw rcX5_bravest_46 20 rfl) rfl
theorem dX5_bravest_87 : decode cX5_bravest 87 = .ok (.lload 5, 2) := dk_22 (dw rcX5_bravest_46 21 rfl)
theorem dX5_bravest_89 : decode cX5_bravest 89 = .ok (.aload_n 2, 1) := dk_44 (dw rcX5_bravest_46 22 rfl)
theorem dX5_bravest_90 : decode cX5_bravest 90 = .ok (.iconst 0, 1) := dk_3 (dw rcX5_bravest_46 23 rfl)
noncomputable def rbX5_bravest_91 : List (Nat × List Nat) := [(91, [46]), (92, [44]), (93, [4]), (94, [46]), (95, [96]), (96, [44]), (97, [5]), (98, [46]), (99, [96]), (100, [133]), (101, [105]), (102, [55, 5]), (104, [29]), (105, [4]), (106, [96]), (107, [54, 8]), (109, [21, 8]), (111, [43]), (112, [180, 0, 30]), (115, [5]), (116, [96]), (117, [163, 0, 58]), (120, [42]), (121, [180, 0, 27])]
theorem rcX5_bravest_91 : dgo (lb cX5_bravest) 0 rbX5_bravest_91 = true := by decide +kernel
theorem dX5_bravest_91 : decode cX5_bravest 91 = .ok (.iaload, 1) := dk_46 (dw rcX5_bravest_91 0 rfl)
theorem dX5_bravest_92 : decode cX5_bravest 92 = .ok (.aload_n 2, 1) := dk_44 (dw rcX5_bravest_91 1 rfl)
theorem dX5_bravest_93 : decode cX5_bravest 93 = .ok (.iconst 1, 1) := dk_4 (dw rcX5_bravest_91 2 rfl)
theorem dX5_bravest_94 : decode cX5_bravest 94 = .ok (.iaload, 1) := dk_46 (dw rcX5_bravest_91 3 rfl)
theorem dX5_bravest_95 : decode cX5_bravest 95 = .ok (.iadd, 1) := dk_96 (dw rcX5_bravest_91 4 rfl)
theorem dX5_bravest_96 : decode cX5_bravest 96 = .ok (.aload_n 2, 1) := dk_44 (dw rcX5_bravest_91 5 rfl)
theorem dX5_bravest_97 : decode cX5_bravest 97 = .ok (.iconst 2, 1) := dk_5 (dw rcX5_bravest_91 6 rfl)
theorem dX5_bravest_98 : decode cX5_bravest 98 = .ok (.iaload, 1) := dk_46 (dw rcX5_bravest_91 7 rfl)
theorem dX5_bravest_99 : decode cX5_bravest 99 = .ok (.iadd, 1) := dk_96 (dw rcX5_bravest_91 8 rfl)
theorem dX5_bravest_100 : decode cX5_bravest 100 = .ok (.i2l, 1) := dk_133 (dw rcX5_bravest_91 9 rfl)
theorem dX5_bravest_101 : decode cX5_bravest 101 = .ok (.lmul, 1) := dk_105 (dw rcX5_bravest_91 10 rfl)
theorem dX5_bravest_102 : decode cX5_bravest 102 = .ok (.lstore 5, 2) := dk_55 (dw rcX5_bravest_91 11 rfl)
theorem dX5_bravest_104 : decode cX5_bravest 104 = .ok (.iload_n 3, 1) := dk_29 (dw rcX5_bravest_91 12 rfl)
theorem dX5_bravest_105 : decode cX5_bravest 105 = .ok (.iconst 1, 1) := dk_4 (dw rcX5_bravest_91 13 rfl)
theorem dX5_bravest_106 : decode cX5_bravest 106 = .ok (.iadd, 1) := dk_96 (dw rcX5_bravest_91 14 rfl)
theorem dX5_bravest_107 : decode cX5_bravest 107 = .ok (.istore 8, 2) := dk_54 (dw rcX5_bravest_91 15 rfl)
theorem dX5_bravest_109 : decode cX5_bravest 109 = .ok (.iload 8, 2) := dk_21 (dw rcX5_bravest_91 16 rfl)
theorem dX5_bravest_111 : decode cX5_bravest 111 = .ok (.aload_n 1, 1) := dk_43 (dw rcX5_bravest_91 17 rfl)
theorem dX5_bravest_112 : decode cX5_bravest 112 = .ok (.getfield 30, 3) := dk_180 (dw rcX5_bravest_91 18 rfl) rfl
theorem dX5_bravest_115 : decode cX5_bravest 115 = .ok (.iconst 2, 1) := dk_5 (dw rcX5_bravest_91 19 rfl)
theorem dX5_bravest_116 : decode cX5_bravest 116 = .ok (.iadd, 1) := dk_96 (dw rcX5_bravest_91 20 rfl)
theorem dX5_bravest_117 : decode cX5_bravest 117 = .ok (.if_icmp .gt 58, 3) := dk_163 (dw rcX5_bravest_91 21 rfl) rfl
theorem dX5_bravest_120 : decode cX5_bravest 120 = .ok (.aload_n 0, 1) := dk_42 (dw rcX5_bravest_91 22 rfl)
theorem dX5_bravest_121 : decode cX5_bravest 121 = .ok (.getfield 27, 3) := dk_180 (dw rcX5_bravest_91 23 rfl) rfl
noncomputable def rbX5_bravest_124 : List (Nat × List Nat) := [(124, [21, 8]), (126, [44]), (127, [3]), (128, [46]), (129, [133]), (130, [42]), (131, [180, 0, 24]), (134, [21, 8]), (136, [4]), (137, [100]), (138, [47]), (139, [105]), (140, [44]), (141, [4]), (142, [46]), (143, [133]), (144, [42]), (145, [180, 0, 24]), (148, [21, 8]), (150, [47]), (151, [105]), (152, [97]), (153, [44]), (154, [5])]
theorem rcX5_bravest_124 : dgo (lb cX5_bravest) 0 rbX5_bravest_124 = true := by decide +kernel
theorem dX5_bravest_124 : decode cX5_bravest 124 = .ok (.iload 8, 2) := dk_21 (dw rcX5_bravest_124 0 rfl)
theorem dX5_bravest_126 : decode cX5_bravest 126 = .ok (.aload_n 2, 1) := dk_44 (dw rcX5_bravest_124 1 rfl)
theorem dX5_bravest_127 : decode cX5_bravest 127 = .ok (.iconst 0, 1) := dk_3 (dw rcX5_bravest_124 2 rfl)
theorem dX5_bravest_128 : decode cX5_bravest 128 = .ok (.iaload, 1) := dk_46 (dw rcX5_bravest_124 3 rfl)
theorem dX5_bravest_129 : decode cX5_bravest 129 = .ok (.i2l, 1) := dk_133 (dw rcX5_bravest_124 4 rfl)
theorem dX5_bravest_130 : decode cX5_bravest 130 = .ok (.aload_n 0, 1) := dk_42 (dw rcX5_bravest_124 5 rfl)
theorem dX5_bravest_131 : decode cX5_bravest 131 = .ok (.getfield 24, 3) := dk_180 (dw rcX5_bravest_124 6 rfl) rfl
theorem dX5_bravest_134 : decode cX5_bravest 134 = .ok (.iload 8, 2) := dk_21 (dw rcX5_bravest_124 7 rfl)
theorem dX5_bravest_136 : decode cX5_bravest 136 = .ok (.iconst 1, 1) := dk_4 (dw rcX5_bravest_124 8 rfl)
theorem dX5_bravest_137 : decode cX5_bravest 137 = .ok (.isub, 1) := dk_100 (dw rcX5_bravest_124 9 rfl)
theorem dX5_bravest_138 : decode cX5_bravest 138 = .ok (.laload, 1) := dk_47 (dw rcX5_bravest_124 10 rfl)
theorem dX5_bravest_139 : decode cX5_bravest 139 = .ok (.lmul, 1) := dk_105 (dw rcX5_bravest_124 11 rfl)
theorem dX5_bravest_140 : decode cX5_bravest 140 = .ok (.aload_n 2, 1) := dk_44 (dw rcX5_bravest_124 12 rfl)
theorem dX5_bravest_141 : decode cX5_bravest 141 = .ok (.iconst 1, 1) := dk_4 (dw rcX5_bravest_124 13 rfl)
theorem dX5_bravest_142 : decode cX5_bravest 142 = .ok (.iaload, 1) := dk_46 (dw rcX5_bravest_124 14 rfl)
theorem dX5_bravest_143 : decode cX5_bravest 143 = .ok (.i2l, 1) := dk_133 (dw rcX5_bravest_124 15 rfl)
theorem dX5_bravest_144 : decode cX5_bravest 144 = .ok (.aload_n 0, 1) := dk_42 (dw rcX5_bravest_124 16 rfl)
theorem dX5_bravest_145 : decode cX5_bravest 145 = .ok (.getfield 24, 3) := dk_180 (dw rcX5_bravest_124 17 rfl) rfl
theorem dX5_bravest_148 : decode cX5_bravest 148 = .ok (.iload 8, 2) := dk_21 (dw rcX5_bravest_124 18 rfl)
theorem dX5_bravest_150 : decode cX5_bravest 150 = .ok (.laload, 1) := dk_47 (dw rcX5_bravest_124 19 rfl)
theorem dX5_bravest_151 : decode cX5_bravest 151 = .ok (.lmul, 1) := dk_105 (dw rcX5_bravest_124 20 rfl)
theorem dX5_bravest_152 : decode cX5_bravest 152 = .ok (.ladd, 1) := dk_97 (dw rcX5_bravest_124 21 rfl)
theorem dX5_bravest_153 : decode cX5_bravest 153 = .ok (.aload_n 2, 1) := dk_44 (dw rcX5_bravest_124 22 rfl)
theorem dX5_bravest_154 : decode cX5_bravest 154 = .ok (.iconst 2, 1) := dk_5 (dw rcX5_bravest_124 23 rfl)
noncomputable def rbX5_bravest_155 : List (Nat × List Nat) := [(155, [46]), (156, [133]), (157, [42]), (158, [180, 0, 24]), (161, [21, 8]), (163, [4]), (164, [96]), (165, [47]), (166, [105]), (167, [97]), (168, [80]), (169, [132, 8, 1]), (172, [167, 255, 193]), (175, [29]), (176, [54, 8]), (178, [21, 8]), (180, [43]), (181, [180, 0, 30]), (184, [163, 0, 44]), (187, [42]), (188, [180, 0, 24]), (191, [21, 8]), (193, [43]), (194, [180, 0, 36])]
theorem rcX5_bravest_155 : dgo (lb cX5_bravest) 0 rbX5_bravest_155 = true := by decide +kernel
theorem dX5_bravest_155 : decode cX5_bravest 155 = .ok (.iaload, 1) := dk_46 (dw rcX5_bravest_155 0 rfl)
theorem dX5_bravest_156 : decode cX5_bravest 156 = .ok (.i2l, 1) := dk_133 (dw rcX5_bravest_155 1 rfl)
theorem dX5_bravest_157 : decode cX5_bravest 157 = .ok (.aload_n 0, 1) := dk_42 (dw rcX5_bravest_155 2 rfl)
theorem dX5_bravest_158 : decode cX5_bravest 158 = .ok (.getfield 24, 3) := dk_180 (dw rcX5_bravest_155 3 rfl) rfl
theorem dX5_bravest_161 : decode cX5_bravest 161 = .ok (.iload 8, 2) := dk_21 (dw rcX5_bravest_155 4 rfl)
theorem dX5_bravest_163 : decode cX5_bravest 163 = .ok (.iconst 1, 1) := dk_4 (dw rcX5_bravest_155 5 rfl)
theorem dX5_bravest_164 : decode cX5_bravest 164 = .ok (.iadd, 1) := dk_96 (dw rcX5_bravest_155 6 rfl)
theorem dX5_bravest_165 : decode cX5_bravest 165 = .ok (.laload, 1) := dk_47 (dw rcX5_bravest_155 7 rfl)
theorem dX5_bravest_166 : decode cX5_bravest 166 = .ok (.lmul, 1) := dk_105 (dw rcX5_bravest_155 8 rfl)
theorem dX5_bravest_167 : decode cX5_bravest 167 = .ok (.ladd, 1) := dk_97 (dw rcX5_bravest_155 9 rfl)
theorem dX5_bravest_168 : decode cX5_bravest 168 = .ok (.lastore, 1) := dk_80 (dw rcX5_bravest_155 10 rfl)
theorem dX5_bravest_169 : decode cX5_bravest 169 = .ok (.iinc 8 1, 3) := dk_132 (dw rcX5_bravest_155 11 rfl) rfl
theorem dX5_bravest_172 : decode cX5_bravest 172 = .ok (.goto (-63), 3) := dk_167 (dw rcX5_bravest_155 12 rfl) rfl
theorem dX5_bravest_175 : decode cX5_bravest 175 = .ok (.iload_n 3, 1) := dk_29 (dw rcX5_bravest_155 13 rfl)
theorem dX5_bravest_176 : decode cX5_bravest 176 = .ok (.istore 8, 2) := dk_54 (dw rcX5_bravest_155 14 rfl)
theorem dX5_bravest_178 : decode cX5_bravest 178 = .ok (.iload 8, 2) := dk_21 (dw rcX5_bravest_155 15 rfl)
theorem dX5_bravest_180 : decode cX5_bravest 180 = .ok (.aload_n 1, 1) := dk_43 (dw rcX5_bravest_155 16 rfl)
theorem dX5_bravest_181 : decode cX5_bravest 181 = .ok (.getfield 30, 3) := dk_180 (dw rcX5_bravest_155 17 rfl) rfl
theorem dX5_bravest_184 : decode cX5_bravest 184 = .ok (.if_icmp .gt 44, 3) := dk_163 (dw rcX5_bravest_155 18 rfl) rfl
theorem dX5_bravest_187 : decode cX5_bravest 187 = .ok (.aload_n 0, 1) := dk_42 (dw rcX5_bravest_155 19 rfl)
theorem dX5_bravest_188 : decode cX5_bravest 188 = .ok (.getfield 24, 3) := dk_180 (dw rcX5_bravest_155 20 rfl) rfl
theorem dX5_bravest_191 : decode cX5_bravest 191 = .ok (.iload 8, 2) := dk_21 (dw rcX5_bravest_155 21 rfl)
theorem dX5_bravest_193 : decode cX5_bravest 193 = .ok (.aload_n 1, 1) := dk_43 (dw rcX5_bravest_155 22 rfl)
theorem dX5_bravest_194 : decode cX5_bravest 194 = .ok (.getfield 36, 3) := dk_180 (dw rcX5_bravest_155 23 rfl) rfl
noncomputable def rbX5_bravest_197 : List (Nat × List Nat) := [(197, [21, 8]), (199, [51]), (200, [153, 0, 20]), (203, [42]), (204, [43]), (205, [21, 8]), (207, [42]), (208, [43]), (209, [21, 8]), (211, [182, 0, 74]), (214, [182, 0, 78]), (217, [167, 0, 4]), (220, [9]), (221, [80]), (222, [132, 8, 1]), (225, [167, 255, 209]), (228, [132, 7, 1]), (231, [167, 255, 71]), (234, [42]), (235, [43]), (236, [180, 0, 36]), (239, [29]), (240, [51]), (241, [153, 0, 12])]
theorem rcX5_bravest_197 : dgo (lb cX5_bravest) 0 rbX5_bravest_197 = true := by decide +kernel
theorem dX5_bravest_197 : decode cX5_bravest 197 = .ok (.iload 8, 2) := dk_21 (dw rcX5_bravest_197 0 rfl)
theorem dX5_bravest_199 : decode cX5_bravest 199 = .ok (.baload, 1) := dk_51 (dw rcX5_bravest_197 1 rfl)
theorem dX5_bravest_200 : decode cX5_bravest 200 = .ok (.ifCond .eq 20, 3) := dk_153 (dw rcX5_bravest_197 2 rfl) rfl
theorem dX5_bravest_203 : decode cX5_bravest 203 = .ok (.aload_n 0, 1) := dk_42 (dw rcX5_bravest_197 3 rfl)
theorem dX5_bravest_204 : decode cX5_bravest 204 = .ok (.aload_n 1, 1) := dk_43 (dw rcX5_bravest_197 4 rfl)
theorem dX5_bravest_205 : decode cX5_bravest 205 = .ok (.iload 8, 2) := dk_21 (dw rcX5_bravest_197 5 rfl)
theorem dX5_bravest_207 : decode cX5_bravest 207 = .ok (.aload_n 0, 1) := dk_42 (dw rcX5_bravest_197 6 rfl)
theorem dX5_bravest_208 : decode cX5_bravest 208 = .ok (.aload_n 1, 1) := dk_43 (dw rcX5_bravest_197 7 rfl)
theorem dX5_bravest_209 : decode cX5_bravest 209 = .ok (.iload 8, 2) := dk_21 (dw rcX5_bravest_197 8 rfl)
theorem dX5_bravest_211 : decode cX5_bravest 211 = .ok (.invokevirtual 74, 3) := dk_182 (dw rcX5_bravest_197 9 rfl) rfl
theorem dX5_bravest_214 : decode cX5_bravest 214 = .ok (.invokevirtual 78, 3) := dk_182 (dw rcX5_bravest_197 10 rfl) rfl
theorem dX5_bravest_217 : decode cX5_bravest 217 = .ok (.goto 4, 3) := dk_167 (dw rcX5_bravest_197 11 rfl) rfl
theorem dX5_bravest_220 : decode cX5_bravest 220 = .ok (.lconst 0, 1) := dk_9 (dw rcX5_bravest_197 12 rfl)
theorem dX5_bravest_221 : decode cX5_bravest 221 = .ok (.lastore, 1) := dk_80 (dw rcX5_bravest_197 13 rfl)
theorem dX5_bravest_222 : decode cX5_bravest 222 = .ok (.iinc 8 1, 3) := dk_132 (dw rcX5_bravest_197 14 rfl) rfl
theorem dX5_bravest_225 : decode cX5_bravest 225 = .ok (.goto (-47), 3) := dk_167 (dw rcX5_bravest_197 15 rfl) rfl
theorem dX5_bravest_228 : decode cX5_bravest 228 = .ok (.iinc 7 1, 3) := dk_132 (dw rcX5_bravest_197 16 rfl) rfl
theorem dX5_bravest_231 : decode cX5_bravest 231 = .ok (.goto (-185), 3) := dk_167 (dw rcX5_bravest_197 17 rfl) rfl
theorem dX5_bravest_234 : decode cX5_bravest 234 = .ok (.aload_n 0, 1) := dk_42 (dw rcX5_bravest_197 18 rfl)
theorem dX5_bravest_235 : decode cX5_bravest 235 = .ok (.aload_n 1, 1) := dk_43 (dw rcX5_bravest_197 19 rfl)
theorem dX5_bravest_236 : decode cX5_bravest 236 = .ok (.getfield 36, 3) := dk_180 (dw rcX5_bravest_197 20 rfl) rfl
theorem dX5_bravest_239 : decode cX5_bravest 239 = .ok (.iload_n 3, 1) := dk_29 (dw rcX5_bravest_197 21 rfl)
theorem dX5_bravest_240 : decode cX5_bravest 240 = .ok (.baload, 1) := dk_51 (dw rcX5_bravest_197 22 rfl)
theorem dX5_bravest_241 : decode cX5_bravest 241 = .ok (.ifCond .eq 12, 3) := dk_153 (dw rcX5_bravest_197 23 rfl) rfl
noncomputable def rbX5_bravest_244 : List (Nat × List Nat) := [(244, [42]), (245, [43]), (246, [29]), (247, [182, 0, 74]), (250, [167, 0, 7]), (253, [43]), (254, [180, 0, 58]), (257, [181, 0, 82]), (260, [42]), (261, [180, 0, 24]), (264, [29]), (265, [47]), (266, [173])]
theorem rcX5_bravest_244 : dgo (lb cX5_bravest) 0 rbX5_bravest_244 = true := by decide +kernel
theorem dX5_bravest_244 : decode cX5_bravest 244 = .ok (.aload_n 0, 1) := dk_42 (dw rcX5_bravest_244 0 rfl)
theorem dX5_bravest_245 : decode cX5_bravest 245 = .ok (.aload_n 1, 1) := dk_43 (dw rcX5_bravest_244 1 rfl)
theorem dX5_bravest_246 : decode cX5_bravest 246 = .ok (.iload_n 3, 1) := dk_29 (dw rcX5_bravest_244 2 rfl)
theorem dX5_bravest_247 : decode cX5_bravest 247 = .ok (.invokevirtual 74, 3) := dk_182 (dw rcX5_bravest_244 3 rfl) rfl
theorem dX5_bravest_250 : decode cX5_bravest 250 = .ok (.goto 7, 3) := dk_167 (dw rcX5_bravest_244 4 rfl) rfl
theorem dX5_bravest_253 : decode cX5_bravest 253 = .ok (.aload_n 1, 1) := dk_43 (dw rcX5_bravest_244 5 rfl)
theorem dX5_bravest_254 : decode cX5_bravest 254 = .ok (.getfield 58, 3) := dk_180 (dw rcX5_bravest_244 6 rfl) rfl
theorem dX5_bravest_257 : decode cX5_bravest 257 = .ok (.putfield 82, 3) := dk_181 (dw rcX5_bravest_244 7 rfl) rfl
theorem dX5_bravest_260 : decode cX5_bravest 260 = .ok (.aload_n 0, 1) := dk_42 (dw rcX5_bravest_244 8 rfl)
theorem dX5_bravest_261 : decode cX5_bravest 261 = .ok (.getfield 24, 3) := dk_180 (dw rcX5_bravest_244 9 rfl) rfl
theorem dX5_bravest_264 : decode cX5_bravest 264 = .ok (.iload_n 3, 1) := dk_29 (dw rcX5_bravest_244 10 rfl)
theorem dX5_bravest_265 : decode cX5_bravest 265 = .ok (.laload, 1) := dk_47 (dw rcX5_bravest_244 11 rfl)
theorem dX5_bravest_266 : decode cX5_bravest 266 = .ok (.lreturn, 1) := dk_173 (dw rcX5_bravest_244 12 rfl)
set_option maxHeartbeats 4000000 in
set_option maxRecDepth 100000 in
theorem k_oBrave_1 (l : Launch) (D : va_G) (k : KT) (A : Nat → Prop) (a : Nat → Nat) (z : SK) (G : GS) (p0 : Int32) (p1 : Int32) (ha_p0 : 0 ≤ p0.toInt ∧ p0.toInt ≤ 399) (ha_p1 : 1 ≤ p1.toInt ∧ p1.toInt ≤ 8) (hci : (G.1 7 6).toInt ≤ 399 ∧ (G.1 7 3).toInt ≤ (G.1 7 4).toInt ∧ ((G.1 7 7).toInt ≤ 0 ∨ (G.1 7 7).toInt + (G.1 7 4).toInt ≤ (G.1 7 6).toInt + 1)) : Met l yX5_bravest (WS yX5_bravest cX5_bravest 9 (some .long)) ({ frames := 3, cells := 0, slots := 0, locals := 63 }) (va_Pc [.ref (a 29), .ref (a 7), .ref (a 16), .int p0, .int p1] (cW D k A a z G)) (va_Ql (fun (r : Int64) (G1 : GS) => P_oBrave_1 p0 p1 G r G1) (fun (G1 : GS) t => Wd D k A a G1 t.heap) A) 0 0 A := by
  refine Met.ofW (cc := cX5_bravest) (maxL := 9) (ret := (some .long)) (by decide) rfl ?_
  intro p e s m args below meth c s₁ B hml hv
  obtain ⟨rfl, hW, hB_G, hK, hZ⟩ := hv
  have hx := B.exec
  have hb := B.bytes
  have hr := B.returns
  have hts := atoms_spec (ws := WS yX5_bravest cX5_bravest 9 (some .long)) B.pre
  have hgd : ∀ w ∈ gd, w ∈ WS yX5_bravest cX5_bravest 9 (some .long) := fun w h => List.mem_cons_of_mem _ h
  have hg : ∀ w ∈ gd, w.before _ s = true := fun w h => hts w (hgd w h)
  have hown : s.vm.findClass RX5 = some m.cls := findClass_of_methodNamed B.named
  have hS : va_S A s.heap s.heap [] := va_S.rf
  have hF : Fr [56, 57] [(29, 6)] G G := Fr.rf
  have hl := lv_entry ([.ref (a 29), .ref (a 7), .ref (a 16), .int p0, .int p1]) (n := 9) (Nat.le_of_ble_eq_true rfl)
  rw [lg_entry_eq]
  generalize (lg_sl ([.ref (a 29), .ref (a 7), .ref (a 16), .int p0, .int p1]) ++ List.replicate (9 - (lg_sl ([.ref (a 29), .ref (a 7), .ref (a 16), .int p0, .int p1])).length) Slot.unset).toArray = ls at hl ⊢
  have hl : lv_has ls 9 [(0, .ref (a 29)), (1, .ref (a 7)), (2, .ref (a 16)), (3, .int p0), (4, .int p1)] := hl
  have b_1 : (-1) ≤ (G.1 7 6).toInt ∧ (G.1 7 6).toInt ≤ 400 := bd_7_6 hB_G
  refine lv_lconst (v := 1) hx hb dX5_bravest_0 (by decide) ?_
  refine lv_lstore (lv' := [(5, .long 1), (0, .ref (a 29)), (1, .ref (a 7)), (2, .ref (a 16)), (3, .int p0), (4, .int p1)]) hx hb dX5_bravest_1 hl (lt_b rfl) rfl (fun ls hl => ?_)
  refine lv_iload_n hx hb dX5_bravest_3 rfl (lv_at hl 4 rfl) ?_
  refine lv_istore (lv' := [(7, .int p0), (5, .long 1), (0, .ref (a 29)), (1, .ref (a 7)), (2, .ref (a 16)), (3, .int p0), (4, .int p1)]) hx hb dX5_bravest_4 hl (lt_b rfl) rfl (fun ls hl => ?_)
  refine loop_N (Inv := fun n H locs ls => ∃ (G_2 : GS) (x_6 : Int32), (n : Int) = 400 - x_6.toInt ∧ (0 ≤ x_6.toInt ∧ x_6.toInt ≤ 400) ∧ Rc (St_k_oBrave_1_1 G) (p0, G) (x_6, G_2) ∧ Wd D k A a G_2 H ∧ Bd G_2 ∧ Fr [56, 57] [(29, 6)] G G_2 ∧ Fr [56] [] G G_2 ∧ va_S A s.heap H locs ∧ lv_has ls 9 [(7, .int x_6), (5, .long 1), (0, .ref (a 29)), (1, .ref (a 7)), (2, .ref (a 16)), (3, .int p0), (4, .int p1)]) (fun n_5 H locs ls ih_4 hI => ?_) (400 - p0.toInt : Int).toNat ⟨G, p0, (Int.toNat_of_nonneg ((by first | exact ok_260 ha_p0.2 | omega))), ⟨(by first | exact ha_p0.1 | omega), (by first | exact ok_261 ha_p0.2 | omega)⟩, Rc.rf, hW, hB_G, hF, Fr.rf, hS, lv_sub hl [0, 1, 2, 3, 4, 5, 6] rfl⟩
  obtain ⟨G_2, x_6, hn_9, f_8, hX_7, hW, hB_G_2, hF, hq_3, hS, hl⟩ := hI
  refine lv_iload hx hb dX5_bravest_6 (lv_at hl 0 rfl) ?_
  refine lv_aload_n hx hb dX5_bravest_8 rfl (lv_at hl 3 rfl) ?_
  refine S_getI (v := (G.1 7 6)) (C := RX0) (T := TX0) (N := 8) hx hb hg iX0 hown hK hW kd_7 rfl 6 (lt_b rfl) (hg (Cond.fieldLink RX5 30 "SlabWalk$Course" "last" "I") m389) (fun _ h9 => h9) rfl ((hq_3.i9 7 6 rfl rfl).trans (rfl)) dX5_bravest_9 ?_
  refine lv_icmp_gt (tgt := 43) hx hb dX5_bravest_12 rfl (fun c_10 => ?_) (fun c_10 => ?_)
  · have c_10 : (G.1 7 6).toInt < x_6.toInt := xI_lt rfl rfl c_10
    refine ic_0 hx hb dX5_bravest_43 ?_
    refine lv_istore (lv' := [(7, .int 0), (5, .long 1), (0, .ref (a 29)), (1, .ref (a 7)), (2, .ref (a 16)), (3, .int p0), (4, .int p1)]) hx hb dX5_bravest_44 hl (lt_b rfl) rfl (fun ls hl => ?_)
    have qc_18 : (0 : Int32).toInt = 0 := rfl
    refine loop_N (Inv := fun n H locs ls => ∃ (G_11 : GS) (x_15 : Int32) (x_16 : Int64), (n : Int) = 8 - x_15.toInt ∧ (0 ≤ x_15.toInt ∧ x_15.toInt ≤ 8) ∧ Rc (St_k_oBrave_1_2 p0 p1 G) (0, 1, G_2) (x_15, x_16, G_11) ∧ Wd D k A a G_11 H ∧ Bd G_11 ∧ Fr [56, 57] [(29, 6)] G G_11 ∧ Fr [56, 57] [] G_2 G_11 ∧ va_S A s.heap H locs ∧ lv_has ls 9 [(7, .int x_15), (5, .long x_16), (0, .ref (a 29)), (1, .ref (a 7)), (2, .ref (a 16)), (3, .int p0), (4, .int p1)]) (fun n_14 H locs ls ih_13 hI => ?_) (8 - 0 : Int).toNat ⟨G_2, 0, 1, (Int.toNat_of_nonneg ((by decide))), ⟨(by decide), (by decide)⟩, Rc.rf, hW, hB_G_2, hF, Fr.rf, hS, lv_sub hl [0, 1, 2, 3, 4, 5, 6] rfl⟩
    obtain ⟨G_11, x_15, x_16, hn_20, f_19, hX_17, hW, hB_G_11, hF, hq_12, hS, hl⟩ := hI
    refine lv_iload hx hb dX5_bravest_46 (lv_at hl 0 rfl) ?_
    refine lv_iload hx hb dX5_bravest_48 (lv_at hl 6 rfl) ?_
    refine lv_icmp_ge (tgt := 234) hx hb dX5_bravest_50 rfl (fun c_21 => ?_) (fun c_21 => ?_)
    · have c_21 : p1.toInt ≤ x_15.toInt := xI_le rfl rfl c_21
      refine lv_aload_n hx hb dX5_bravest_234 rfl (lv_at hl 2 rfl) ?_
      refine lv_aload_n hx hb dX5_bravest_235 rfl (lv_at hl 3 rfl) ?_
      refine S_getR (n := 40) (C := RX0) (T := TX0) (N := 8) hx hb hg iX0 hown hK hW kd_7 rfl 0 (lt_b rfl) (hg (Cond.fieldLink RX5 36 "SlabWalk$Course" "lawful" "[Z") m372) (fun _ h9 => h9) rfl dX5_bravest_236 ?_
      refine lv_iload_n hx hb dX5_bravest_239 rfl (lv_at hl 5 rfl) ?_
      refine S_zald hx hb hK hW kd_40 (vin ((by first | exact ha_p0.1 | omega)) ((by first | exact ok_189 ha_p0.2 | omega))) dX5_bravest_240 (fun y_22 ey_22 => ?_)
      have ty_22 : 0 ≤ y_22.toInt ∧ y_22.toInt ≤ 1 := bv_40 hB_G_11 ey_22
      refine lv_if_eq (tgt := 253) hx hb dX5_bravest_241 rfl (fun c_23 => ?_) (fun c_23 => ?_)
      · have c_23 : y_22.toInt = 0 := xI_eq rfl rfl c_23
        refine lv_aload_n hx hb dX5_bravest_253 rfl (lv_at hl 3 rfl) ?_
        have b_24 : 0 ≤ (G.1 7 3).toInt ∧ (G.1 7 3).toInt ≤ 60 := bd_7_3 hB_G
        refine S_getI (v := (G.1 7 3)) (C := RX0) (T := TX0) (N := 8) hx hb hg iX0 hown hK hW kd_7 rfl 3 (lt_b rfl) (hg (Cond.fieldLink RX5 58 "SlabWalk$Course" "least" "I") m379) (fun _ h9 => h9) rfl ((hq_12.i9 7 3 rfl rfl).trans (hq_3.i9 7 3 rfl rfl)) dX5_bravest_254 ?_
        refine S_putI (ty := .int) (C := RX5) (T := TX5) (N := 7) hx hb hg iX5 tyX5 tyX5_ok nmX5 hown hK hW hS kd_29 rfl 6 (lt_b rfl) (hg (Cond.fieldLink RX5 82 "SlabWalk$Odds" "boldest" "I") m470) (fun _ h9 => h9) rfl (by decide +kernel) rfl rfl rfl dX5_bravest_257 (fun G_25 H locs eG_25 hW hS => ?_)
        have hB_G_25 : Bd G_25 := hB_G_11.put (lo := (-2147483648)) (hi := 2147483647) eG_25 rfl rfl rfl (tI_rng _).1 (tI_rng _).2 (hB_G_11.2.put eG_25 rfl)
        have hF := hF.put eG_25 (Or.inr (by decide))
        refine lv_aload_n hx hb dX5_bravest_260 rfl (lv_at hl 2 rfl) ?_
        refine S_getR (n := 56) (C := RX5) (T := TX5) (N := 7) hx hb hg iX5 hown hK hW kd_29 rfl 4 (lt_b rfl) (hg (Cond.fieldLink RX5 24 "SlabWalk$Odds" "odds" "[J") m468) (fun _ h9 => h9) rfl dX5_bravest_261 ?_
        refine lv_iload_n hx hb dX5_bravest_264 rfl (lv_at hl 5 rfl) ?_
        refine S_lald hx hb hK hW kd_56 (vin ((by first | exact ha_p0.1 | omega)) ((by first | exact ok_262 ha_p0.2 | omega))) dX5_bravest_265 (fun y_26 ey_26 => ?_)
        exact W.lret (v := y_26) hx hb hr (fun t ht _ => ⟨⟨y_26, G_25, rfl, (P_oBrave_1_mk ⟨hB_G_25, hF, ⟨x_6, G_2, hX_7, f_8, hB_G_2, hq_3, ⟨c_10, ⟨x_15, x_16, G_11, hX_17, f_19, hB_G_11, hq_12, ⟨c_21, ⟨y_22, ey_22, (Or.inl ⟨c_23, ⟨y_26, ey_26.trans (congrFun (rl_put eG_25) _), ⟨rfl, (Fr.put (rs := []) (fs := [(29, 6)]) Fr.rf eG_25 (Or.inr (by decide))), (gp_eq eG_25)⟩⟩⟩)⟩⟩⟩⟩⟩⟩), wd_t ht hW⟩, hS.F ht⟩) hS.2.2 dX5_bravest_266
      · have c_23 : y_22.toInt ≠ 0 := xI_ne rfl rfl c_23
        refine lv_aload_n hx hb dX5_bravest_244 rfl (lv_at hl 2 rfl) ?_
        refine lv_aload_n hx hb dX5_bravest_245 rfl (lv_at hl 3 rfl) ?_
        refine lv_iload_n hx hb dX5_bravest_246 rfl (lv_at hl 5 rfl) ?_
        have b_27 : 0 ≤ (G.1 7 3).toInt ∧ (G.1 7 3).toInt ≤ 60 := bd_7_3 hB_G
        have g_28 : (G_11.1 7 3).toInt = (G.1 7 3).toInt := (congrArg Int32.toInt (show G_11.1 7 3 = (G.1 7 3) from ((hq_12.i9 7 3 rfl rfl).trans (hq_3.i9 7 3 rfl rfl))))
        have b_29 : 0 ≤ (G.1 7 4).toInt ∧ (G.1 7 4).toInt ≤ 60 := bd_7_4 hB_G
        have g_30 : (G_11.1 7 4).toInt = (G.1 7 4).toInt := (congrArg Int32.toInt (show G_11.1 7 4 = (G.1 7 4) from ((hq_12.i9 7 4 rfl rfl).trans (hq_3.i9 7 4 rfl rfl))))
        have g_31 : (G_11.1 7 6).toInt = (G.1 7 6).toInt := (congrArg Int32.toInt (show G_11.1 7 6 = (G.1 7 6) from ((hq_12.i9 7 6 rfl rfl).trans ((hq_3.i9 7 6 rfl rfl).trans (rfl)))))
        have b_32 : 0 ≤ (G.1 7 7).toInt ∧ (G.1 7 7).toInt ≤ 400 := bd_7_7 hB_G
        have g_33 : (G_11.1 7 7).toInt = (G.1 7 7).toInt := (congrArg Int32.toInt (show G_11.1 7 7 = (G.1 7 7) from ((hq_12.i9 7 7 rfl rfl).trans (hq_3.i9 7 7 rfl rfl))))
        refine S_calli (va_runV (As := [.ref (a 7), .int p0]) (rest := [.ref (a 29)]) ⟨hx, hb, hml, hown, hts⟩ (k_oBest l D k A a z G_11 p0 ⟨(by first | exact ha_p0.1 | omega), (by first | exact ok_261 ha_p0.2 | omega)⟩ ((by first | exact ⟨(by first | exact ok_235 hci.1 g_31 | omega), ⟨(by first | exact ok_185 hci.2.1 g_28 g_30 | omega), (by first | exact ok_236 hci.2.2 g_30 g_31 g_33 | omega)⟩⟩ | omega))) (cwV 2 hts (gd_V hgd m1126 m1128 m39 m126 m1129) rfl rfl rfl hd_X5_bestStep ⟨Nat.le_of_ble_eq_true rfl, Nat.le_of_ble_eq_true rfl⟩) (pre_W hW hB_G_11 hK hZ hS kd_29 rfl) rfl rfl hl.1 rfl (lv_room (Nat.le_of_ble_eq_true rfl)) dX5_bravest_247 ⟨Nat.le_of_ble_eq_true rfl, Nat.le_of_ble_eq_true rfl⟩) hS (fun r_34 G_35 H locs hpo hW hS => ?_)
        have hX_38 : P_oBest p0 G_11 r_34 G_35 := hpo
        obtain ⟨hB_G_35, hq_36, f_39, -⟩ := hpo
        have hF := hF.call9 hq_36 rfl rfl
        refine lv_goto (tgt := 257) hx hb dX5_bravest_250 rfl ?_
        refine S_putI (ty := .int) (C := RX5) (T := TX5) (N := 7) hx hb hg iX5 tyX5 tyX5_ok nmX5 hown hK hW hS kd_29 rfl 6 (lt_b rfl) (hg (Cond.fieldLink RX5 82 "SlabWalk$Odds" "boldest" "I") m470) (fun _ h9 => h9) rfl (by decide +kernel) rfl rfl rfl dX5_bravest_257 (fun G_40 H locs eG_40 hW hS => ?_)
        have hB_G_40 : Bd G_40 := hB_G_35.put (lo := (-2147483648)) (hi := 2147483647) eG_40 rfl rfl rfl (tI_rng _).1 (tI_rng _).2 (hB_G_35.2.put eG_40 rfl)
        have hF := hF.put eG_40 (Or.inr (by decide))
        refine lv_aload_n hx hb dX5_bravest_260 rfl (lv_at hl 2 rfl) ?_
        refine S_getR (n := 56) (C := RX5) (T := TX5) (N := 7) hx hb hg iX5 hown hK hW kd_29 rfl 4 (lt_b rfl) (hg (Cond.fieldLink RX5 24 "SlabWalk$Odds" "odds" "[J") m468) (fun _ h9 => h9) rfl dX5_bravest_261 ?_
        refine lv_iload_n hx hb dX5_bravest_264 rfl (lv_at hl 5 rfl) ?_
        refine S_lald hx hb hK hW kd_56 (vin ((by first | exact ha_p0.1 | omega)) ((by first | exact ok_262 ha_p0.2 | omega))) dX5_bravest_265 (fun y_41 ey_41 => ?_)
        exact W.lret (v := y_41) hx hb hr (fun t ht _ => ⟨⟨y_41, G_40, rfl, (P_oBrave_1_mk ⟨hB_G_40, hF, ⟨x_6, G_2, hX_7, f_8, hB_G_2, hq_3, ⟨c_10, ⟨x_15, x_16, G_11, hX_17, f_19, hB_G_11, hq_12, ⟨c_21, ⟨y_22, ey_22, (Or.inr ⟨c_23, ⟨r_34, G_35, hX_38, ⟨y_41, ey_41.trans (congrFun (rl_put eG_40) _), ⟨rfl, (Fr.put (rs := []) (fs := [(29, 6)]) Fr.rf eG_40 (Or.inr (by decide))), (gp_eq eG_40)⟩⟩⟩⟩)⟩⟩⟩⟩⟩⟩), wd_t ht hW⟩, hS.F ht⟩) hS.2.2 dX5_bravest_266
    · have c_21 : x_15.toInt < p1.toInt := xI_nle rfl rfl c_21
      refine lv_aload_n hx hb dX5_bravest_53 rfl (lv_at hl 3 rfl) ?_
      refine S_getI (v := (G.1 7 6)) (C := RX0) (T := TX0) (N := 8) hx hb hg iX0 hown hK hW kd_7 rfl 6 (lt_b rfl) (hg (Cond.fieldLink RX5 30 "SlabWalk$Course" "last" "I") m389) (fun _ h9 => h9) rfl ((hq_12.i9 7 6 rfl rfl).trans ((hq_3.i9 7 6 rfl rfl).trans (rfl))) dX5_bravest_54 ?_
      refine ic_1 hx hb dX5_bravest_57 ?_
      refine lv_iadd hx hb dX5_bravest_58 ?_
      refine lv_topi (fun y_42 ey_42 => ?_)
      have ty_42 : y_42.toInt = (G.1 7 6).toInt + 1 := xI_add rfl rfl ey_42 ((by first | exact ok_263 b_1.1 | omega)) ((by first | exact ok_264 hci.1 | omega))
      refine lv_istore (lv' := [(8, .int y_42), (7, .int x_15), (5, .long x_16), (0, .ref (a 29)), (1, .ref (a 7)), (2, .ref (a 16)), (3, .int p0), (4, .int p1)]) hx hb dX5_bravest_59 hl (lt_b rfl) rfl (fun ls hl => ?_)
      refine loop_N (Inv := fun n H locs ls => ∃ (G_43 : GS) (x_47 : Int32), (n : Int) = 403 - x_47.toInt ∧ (0 ≤ x_47.toInt ∧ x_47.toInt ≤ 403) ∧ Rc (St_k_oBrave_1_3 x_16 G) (y_42, G_11) (x_47, G_43) ∧ Wd D k A a G_43 H ∧ Bd G_43 ∧ Fr [56, 57] [(29, 6)] G G_43 ∧ Fr [56] [] G_11 G_43 ∧ va_S A s.heap H locs ∧ lv_has ls 9 [(8, .int x_47), (7, .int x_15), (5, .long x_16), (0, .ref (a 29)), (1, .ref (a 7)), (2, .ref (a 16)), (3, .int p0), (4, .int p1)]) (fun n_46 H locs ls ih_45 hI => ?_) (403 - y_42.toInt : Int).toNat ⟨G_11, y_42, (Int.toNat_of_nonneg ((by first | exact ok_265 hci.1 ty_42 | omega))), ⟨(by first | exact ok_266 b_1.1 ty_42 | omega), (by first | exact ok_267 hci.1 ty_42 | omega)⟩, Rc.rf, hW, hB_G_11, hF, Fr.rf, hS, lv_sub hl [0, 1, 2, 3, 4, 5, 6, 7] rfl⟩
      obtain ⟨G_43, x_47, hn_50, f_49, hX_48, hW, hB_G_43, hF, hq_44, hS, hl⟩ := hI
      refine lv_iload hx hb dX5_bravest_61 (lv_at hl 0 rfl) ?_
      refine lv_aload_n hx hb dX5_bravest_63 rfl (lv_at hl 4 rfl) ?_
      refine S_getI (v := (G.1 7 6)) (C := RX0) (T := TX0) (N := 8) hx hb hg iX0 hown hK hW kd_7 rfl 6 (lt_b rfl) (hg (Cond.fieldLink RX5 30 "SlabWalk$Course" "last" "I") m389) (fun _ h9 => h9) rfl ((hq_44.i9 7 6 rfl rfl).trans ((hq_12.i9 7 6 rfl rfl).trans ((hq_3.i9 7 6 rfl rfl).trans (rfl)))) dX5_bravest_64 ?_
      refine ic_3 hx hb dX5_bravest_67 ?_
      refine lv_iadd hx hb dX5_bravest_68 ?_
      refine lv_topi (fun y_51 ey_51 => ?_)
      have ty_51 : y_51.toInt = (G.1 7 6).toInt + 3 := xI_add rfl rfl ey_51 ((by first | exact ok_268 b_1.1 | omega)) ((by first | exact ok_269 hci.1 | omega))
      refine lv_icmp_gt (tgt := 87) hx hb dX5_bravest_69 rfl (fun c_52 => ?_) (fun c_52 => ?_)
      · have c_52 : y_51.toInt < x_47.toInt := xI_lt rfl rfl c_52
        refine lv_lload hx hb dX5_bravest_87 (lv_at hl 2 rfl) ?_
        refine lv_aload_n hx hb dX5_bravest_89 rfl (lv_at hl 5 rfl) ?_
        refine ic_0 hx hb dX5_bravest_90 ?_
        refine S_iald hx hb hK hW kd_16 (vin (by decide) (by decide)) dX5_bravest_91 (fun y_53 ey_53 => ?_)
        have ty_53 : 0 ≤ y_53.toInt ∧ y_53.toInt ≤ 9 := bv_16 hB_G_43 ey_53
        refine lv_aload_n hx hb dX5_bravest_92 rfl (lv_at hl 5 rfl) ?_
        refine ic_1 hx hb dX5_bravest_93 ?_
        refine S_iald hx hb hK hW kd_16 (vin (by decide) (by decide)) dX5_bravest_94 (fun y_54 ey_54 => ?_)
        have ty_54 : 0 ≤ y_54.toInt ∧ y_54.toInt ≤ 9 := bv_16 hB_G_43 ey_54
        refine lv_iadd hx hb dX5_bravest_95 ?_
        refine lv_topi (fun y_55 ey_55 => ?_)
        have ty_55 : y_55.toInt = y_53.toInt + y_54.toInt := xI_add rfl rfl ey_55 ((by first | exact ok_15 ty_53.1 ty_54.1 | omega)) ((by first | exact ok_16 ty_53.2 ty_54.2 | omega))
        refine lv_aload_n hx hb dX5_bravest_96 rfl (lv_at hl 5 rfl) ?_
        refine ic_2 hx hb dX5_bravest_97 ?_
        refine S_iald hx hb hK hW kd_16 (vin (by decide) (by decide)) dX5_bravest_98 (fun y_56 ey_56 => ?_)
        have ty_56 : 0 ≤ y_56.toInt ∧ y_56.toInt ≤ 9 := bv_16 hB_G_43 ey_56
        refine lv_iadd hx hb dX5_bravest_99 ?_
        refine lv_topi (fun y_57 ey_57 => ?_)
        have ty_57 : y_57.toInt = y_55.toInt + y_56.toInt := xI_add rfl rfl ey_57 ((by first | exact ok_17 ty_53.1 ty_54.1 ty_55 ty_56.1 | omega)) ((by first | exact ok_18 ty_53.2 ty_54.2 ty_55 ty_56.2 | omega))
        refine lv_i2l hx hb dX5_bravest_100 rfl ?_
        refine lv_topl (fun y_58 ey_58 => ?_)
        refine lv_lmul hx hb dX5_bravest_101 ?_
        refine lv_topl (fun y_59 ey_59 => ?_)
        refine lv_lstore (lv' := [(5, .long y_59), (8, .int x_47), (7, .int x_15), (0, .ref (a 29)), (1, .ref (a 7)), (2, .ref (a 16)), (3, .int p0), (4, .int p1)]) hx hb dX5_bravest_102 hl (lt_b rfl) rfl (fun ls hl => ?_)
        refine lv_iload_n hx hb dX5_bravest_104 rfl (lv_at hl 6 rfl) ?_
        refine ic_1 hx hb dX5_bravest_105 ?_
        refine lv_iadd hx hb dX5_bravest_106 ?_
        refine lv_topi (fun y_60 ey_60 => ?_)
        have ty_60 : y_60.toInt = p0.toInt + 1 := xI_add rfl rfl ey_60 ((by first | exact ok_21 ha_p0.1 | omega)) ((by first | exact ok_264 ha_p0.2 | omega))
        refine lv_istore (lv' := [(8, .int y_60), (5, .long y_59), (7, .int x_15), (0, .ref (a 29)), (1, .ref (a 7)), (2, .ref (a 16)), (3, .int p0), (4, .int p1)]) hx hb dX5_bravest_107 hl (lt_b rfl) rfl (fun ls hl => ?_)
        refine loop_N (Inv := fun n H locs ls => ∃ (G_61 : GS) (x_65 : Int32), (n : Int) = 402 - x_65.toInt ∧ (1 ≤ x_65.toInt ∧ x_65.toInt ≤ 402) ∧ Rc (St_k_oBrave_1_4 G) (y_60, G_43) (x_65, G_61) ∧ Wd D k A a G_61 H ∧ Bd G_61 ∧ Fr [56, 57] [(29, 6)] G G_61 ∧ Fr [57] [] G_43 G_61 ∧ va_S A s.heap H locs ∧ lv_has ls 9 [(8, .int x_65), (5, .long y_59), (7, .int x_15), (0, .ref (a 29)), (1, .ref (a 7)), (2, .ref (a 16)), (3, .int p0), (4, .int p1)]) (fun n_64 H locs ls ih_63 hI => ?_) (402 - y_60.toInt : Int).toNat ⟨G_43, y_60, (Int.toNat_of_nonneg ((by first | exact ok_270 ha_p0.2 ty_60 | omega))), ⟨(by first | exact ok_250 ha_p0.1 ty_60 | omega), (by first | exact ok_271 ha_p0.2 ty_60 | omega)⟩, Rc.rf, hW, hB_G_43, hF, Fr.rf, hS, lv_sub hl [0, 1, 2, 3, 4, 5, 6, 7] rfl⟩
        obtain ⟨G_61, x_65, hn_68, f_67, hX_66, hW, hB_G_61, hF, hq_62, hS, hl⟩ := hI
        refine lv_iload hx hb dX5_bravest_109 (lv_at hl 0 rfl) ?_
        refine lv_aload_n hx hb dX5_bravest_111 rfl (lv_at hl 4 rfl) ?_
        refine S_getI (v := (G.1 7 6)) (C := RX0) (T := TX0) (N := 8) hx hb hg iX0 hown hK hW kd_7 rfl 6 (lt_b rfl) (hg (Cond.fieldLink RX5 30 "SlabWalk$Course" "last" "I") m389) (fun _ h9 => h9) rfl ((hq_62.i9 7 6 rfl rfl).trans ((hq_44.i9 7 6 rfl rfl).trans ((hq_12.i9 7 6 rfl rfl).trans ((hq_3.i9 7 6 rfl rfl).trans (rfl))))) dX5_bravest_112 ?_
        refine ic_2 hx hb dX5_bravest_115 ?_
        refine lv_iadd hx hb dX5_bravest_116 ?_
        refine lv_topi (fun y_69 ey_69 => ?_)
        have ty_69 : y_69.toInt = (G.1 7 6).toInt + 2 := xI_add rfl rfl ey_69 ((by first | exact ok_245 b_1.1 | omega)) ((by first | exact ok_246 hci.1 | omega))
        refine lv_icmp_gt (tgt := 175) hx hb dX5_bravest_117 rfl (fun c_70 => ?_) (fun c_70 => ?_)
        · have c_70 : y_69.toInt < x_65.toInt := xI_lt rfl rfl c_70
          refine lv_iload_n hx hb dX5_bravest_175 rfl (lv_at hl 6 rfl) ?_
          refine lv_istore (lv' := [(8, .int p0), (5, .long y_59), (7, .int x_15), (0, .ref (a 29)), (1, .ref (a 7)), (2, .ref (a 16)), (3, .int p0), (4, .int p1)]) hx hb dX5_bravest_176 hl (lt_b rfl) rfl (fun ls hl => ?_)
          refine loop_N (Inv := fun n H locs ls => ∃ (G_71 : GS) (x_75 : Int32), (n : Int) = 400 - x_75.toInt ∧ (0 ≤ x_75.toInt ∧ x_75.toInt ≤ 400) ∧ Rc (St_k_oBrave_1_5 G) (p0, G_61) (x_75, G_71) ∧ Wd D k A a G_71 H ∧ Bd G_71 ∧ Fr [56, 57] [(29, 6)] G G_71 ∧ Fr [56] [] G_61 G_71 ∧ va_S A s.heap H locs ∧ lv_has ls 9 [(8, .int x_75), (5, .long y_59), (7, .int x_15), (0, .ref (a 29)), (1, .ref (a 7)), (2, .ref (a 16)), (3, .int p0), (4, .int p1)]) (fun n_74 H locs ls ih_73 hI => ?_) (400 - p0.toInt : Int).toNat ⟨G_61, p0, (Int.toNat_of_nonneg ((by first | exact ok_260 ha_p0.2 | omega))), ⟨(by first | exact ha_p0.1 | omega), (by first | exact ok_261 ha_p0.2 | omega)⟩, Rc.rf, hW, hB_G_61, hF, Fr.rf, hS, lv_sub hl [0, 1, 2, 3, 4, 5, 6, 7] rfl⟩
          obtain ⟨G_71, x_75, hn_78, f_77, hX_76, hW, hB_G_71, hF, hq_72, hS, hl⟩ := hI
          refine lv_iload hx hb dX5_bravest_178 (lv_at hl 0 rfl) ?_
          refine lv_aload_n hx hb dX5_bravest_180 rfl (lv_at hl 4 rfl) ?_
          refine S_getI (v := (G.1 7 6)) (C := RX0) (T := TX0) (N := 8) hx hb hg iX0 hown hK hW kd_7 rfl 6 (lt_b rfl) (hg (Cond.fieldLink RX5 30 "SlabWalk$Course" "last" "I") m389) (fun _ h9 => h9) rfl ((hq_72.i9 7 6 rfl rfl).trans ((hq_62.i9 7 6 rfl rfl).trans ((hq_44.i9 7 6 rfl rfl).trans ((hq_12.i9 7 6 rfl rfl).trans ((hq_3.i9 7 6 rfl rfl).trans (rfl)))))) dX5_bravest_181 ?_
          refine lv_icmp_gt (tgt := 228) hx hb dX5_bravest_184 rfl (fun c_79 => ?_) (fun c_79 => ?_)
          · have c_79 : (G.1 7 6).toInt < x_75.toInt := xI_lt rfl rfl c_79
            obtain ⟨y_80, ey_80⟩ : ∃ q, q = x_15 + 1 := ⟨_, rfl⟩
            have ty_80 : y_80.toInt = x_15.toInt + 1 := xI_add rfl rfl ey_80 ((by first | exact ok_21 f_19.1 | omega)) ((by first | exact ok_112 f_19.2 | omega))
            refine lv_iinc (v := y_80) (lv' := [(7, .int y_80), (8, .int x_75), (5, .long y_59), (0, .ref (a 29)), (1, .ref (a 7)), (2, .ref (a 16)), (3, .int p0), (4, .int p1)]) hx hb dX5_bravest_228 hl (k := 2) rfl (by rw [ey_80]; rfl) (lt_b rfl) rfl (fun ls hl => ?_)
            refine lv_goto (tgt := 46) hx hb dX5_bravest_231 rfl ?_
            exact ih_13 (8 - y_80.toInt : Int).toNat ((by first | (clear ha_p0 hci b_1 hn_9 f_8 c_10 ty_42 hn_50 f_49 ty_51 c_52 ty_53 ty_54 ty_55 ty_56 ty_57 ty_60 hn_68 f_67 ty_69 c_70 hn_78 f_77 c_79; omega) | omega)) _ _ _ ⟨G_71, y_80, y_59, (Int.toNat_of_nonneg ((by first | exact ok_272 ha_p1.2 f_19.2 c_21 ty_80 | omega))), ⟨(by first | exact ok_23 f_19.1 ty_80 | omega), (by first | exact ok_273 ha_p1.2 f_19.2 c_21 ty_80 | omega)⟩, (hX_17.st (St_k_oBrave_1_2_mk ⟨x_15, x_16, G_11, y_80, y_59, G_71, rfl, rfl, f_19, hB_G_11, ⟨c_21, ⟨y_42, ty_42, ⟨x_47, G_43, hX_48, f_49, hB_G_43, hq_44, ⟨y_51, ty_51, ⟨c_52, ⟨y_53, ey_53, ⟨y_54, ey_54, ⟨y_55, ty_55, ⟨y_56, ey_56, ⟨y_57, ty_57, ⟨y_58, ey_58, ⟨y_59, ey_59, ⟨y_60, ty_60, ⟨x_65, G_61, hX_66, f_67, hB_G_61, hq_62, ⟨y_69, ty_69, ⟨c_70, ⟨x_75, G_71, hX_76, f_77, hB_G_71, hq_72, ⟨c_79, ⟨y_80, ty_80, ⟨rfl, rfl, rfl⟩⟩⟩⟩⟩⟩⟩⟩⟩⟩⟩⟩⟩⟩⟩⟩⟩⟩⟩⟩⟩)), hW, hB_G_71, hF, (Fr.call9 (rs := [56, 57]) (fs := []) (Fr.call9 (rs := [56, 57]) (fs := []) (Fr.call9 (rs := [56, 57]) (fs := []) (Fr.call9 (rs := [56, 57]) (fs := []) Fr.rf hq_12 rfl rfl) hq_44 rfl rfl) hq_62 rfl rfl) hq_72 rfl rfl), hS, lv_sub hl [0, 2, 3, 4, 5, 6, 7] rfl⟩
          · have c_79 : x_75.toInt ≤ (G.1 7 6).toInt := xI_nlt rfl rfl c_79
            refine lv_aload_n hx hb dX5_bravest_187 rfl (lv_at hl 3 rfl) ?_
            refine S_getR (n := 56) (C := RX5) (T := TX5) (N := 7) hx hb hg iX5 hown hK hW kd_29 rfl 4 (lt_b rfl) (hg (Cond.fieldLink RX5 24 "SlabWalk$Odds" "odds" "[J") m468) (fun _ h9 => h9) rfl dX5_bravest_188 ?_
            refine lv_iload hx hb dX5_bravest_191 (lv_at hl 0 rfl) ?_
            refine lv_aload_n hx hb dX5_bravest_193 rfl (lv_at hl 4 rfl) ?_
            refine S_getR (n := 40) (C := RX0) (T := TX0) (N := 8) hx hb hg iX0 hown hK hW kd_7 rfl 0 (lt_b rfl) (hg (Cond.fieldLink RX5 36 "SlabWalk$Course" "lawful" "[Z") m372) (fun _ h9 => h9) rfl dX5_bravest_194 ?_
            refine lv_iload hx hb dX5_bravest_197 (lv_at hl 0 rfl) ?_
            refine S_zald hx hb hK hW kd_40 (vin ((by first | exact f_77.1 | omega)) ((by first | exact ok_220 hci.1 f_77.2 c_79 | omega))) dX5_bravest_199 (fun y_81 ey_81 => ?_)
            have ty_81 : 0 ≤ y_81.toInt ∧ y_81.toInt ≤ 1 := bv_40 hB_G_71 ey_81
            refine lv_if_eq (tgt := 220) hx hb dX5_bravest_200 rfl (fun c_82 => ?_) (fun c_82 => ?_)
            · have c_82 : y_81.toInt = 0 := xI_eq rfl rfl c_82
              refine lv_lconst (v := 0) hx hb dX5_bravest_220 (by decide) ?_
              refine S_last hx hb hK hW hS kd_56 (vin ((by first | exact f_77.1 | omega)) ((by first | exact ok_221 f_77.2 | omega))) dX5_bravest_221 (fun G_83 H locs eG_83 hW hS => ?_)
              have hB_G_83 : Bd G_83 := hB_G_71.putl eG_83
              have hF := hF.putl eG_83 (Or.inl (by decide))
              obtain ⟨y_84, ey_84⟩ : ∃ q, q = x_75 + 1 := ⟨_, rfl⟩
              have ty_84 : y_84.toInt = x_75.toInt + 1 := xI_add rfl rfl ey_84 ((by first | exact ok_21 f_77.1 | omega)) ((by first | exact ok_40 f_77.2 | omega))
              refine lv_iinc (v := y_84) (lv' := [(8, .int y_84), (5, .long y_59), (7, .int x_15), (0, .ref (a 29)), (1, .ref (a 7)), (2, .ref (a 16)), (3, .int p0), (4, .int p1)]) hx hb dX5_bravest_222 hl (k := 0) rfl (by rw [ey_84]; rfl) (lt_b rfl) rfl (fun ls hl => ?_)
              refine lv_goto (tgt := 178) hx hb dX5_bravest_225 rfl ?_
              exact ih_73 (400 - y_84.toInt : Int).toNat ((by first | (clear ha_p0 ha_p1 f_8 hn_20 f_19 c_21 f_49 ty_53 ty_54 ty_55 ty_56 ty_57 ty_60 f_67 ty_81 c_82; omega) | omega)) _ _ _ ⟨G_83, y_84, (Int.toNat_of_nonneg ((by first | exact ok_222 hci.1 f_77.2 c_79 ty_84 | omega))), ⟨(by first | exact ok_23 f_77.1 ty_84 | omega), (by first | exact ok_223 hci.1 f_77.2 c_79 ty_84 | omega)⟩, (hX_76.st (St_k_oBrave_1_5_mk ⟨x_75, G_71, y_84, G_83, rfl, rfl, f_77, hB_G_71, ⟨c_79, ⟨y_81, ey_81, (Or.inl ⟨c_82, ⟨y_84, ty_84, ⟨rfl, (Fr.putl (rs := [56]) (fs := []) Fr.rf eG_83 (Or.inl (by decide))), rl_ast eG_83⟩⟩⟩)⟩⟩⟩)), hW, hB_G_83, hF, (Fr.putl (rs := [56]) (fs := []) (Fr.call9 (rs := [56]) (fs := []) Fr.rf hq_72 rfl rfl) eG_83 (Or.inl (by decide))), hS, lv_sub hl [0, 1, 2, 3, 4, 5, 6, 7] rfl⟩
            · have c_82 : y_81.toInt ≠ 0 := xI_ne rfl rfl c_82
              refine lv_aload_n hx hb dX5_bravest_203 rfl (lv_at hl 3 rfl) ?_
              refine lv_aload_n hx hb dX5_bravest_204 rfl (lv_at hl 4 rfl) ?_
              refine lv_iload hx hb dX5_bravest_205 (lv_at hl 0 rfl) ?_
              refine lv_aload_n hx hb dX5_bravest_207 rfl (lv_at hl 3 rfl) ?_
              refine lv_aload_n hx hb dX5_bravest_208 rfl (lv_at hl 4 rfl) ?_
              refine lv_iload hx hb dX5_bravest_209 (lv_at hl 0 rfl) ?_
              have b_85 : 0 ≤ (G.1 7 3).toInt ∧ (G.1 7 3).toInt ≤ 60 := bd_7_3 hB_G
              have g_86 : (G_71.1 7 3).toInt = (G.1 7 3).toInt := (congrArg Int32.toInt (show G_71.1 7 3 = (G.1 7 3) from ((hq_72.i9 7 3 rfl rfl).trans ((hq_62.i9 7 3 rfl rfl).trans ((hq_44.i9 7 3 rfl rfl).trans ((hq_12.i9 7 3 rfl rfl).trans (hq_3.i9 7 3 rfl rfl)))))))
              have b_87 : 0 ≤ (G.1 7 4).toInt ∧ (G.1 7 4).toInt ≤ 60 := bd_7_4 hB_G
              have g_88 : (G_71.1 7 4).toInt = (G.1 7 4).toInt := (congrArg Int32.toInt (show G_71.1 7 4 = (G.1 7 4) from ((hq_72.i9 7 4 rfl rfl).trans ((hq_62.i9 7 4 rfl rfl).trans ((hq_44.i9 7 4 rfl rfl).trans ((hq_12.i9 7 4 rfl rfl).trans (hq_3.i9 7 4 rfl rfl)))))))
              have g_89 : (G_71.1 7 6).toInt = (G.1 7 6).toInt := (congrArg Int32.toInt (show G_71.1 7 6 = (G.1 7 6) from ((hq_72.i9 7 6 rfl rfl).trans ((hq_62.i9 7 6 rfl rfl).trans ((hq_44.i9 7 6 rfl rfl).trans ((hq_12.i9 7 6 rfl rfl).trans ((hq_3.i9 7 6 rfl rfl).trans (rfl))))))))
              have b_90 : 0 ≤ (G.1 7 7).toInt ∧ (G.1 7 7).toInt ≤ 400 := bd_7_7 hB_G
              have g_91 : (G_71.1 7 7).toInt = (G.1 7 7).toInt := (congrArg Int32.toInt (show G_71.1 7 7 = (G.1 7 7) from ((hq_72.i9 7 7 rfl rfl).trans ((hq_62.i9 7 7 rfl rfl).trans ((hq_44.i9 7 7 rfl rfl).trans ((hq_12.i9 7 7 rfl rfl).trans (hq_3.i9 7 7 rfl rfl)))))))
              refine S_calli (va_runV (As := [.ref (a 7), .int x_75]) (rest := [.int x_75, .ref (a 7), .ref (a 29), .int x_75, .ref (a 56)]) ⟨hx, hb, hml, hown, hts⟩ (k_oBest l D k A a z G_71 x_75 ⟨(by first | exact f_77.1 | omega), (by first | exact f_77.2 | omega)⟩ ((by first | exact ⟨(by first | exact ok_274 hci.1 b_1.2 g_89 | omega), ⟨(by first | exact ok_185 hci.2.1 g_86 g_88 | omega), (by first | exact ok_236 hci.2.2 g_88 g_89 g_91 | omega)⟩⟩ | omega))) (cwV 2 hts (gd_V hgd m1126 m1128 m39 m126 m1129) rfl rfl rfl hd_X5_bestStep ⟨Nat.le_of_ble_eq_true rfl, Nat.le_of_ble_eq_true rfl⟩) (pre_W hW hB_G_71 hK hZ hS kd_29 rfl) rfl rfl hl.1 rfl (lv_room (Nat.le_of_ble_eq_true rfl)) dX5_bravest_211 ⟨Nat.le_of_ble_eq_true rfl, Nat.le_of_ble_eq_true rfl⟩) hS (fun r_92 G_93 H locs hpo hW hS => ?_)
              have hX_96 : P_oBest x_75 G_71 r_92 G_93 := hpo
              obtain ⟨hB_G_93, hq_94, f_97, -⟩ := hpo
              have hF := hF.call9 hq_94 rfl rfl
              have g_98 : (G_93.1 7 3).toInt = (G.1 7 3).toInt := (congrArg Int32.toInt (show G_93.1 7 3 = (G.1 7 3) from ((hq_94.i9 7 3 rfl rfl).trans ((hq_72.i9 7 3 rfl rfl).trans ((hq_62.i9 7 3 rfl rfl).trans ((hq_44.i9 7 3 rfl rfl).trans ((hq_12.i9 7 3 rfl rfl).trans ((hq_3.i9 7 3 rfl rfl).trans (rfl)))))))))
              have g_99 : (G_93.1 7 4).toInt = (G.1 7 4).toInt := (congrArg Int32.toInt (show G_93.1 7 4 = (G.1 7 4) from ((hq_94.i9 7 4 rfl rfl).trans ((hq_72.i9 7 4 rfl rfl).trans ((hq_62.i9 7 4 rfl rfl).trans ((hq_44.i9 7 4 rfl rfl).trans ((hq_12.i9 7 4 rfl rfl).trans ((hq_3.i9 7 4 rfl rfl).trans (rfl)))))))))
              have g_100 : (G_93.1 7 6).toInt = (G.1 7 6).toInt := (congrArg Int32.toInt (show G_93.1 7 6 = (G.1 7 6) from ((hq_94.i9 7 6 rfl rfl).trans ((hq_72.i9 7 6 rfl rfl).trans ((hq_62.i9 7 6 rfl rfl).trans ((hq_44.i9 7 6 rfl rfl).trans ((hq_12.i9 7 6 rfl rfl).trans ((hq_3.i9 7 6 rfl rfl).trans (rfl)))))))))
              have g_101 : (G_93.1 7 7).toInt = (G.1 7 7).toInt := (congrArg Int32.toInt (show G_93.1 7 7 = (G.1 7 7) from ((hq_94.i9 7 7 rfl rfl).trans ((hq_72.i9 7 7 rfl rfl).trans ((hq_62.i9 7 7 rfl rfl).trans ((hq_44.i9 7 7 rfl rfl).trans ((hq_12.i9 7 7 rfl rfl).trans ((hq_3.i9 7 7 rfl rfl).trans (rfl)))))))))
              refine S_calll (va_runV (As := [.ref (a 7), .int x_75, .int r_92]) (rest := [.int x_75, .ref (a 56)]) ⟨hx, hb, hml, hown, hts⟩ (k_oAim l D k A a z G_93 x_75 r_92 ⟨(by first | exact f_77.1 | omega), (by first | exact f_77.2 | omega)⟩ ⟨(by first | exact f_97.1 | omega), (by first | exact f_97.2 | omega)⟩ ((by first | exact ⟨(by first | exact ok_274 hci.1 b_1.2 g_100 | omega), ⟨(by first | exact ok_185 hci.2.1 g_98 g_99 | omega), (by first | exact ok_236 hci.2.2 g_99 g_100 g_101 | omega)⟩⟩ | omega))) (cwV 3 hts (gd_V hgd m1130 m1132 m40 m126 m1133) rfl rfl rfl hd_X5_aimFrom ⟨Nat.le_of_ble_eq_true rfl, Nat.le_of_ble_eq_true rfl⟩) (pre_W hW hB_G_93 hK hZ hS kd_29 rfl) rfl rfl hl.1 rfl (lv_room (Nat.le_of_ble_eq_true rfl)) dX5_bravest_214 ⟨Nat.le_of_ble_eq_true rfl, Nat.le_of_ble_eq_true rfl⟩) hS (fun r_102 G_103 H locs hpo hW hS => ?_)
              have hX_106 : P_oAim x_75 r_92 G_93 r_102 G_103 := hpo
              obtain ⟨hB_G_103, hq_104, -⟩ := hpo
              have hF := hF.call9 hq_104 rfl rfl
              refine lv_goto (tgt := 221) hx hb dX5_bravest_217 rfl ?_
              refine S_last hx hb hK hW hS kd_56 (vin ((by first | exact f_77.1 | omega)) ((by first | exact ok_221 f_77.2 | omega))) dX5_bravest_221 (fun G_107 H locs eG_107 hW hS => ?_)
              have hB_G_107 : Bd G_107 := hB_G_103.putl eG_107
              have hF := hF.putl eG_107 (Or.inl (by decide))
              obtain ⟨y_108, ey_108⟩ : ∃ q, q = x_75 + 1 := ⟨_, rfl⟩
              have ty_108 : y_108.toInt = x_75.toInt + 1 := xI_add rfl rfl ey_108 ((by first | exact ok_21 f_77.1 | omega)) ((by first | exact ok_40 f_77.2 | omega))
              refine lv_iinc (v := y_108) (lv' := [(8, .int y_108), (5, .long y_59), (7, .int x_15), (0, .ref (a 29)), (1, .ref (a 7)), (2, .ref (a 16)), (3, .int p0), (4, .int p1)]) hx hb dX5_bravest_222 hl (k := 0) rfl (by rw [ey_108]; rfl) (lt_b rfl) rfl (fun ls hl => ?_)
              refine lv_goto (tgt := 178) hx hb dX5_bravest_225 rfl ?_
              exact ih_73 (400 - y_108.toInt : Int).toNat ((by first | (clear ha_p0 ha_p1 f_8 hn_20 f_19 c_21 f_49 ty_53 ty_54 ty_55 ty_56 ty_57 ty_60 f_67 ty_81 c_82 b_85 b_87 b_90 f_97; omega) | omega)) _ _ _ ⟨G_107, y_108, (Int.toNat_of_nonneg ((by first | exact ok_222 hci.1 f_77.2 c_79 ty_108 | omega))), ⟨(by first | exact ok_23 f_77.1 ty_108 | omega), (by first | exact ok_223 hci.1 f_77.2 c_79 ty_108 | omega)⟩, (hX_76.st (St_k_oBrave_1_5_mk ⟨x_75, G_71, y_108, G_107, rfl, rfl, f_77, hB_G_71, ⟨c_79, ⟨y_81, ey_81, (Or.inr ⟨c_82, ⟨r_92, G_93, hX_96, ⟨r_102, G_103, hX_106, ⟨y_108, ty_108, ⟨rfl, (Fr.putl (rs := [56]) (fs := []) Fr.rf eG_107 (Or.inl (by decide))), rl_ast eG_107⟩⟩⟩⟩⟩)⟩⟩⟩)), hW, hB_G_107, hF, (Fr.putl (rs := [56]) (fs := []) (Fr.call9 (rs := [56]) (fs := []) (Fr.call9 (rs := [56]) (fs := []) (Fr.call9 (rs := [56]) (fs := []) Fr.rf hq_72 rfl rfl) hq_94 rfl rfl) hq_104 rfl rfl) eG_107 (Or.inl (by decide))), hS, lv_sub hl [0, 1, 2, 3, 4, 5, 6, 7] rfl⟩
        · have c_70 : x_65.toInt ≤ y_69.toInt := xI_nlt rfl rfl c_70
          refine lv_aload_n hx hb dX5_bravest_120 rfl (lv_at hl 3 rfl) ?_
          refine S_getR (n := 57) (C := RX5) (T := TX5) (N := 7) hx hb hg iX5 hown hK hW kd_29 rfl 5 (lt_b rfl) (hg (Cond.fieldLink RX5 27 "SlabWalk$Odds" "aims" "[J") m469) (fun _ h9 => h9) rfl dX5_bravest_121 ?_
          refine lv_iload hx hb dX5_bravest_124 (lv_at hl 0 rfl) ?_
          refine lv_aload_n hx hb dX5_bravest_126 rfl (lv_at hl 5 rfl) ?_
          refine ic_0 hx hb dX5_bravest_127 ?_
          refine S_iald hx hb hK hW kd_16 (vin (by decide) (by decide)) dX5_bravest_128 (fun y_109 ey_109 => ?_)
          have ty_109 : 0 ≤ y_109.toInt ∧ y_109.toInt ≤ 9 := bv_16 hB_G_61 ey_109
          refine lv_i2l hx hb dX5_bravest_129 rfl ?_
          refine lv_topl (fun y_110 ey_110 => ?_)
          refine lv_aload_n hx hb dX5_bravest_130 rfl (lv_at hl 3 rfl) ?_
          refine S_getR (n := 56) (C := RX5) (T := TX5) (N := 7) hx hb hg iX5 hown hK hW kd_29 rfl 4 (lt_b rfl) (hg (Cond.fieldLink RX5 24 "SlabWalk$Odds" "odds" "[J") m468) (fun _ h9 => h9) rfl dX5_bravest_131 ?_
          refine lv_iload hx hb dX5_bravest_134 (lv_at hl 0 rfl) ?_
          refine ic_1 hx hb dX5_bravest_136 ?_
          refine lv_isub hx hb dX5_bravest_137 ?_
          refine lv_topi (fun y_111 ey_111 => ?_)
          have ty_111 : y_111.toInt = x_65.toInt - 1 := xI_sub rfl rfl ey_111 ((by first | exact ok_275 f_67.1 | omega)) ((by first | exact ok_276 f_67.2 | omega))
          refine S_lald hx hb hK hW kd_56 (vin ((by first | exact ok_277 f_67.1 ty_111 | omega)) ((by first | exact ok_278 f_67.2 ty_111 | omega))) dX5_bravest_138 (fun y_112 ey_112 => ?_)
          refine lv_lmul hx hb dX5_bravest_139 ?_
          refine lv_topl (fun y_113 ey_113 => ?_)
          refine lv_aload_n hx hb dX5_bravest_140 rfl (lv_at hl 5 rfl) ?_
          refine ic_1 hx hb dX5_bravest_141 ?_
          refine S_iald hx hb hK hW kd_16 (vin (by decide) (by decide)) dX5_bravest_142 (fun y_114 ey_114 => ?_)
          have ty_114 : 0 ≤ y_114.toInt ∧ y_114.toInt ≤ 9 := bv_16 hB_G_61 ey_114
          refine lv_i2l hx hb dX5_bravest_143 rfl ?_
          refine lv_topl (fun y_115 ey_115 => ?_)
          refine lv_aload_n hx hb dX5_bravest_144 rfl (lv_at hl 3 rfl) ?_
          refine S_getR (n := 56) (C := RX5) (T := TX5) (N := 7) hx hb hg iX5 hown hK hW kd_29 rfl 4 (lt_b rfl) (hg (Cond.fieldLink RX5 24 "SlabWalk$Odds" "odds" "[J") m468) (fun _ h9 => h9) rfl dX5_bravest_145 ?_
          refine lv_iload hx hb dX5_bravest_148 (lv_at hl 0 rfl) ?_
          refine S_lald hx hb hK hW kd_56 (vin ((by first | exact ok_131 f_67.1 | omega)) ((by first | exact ok_279 f_67.2 | omega))) dX5_bravest_150 (fun y_116 ey_116 => ?_)
          refine lv_lmul hx hb dX5_bravest_151 ?_
          refine lv_topl (fun y_117 ey_117 => ?_)
          refine lv_ladd hx hb dX5_bravest_152 ?_
          refine lv_topl (fun y_118 ey_118 => ?_)
          refine lv_aload_n hx hb dX5_bravest_153 rfl (lv_at hl 5 rfl) ?_
          refine ic_2 hx hb dX5_bravest_154 ?_
          refine S_iald hx hb hK hW kd_16 (vin (by decide) (by decide)) dX5_bravest_155 (fun y_119 ey_119 => ?_)
          have ty_119 : 0 ≤ y_119.toInt ∧ y_119.toInt ≤ 9 := bv_16 hB_G_61 ey_119
          refine lv_i2l hx hb dX5_bravest_156 rfl ?_
          refine lv_topl (fun y_120 ey_120 => ?_)
          refine lv_aload_n hx hb dX5_bravest_157 rfl (lv_at hl 3 rfl) ?_
          refine S_getR (n := 56) (C := RX5) (T := TX5) (N := 7) hx hb hg iX5 hown hK hW kd_29 rfl 4 (lt_b rfl) (hg (Cond.fieldLink RX5 24 "SlabWalk$Odds" "odds" "[J") m468) (fun _ h9 => h9) rfl dX5_bravest_158 ?_
          refine lv_iload hx hb dX5_bravest_161 (lv_at hl 0 rfl) ?_
          refine ic_1 hx hb dX5_bravest_163 ?_
          refine lv_iadd hx hb dX5_bravest_164 ?_
          refine lv_topi (fun y_121 ey_121 => ?_)
          have ty_121 : y_121.toInt = x_65.toInt + 1 := xI_add rfl rfl ey_121 ((by first | exact ok_237 f_67.1 | omega)) ((by first | exact ok_51 f_67.2 | omega))
          refine S_lald hx hb hK hW kd_56 (vin ((by first | exact ok_280 f_67.1 ty_121 | omega)) ((by first | exact ok_281 f_67.2 ty_121 | omega))) dX5_bravest_165 (fun y_122 ey_122 => ?_)
          refine lv_lmul hx hb dX5_bravest_166 ?_
          refine lv_topl (fun y_123 ey_123 => ?_)
          refine lv_ladd hx hb dX5_bravest_167 ?_
          refine lv_topl (fun y_124 ey_124 => ?_)
          refine S_last hx hb hK hW hS kd_57 (vin ((by first | exact ok_131 f_67.1 | omega)) ((by first | exact ok_279 f_67.2 | omega))) dX5_bravest_168 (fun G_125 H locs eG_125 hW hS => ?_)
          have hB_G_125 : Bd G_125 := hB_G_61.putl eG_125
          have hF := hF.putl eG_125 (Or.inl (by decide))
          obtain ⟨y_126, ey_126⟩ : ∃ q, q = x_65 + 1 := ⟨_, rfl⟩
          have ty_126 : y_126.toInt = x_65.toInt + 1 := xI_add rfl rfl ey_126 ((by first | exact ok_237 f_67.1 | omega)) ((by first | exact ok_51 f_67.2 | omega))
          refine lv_iinc (v := y_126) (lv' := [(8, .int y_126), (5, .long y_59), (7, .int x_15), (0, .ref (a 29)), (1, .ref (a 7)), (2, .ref (a 16)), (3, .int p0), (4, .int p1)]) hx hb dX5_bravest_169 hl (k := 0) rfl (by rw [ey_126]; rfl) (lt_b rfl) rfl (fun ls hl => ?_)
          refine lv_goto (tgt := 109) hx hb dX5_bravest_172 rfl ?_
          exact ih_63 (402 - y_126.toInt : Int).toNat ((by first | (clear ha_p0 ha_p1 f_8 hn_20 f_19 c_21 f_49 ty_53 ty_54 ty_55 ty_56 ty_57 ty_60 ty_109 ty_114 ty_119; omega) | omega)) _ _ _ ⟨G_125, y_126, (Int.toNat_of_nonneg ((by first | exact ok_282 hci.1 f_67.2 ty_69 c_70 ty_126 | omega))), ⟨(by first | exact ok_240 f_67.1 ty_126 | omega), (by first | exact ok_283 hci.1 f_67.2 ty_69 c_70 ty_126 | omega)⟩, (hX_66.st (St_k_oBrave_1_4_mk ⟨x_65, G_61, y_126, G_125, rfl, rfl, f_67, hB_G_61, ⟨y_69, ty_69, ⟨c_70, ⟨y_109, ey_109, ⟨y_110, ey_110, ⟨y_111, ty_111, ⟨y_112, ey_112, ⟨y_113, ey_113, ⟨y_114, ey_114, ⟨y_115, ey_115, ⟨y_116, ey_116, ⟨y_117, ey_117, ⟨y_118, ey_118, ⟨y_119, ey_119, ⟨y_120, ey_120, ⟨y_121, ty_121, ⟨y_122, ey_122, ⟨y_123, ey_123, ⟨y_124, ey_124, ⟨y_126, ty_126, ⟨rfl, (Fr.putl (rs := [57]) (fs := []) Fr.rf eG_125 (Or.inl (by decide))), rl_ast eG_125⟩⟩⟩⟩⟩⟩⟩⟩⟩⟩⟩⟩⟩⟩⟩⟩⟩⟩⟩⟩⟩)), hW, hB_G_125, hF, (Fr.putl (rs := [57]) (fs := []) (Fr.call9 (rs := [57]) (fs := []) Fr.rf hq_62 rfl rfl) eG_125 (Or.inl (by decide))), hS, lv_sub hl [0, 1, 2, 3, 4, 5, 6, 7] rfl⟩
      · have c_52 : x_47.toInt ≤ y_51.toInt := xI_nlt rfl rfl c_52
        refine lv_aload_n hx hb dX5_bravest_72 rfl (lv_at hl 3 rfl) ?_
        refine S_getR (n := 56) (C := RX5) (T := TX5) (N := 7) hx hb hg iX5 hown hK hW kd_29 rfl 4 (lt_b rfl) (hg (Cond.fieldLink RX5 24 "SlabWalk$Odds" "odds" "[J") m468) (fun _ h9 => h9) rfl dX5_bravest_73 ?_
        refine lv_iload hx hb dX5_bravest_76 (lv_at hl 0 rfl) ?_
        refine lv_lload hx hb dX5_bravest_78 (lv_at hl 2 rfl) ?_
        refine S_last hx hb hK hW hS kd_56 (vin ((by first | exact f_49.1 | omega)) ((by first | exact ok_284 f_49.2 | omega))) dX5_bravest_80 (fun G_127 H locs eG_127 hW hS => ?_)
        have hB_G_127 : Bd G_127 := hB_G_43.putl eG_127
        have hF := hF.putl eG_127 (Or.inl (by decide))
        obtain ⟨y_128, ey_128⟩ : ∃ q, q = x_47 + 1 := ⟨_, rfl⟩
        have ty_128 : y_128.toInt = x_47.toInt + 1 := xI_add rfl rfl ey_128 ((by first | exact ok_21 f_49.1 | omega)) ((by first | exact ok_285 f_49.2 | omega))
        refine lv_iinc (v := y_128) (lv' := [(8, .int y_128), (7, .int x_15), (5, .long x_16), (0, .ref (a 29)), (1, .ref (a 7)), (2, .ref (a 16)), (3, .int p0), (4, .int p1)]) hx hb dX5_bravest_81 hl (k := 0) rfl (by rw [ey_128]; rfl) (lt_b rfl) rfl (fun ls hl => ?_)
        refine lv_goto (tgt := 61) hx hb dX5_bravest_84 rfl ?_
        exact ih_45 (403 - y_128.toInt : Int).toNat ((by first | (clear ha_p0 ha_p1 f_8 hn_20 f_19 c_21; omega) | omega)) _ _ _ ⟨G_127, y_128, (Int.toNat_of_nonneg ((by first | exact ok_286 hci.1 f_49.2 ty_51 c_52 ty_128 | omega))), ⟨(by first | exact ok_23 f_49.1 ty_128 | omega), (by first | exact ok_287 hci.1 f_49.2 ty_51 c_52 ty_128 | omega)⟩, (hX_48.st (St_k_oBrave_1_3_mk ⟨x_47, G_43, y_128, G_127, rfl, rfl, f_49, hB_G_43, ⟨y_51, ty_51, ⟨c_52, ⟨y_128, ty_128, ⟨rfl, (Fr.putl (rs := [56]) (fs := []) Fr.rf eG_127 (Or.inl (by decide))), rl_ast eG_127⟩⟩⟩⟩⟩)), hW, hB_G_127, hF, (Fr.putl (rs := [56]) (fs := []) (Fr.call9 (rs := [56]) (fs := []) Fr.rf hq_44 rfl rfl) eG_127 (Or.inl (by decide))), hS, lv_sub hl [0, 1, 2, 3, 4, 5, 6, 7] rfl⟩
  · have c_10 : x_6.toInt ≤ (G.1 7 6).toInt := xI_nlt rfl rfl c_10
    refine lv_aload_n hx hb dX5_bravest_15 rfl (lv_at hl 2 rfl) ?_
    refine S_getR (n := 56) (C := RX5) (T := TX5) (N := 7) hx hb hg iX5 hown hK hW kd_29 rfl 4 (lt_b rfl) (hg (Cond.fieldLink RX5 24 "SlabWalk$Odds" "odds" "[J") m468) (fun _ h9 => h9) rfl dX5_bravest_16 ?_
    refine lv_iload hx hb dX5_bravest_19 (lv_at hl 0 rfl) ?_
    refine lv_aload_n hx hb dX5_bravest_21 rfl (lv_at hl 3 rfl) ?_
    refine S_getR (n := 40) (C := RX0) (T := TX0) (N := 8) hx hb hg iX0 hown hK hW kd_7 rfl 0 (lt_b rfl) (hg (Cond.fieldLink RX5 36 "SlabWalk$Course" "lawful" "[Z") m372) (fun _ h9 => h9) rfl dX5_bravest_22 ?_
    refine lv_iload hx hb dX5_bravest_25 (lv_at hl 0 rfl) ?_
    refine S_zald hx hb hK hW kd_40 (vin ((by first | exact f_8.1 | omega)) ((by first | exact ok_220 hci.1 f_8.2 c_10 | omega))) dX5_bravest_27 (fun y_129 ey_129 => ?_)
    have ty_129 : 0 ≤ y_129.toInt ∧ y_129.toInt ≤ 1 := bv_40 hB_G_2 ey_129
    refine lv_if_eq (tgt := 35) hx hb dX5_bravest_28 rfl (fun c_130 => ?_) (fun c_130 => ?_)
    · have c_130 : y_129.toInt = 0 := xI_eq rfl rfl c_130
      refine lv_lconst (v := 0) hx hb dX5_bravest_35 (by decide) ?_
      refine S_last hx hb hK hW hS kd_56 (vin ((by first | exact f_8.1 | omega)) ((by first | exact ok_221 f_8.2 | omega))) dX5_bravest_36 (fun G_131 H locs eG_131 hW hS => ?_)
      have hB_G_131 : Bd G_131 := hB_G_2.putl eG_131
      have hF := hF.putl eG_131 (Or.inl (by decide))
      obtain ⟨y_132, ey_132⟩ : ∃ q, q = x_6 + 1 := ⟨_, rfl⟩
      have ty_132 : y_132.toInt = x_6.toInt + 1 := xI_add rfl rfl ey_132 ((by first | exact ok_21 f_8.1 | omega)) ((by first | exact ok_40 f_8.2 | omega))
      refine lv_iinc (v := y_132) (lv' := [(7, .int y_132), (5, .long 1), (0, .ref (a 29)), (1, .ref (a 7)), (2, .ref (a 16)), (3, .int p0), (4, .int p1)]) hx hb dX5_bravest_37 hl (k := 0) rfl (by rw [ey_132]; rfl) (lt_b rfl) rfl (fun ls hl => ?_)
      refine lv_goto (tgt := 6) hx hb dX5_bravest_40 rfl ?_
      exact ih_4 (400 - y_132.toInt : Int).toNat ((by first | (clear ha_p0 ha_p1 ty_129 c_130; omega) | omega)) _ _ _ ⟨G_131, y_132, (Int.toNat_of_nonneg ((by first | exact ok_222 hci.1 f_8.2 c_10 ty_132 | omega))), ⟨(by first | exact ok_23 f_8.1 ty_132 | omega), (by first | exact ok_223 hci.1 f_8.2 c_10 ty_132 | omega)⟩, (hX_7.st (St_k_oBrave_1_1_mk ⟨x_6, G_2, y_132, G_131, rfl, rfl, f_8, hB_G_2, ⟨c_10, ⟨y_129, ey_129, (Or.inl ⟨c_130, ⟨y_132, ty_132, ⟨rfl, (Fr.putl (rs := [56]) (fs := []) Fr.rf eG_131 (Or.inl (by decide))), rl_ast eG_131⟩⟩⟩)⟩⟩⟩)), hW, hB_G_131, hF, (Fr.putl (rs := [56]) (fs := []) (Fr.call9 (rs := [56]) (fs := []) Fr.rf hq_3 rfl rfl) eG_131 (Or.inl (by decide))), hS, lv_sub hl [0, 1, 2, 3, 4, 5, 6] rfl⟩
    · have c_130 : y_129.toInt ≠ 0 := xI_ne rfl rfl c_130
      refine lv_lconst (v := 1) hx hb dX5_bravest_31 (by decide) ?_
      refine lv_goto (tgt := 36) hx hb dX5_bravest_32 rfl ?_
      refine S_last hx hb hK hW hS kd_56 (vin ((by first | exact f_8.1 | omega)) ((by first | exact ok_221 f_8.2 | omega))) dX5_bravest_36 (fun G_133 H locs eG_133 hW hS => ?_)
      have hB_G_133 : Bd G_133 := hB_G_2.putl eG_133
      have hF := hF.putl eG_133 (Or.inl (by decide))
      obtain ⟨y_134, ey_134⟩ : ∃ q, q = x_6 + 1 := ⟨_, rfl⟩
      have ty_134 : y_134.toInt = x_6.toInt + 1 := xI_add rfl rfl ey_134 ((by first | exact ok_21 f_8.1 | omega)) ((by first | exact ok_40 f_8.2 | omega))
      refine lv_iinc (v := y_134) (lv' := [(7, .int y_134), (5, .long 1), (0, .ref (a 29)), (1, .ref (a 7)), (2, .ref (a 16)), (3, .int p0), (4, .int p1)]) hx hb dX5_bravest_37 hl (k := 0) rfl (by rw [ey_134]; rfl) (lt_b rfl) rfl (fun ls hl => ?_)
      refine lv_goto (tgt := 6) hx hb dX5_bravest_40 rfl ?_
      exact ih_4 (400 - y_134.toInt : Int).toNat ((by first | (clear ha_p0 ha_p1 ty_129 c_130; omega) | omega)) _ _ _ ⟨G_133, y_134, (Int.toNat_of_nonneg ((by first | exact ok_222 hci.1 f_8.2 c_10 ty_134 | omega))), ⟨(by first | exact ok_23 f_8.1 ty_134 | omega), (by first | exact ok_223 hci.1 f_8.2 c_10 ty_134 | omega)⟩, (hX_7.st (St_k_oBrave_1_1_mk ⟨x_6, G_2, y_134, G_133, rfl, rfl, f_8, hB_G_2, ⟨c_10, ⟨y_129, ey_129, (Or.inr ⟨c_130, ⟨y_134, ty_134, ⟨rfl, (Fr.putl (rs := [56]) (fs := []) Fr.rf eG_133 (Or.inl (by decide))), rl_ast eG_133⟩⟩⟩)⟩⟩⟩)), hW, hB_G_133, hF, (Fr.putl (rs := [56]) (fs := []) (Fr.call9 (rs := [56]) (fs := []) Fr.rf hq_3 rfl rfl) eG_133 (Or.inl (by decide))), hS, lv_sub hl [0, 1, 2, 3, 4, 5, 6] rfl⟩

set_option maxHeartbeats 4000000 in
set_option maxRecDepth 100000 in
theorem k_oBrave_2 (l : Launch) (D : va_G) (k : KT) (A : Nat → Prop) (a : Nat → Nat) (z : SK) (G : GS) (p0 : Int32) (p1 : Int32) (ha_p0 : 0 ≤ p0.toInt ∧ p0.toInt ≤ 399) (ha_p1 : 1 ≤ p1.toInt ∧ p1.toInt ≤ 8) (hci : (G.1 7 6).toInt ≤ 399 ∧ (G.1 7 3).toInt ≤ (G.1 7 4).toInt ∧ ((G.1 7 7).toInt ≤ 0 ∨ (G.1 7 7).toInt + (G.1 7 4).toInt ≤ (G.1 7 6).toInt + 1)) : Met l yX5_bravest (WS yX5_bravest cX5_bravest 9 (some .long)) ({ frames := 3, cells := 0, slots := 0, locals := 63 }) (va_Pc [.ref (a 29), .ref (a 7), .ref (a 26), .int p0, .int p1] (cW D k A a z G)) (va_Ql (fun (r : Int64) (G1 : GS) => P_oBrave_2 p0 p1 G r G1) (fun (G1 : GS) t => Wd D k A a G1 t.heap) A) 0 0 A := by
  refine Met.ofW (cc := cX5_bravest) (maxL := 9) (ret := (some .long)) (by decide) rfl ?_
  intro p e s m args below meth c s₁ B hml hv
  obtain ⟨rfl, hW, hB_G, hK, hZ⟩ := hv
  have hx := B.exec
  have hb := B.bytes
  have hr := B.returns
  have hts := atoms_spec (ws := WS yX5_bravest cX5_bravest 9 (some .long)) B.pre
  have hgd : ∀ w ∈ gd, w ∈ WS yX5_bravest cX5_bravest 9 (some .long) := fun w h => List.mem_cons_of_mem _ h
  have hg : ∀ w ∈ gd, w.before _ s = true := fun w h => hts w (hgd w h)
  have hown : s.vm.findClass RX5 = some m.cls := findClass_of_methodNamed B.named
  have hS : va_S A s.heap s.heap [] := va_S.rf
  have hF : Fr [56, 57] [(29, 6)] G G := Fr.rf
  have hl := lv_entry ([.ref (a 29), .ref (a 7), .ref (a 26), .int p0, .int p1]) (n := 9) (Nat.le_of_ble_eq_true rfl)
  rw [lg_entry_eq]
  generalize (lg_sl ([.ref (a 29), .ref (a 7), .ref (a 26), .int p0, .int p1]) ++ List.replicate (9 - (lg_sl ([.ref (a 29), .ref (a 7), .ref (a 26), .int p0, .int p1])).length) Slot.unset).toArray = ls at hl ⊢
  have hl : lv_has ls 9 [(0, .ref (a 29)), (1, .ref (a 7)), (2, .ref (a 26)), (3, .int p0), (4, .int p1)] := hl
  have b_1 : (-1) ≤ (G.1 7 6).toInt ∧ (G.1 7 6).toInt ≤ 400 := bd_7_6 hB_G
  refine lv_lconst (v := 1) hx hb dX5_bravest_0 (by decide) ?_
  refine lv_lstore (lv' := [(5, .long 1), (0, .ref (a 29)), (1, .ref (a 7)), (2, .ref (a 26)), (3, .int p0), (4, .int p1)]) hx hb dX5_bravest_1 hl (lt_b rfl) rfl (fun ls hl => ?_)
  refine lv_iload_n hx hb dX5_bravest_3 rfl (lv_at hl 4 rfl) ?_
  refine lv_istore (lv' := [(7, .int p0), (5, .long 1), (0, .ref (a 29)), (1, .ref (a 7)), (2, .ref (a 26)), (3, .int p0), (4, .int p1)]) hx hb dX5_bravest_4 hl (lt_b rfl) rfl (fun ls hl => ?_)
  refine loop_N (Inv := fun n H locs ls => ∃ (G_2 : GS) (x_6 : Int32), (n : Int) = 400 - x_6.toInt ∧ (0 ≤ x_6.toInt ∧ x_6.toInt ≤ 400) ∧ Rc (St_k_oBrave_2_1 G) (p0, G) (x_6, G_2) ∧ Wd D k A a G_2 H ∧ Bd G_2 ∧ Fr [56, 57] [(29, 6)] G G_2 ∧ Fr [56] [] G G_2 ∧ va_S A s.heap H locs ∧ lv_has ls 9 [(7, .int x_6), (5, .long 1), (0, .ref (a 29)), (1, .ref (a 7)), (2, .ref (a 26)), (3, .int p0), (4, .int p1)]) (fun n_5 H locs ls ih_4 hI => ?_) (400 - p0.toInt : Int).toNat ⟨G, p0, (Int.toNat_of_nonneg ((by first | exact ok_260 ha_p0.2 | omega))), ⟨(by first | exact ha_p0.1 | omega), (by first | exact ok_261 ha_p0.2 | omega)⟩, Rc.rf, hW, hB_G, hF, Fr.rf, hS, lv_sub hl [0, 1, 2, 3, 4, 5, 6] rfl⟩
  obtain ⟨G_2, x_6, hn_9, f_8, hX_7, hW, hB_G_2, hF, hq_3, hS, hl⟩ := hI
  refine lv_iload hx hb dX5_bravest_6 (lv_at hl 0 rfl) ?_
  refine lv_aload_n hx hb dX5_bravest_8 rfl (lv_at hl 3 rfl) ?_
  refine S_getI (v := (G.1 7 6)) (C := RX0) (T := TX0) (N := 8) hx hb hg iX0 hown hK hW kd_7 rfl 6 (lt_b rfl) (hg (Cond.fieldLink RX5 30 "SlabWalk$Course" "last" "I") m389) (fun _ h9 => h9) rfl ((hq_3.i9 7 6 rfl rfl).trans (rfl)) dX5_bravest_9 ?_
  refine lv_icmp_gt (tgt := 43) hx hb dX5_bravest_12 rfl (fun c_10 => ?_) (fun c_10 => ?_)
  · have c_10 : (G.1 7 6).toInt < x_6.toInt := xI_lt rfl rfl c_10
    refine ic_0 hx hb dX5_bravest_43 ?_
    refine lv_istore (lv' := [(7, .int 0), (5, .long 1), (0, .ref (a 29)), (1, .ref (a 7)), (2, .ref (a 26)), (3, .int p0), (4, .int p1)]) hx hb dX5_bravest_44 hl (lt_b rfl) rfl (fun ls hl => ?_)
    have qc_18 : (0 : Int32).toInt = 0 := rfl
    refine loop_N (Inv := fun n H locs ls => ∃ (G_11 : GS) (x_15 : Int32) (x_16 : Int64), (n : Int) = 8 - x_15.toInt ∧ (0 ≤ x_15.toInt ∧ x_15.toInt ≤ 8) ∧ Rc (St_k_oBrave_2_2 p0 p1 G) (0, 1, G_2) (x_15, x_16, G_11) ∧ Wd D k A a G_11 H ∧ Bd G_11 ∧ Fr [56, 57] [(29, 6)] G G_11 ∧ Fr [56, 57] [] G_2 G_11 ∧ va_S A s.heap H locs ∧ lv_has ls 9 [(7, .int x_15), (5, .long x_16), (0, .ref (a 29)), (1, .ref (a 7)), (2, .ref (a 26)), (3, .int p0), (4, .int p1)]) (fun n_14 H locs ls ih_13 hI => ?_) (8 - 0 : Int).toNat ⟨G_2, 0, 1, (Int.toNat_of_nonneg ((by decide))), ⟨(by decide), (by decide)⟩, Rc.rf, hW, hB_G_2, hF, Fr.rf, hS, lv_sub hl [0, 1, 2, 3, 4, 5, 6] rfl⟩
    obtain ⟨G_11, x_15, x_16, hn_20, f_19, hX_17, hW, hB_G_11, hF, hq_12, hS, hl⟩ := hI
    refine lv_iload hx hb dX5_bravest_46 (lv_at hl 0 rfl) ?_
    refine lv_iload hx hb dX5_bravest_48 (lv_at hl 6 rfl) ?_
    refine lv_icmp_ge (tgt := 234) hx hb dX5_bravest_50 rfl (fun c_21 => ?_) (fun c_21 => ?_)
    · have c_21 : p1.toInt ≤ x_15.toInt := xI_le rfl rfl c_21
      refine lv_aload_n hx hb dX5_bravest_234 rfl (lv_at hl 2 rfl) ?_
      refine lv_aload_n hx hb dX5_bravest_235 rfl (lv_at hl 3 rfl) ?_
      refine S_getR (n := 40) (C := RX0) (T := TX0) (N := 8) hx hb hg iX0 hown hK hW kd_7 rfl 0 (lt_b rfl) (hg (Cond.fieldLink RX5 36 "SlabWalk$Course" "lawful" "[Z") m372) (fun _ h9 => h9) rfl dX5_bravest_236 ?_
      refine lv_iload_n hx hb dX5_bravest_239 rfl (lv_at hl 5 rfl) ?_
      refine S_zald hx hb hK hW kd_40 (vin ((by first | exact ha_p0.1 | omega)) ((by first | exact ok_189 ha_p0.2 | omega))) dX5_bravest_240 (fun y_22 ey_22 => ?_)
      have ty_22 : 0 ≤ y_22.toInt ∧ y_22.toInt ≤ 1 := bv_40 hB_G_11 ey_22
      refine lv_if_eq (tgt := 253) hx hb dX5_bravest_241 rfl (fun c_23 => ?_) (fun c_23 => ?_)
      · have c_23 : y_22.toInt = 0 := xI_eq rfl rfl c_23
        refine lv_aload_n hx hb dX5_bravest_253 rfl (lv_at hl 3 rfl) ?_
        have b_24 : 0 ≤ (G.1 7 3).toInt ∧ (G.1 7 3).toInt ≤ 60 := bd_7_3 hB_G
        refine S_getI (v := (G.1 7 3)) (C := RX0) (T := TX0) (N := 8) hx hb hg iX0 hown hK hW kd_7 rfl 3 (lt_b rfl) (hg (Cond.fieldLink RX5 58 "SlabWalk$Course" "least" "I") m379) (fun _ h9 => h9) rfl ((hq_12.i9 7 3 rfl rfl).trans (hq_3.i9 7 3 rfl rfl)) dX5_bravest_254 ?_
        refine S_putI (ty := .int) (C := RX5) (T := TX5) (N := 7) hx hb hg iX5 tyX5 tyX5_ok nmX5 hown hK hW hS kd_29 rfl 6 (lt_b rfl) (hg (Cond.fieldLink RX5 82 "SlabWalk$Odds" "boldest" "I") m470) (fun _ h9 => h9) rfl (by decide +kernel) rfl rfl rfl dX5_bravest_257 (fun G_25 H locs eG_25 hW hS => ?_)
        have hB_G_25 : Bd G_25 := hB_G_11.put (lo := (-2147483648)) (hi := 2147483647) eG_25 rfl rfl rfl (tI_rng _).1 (tI_rng _).2 (hB_G_11.2.put eG_25 rfl)
        have hF := hF.put eG_25 (Or.inr (by decide))
        refine lv_aload_n hx hb dX5_bravest_260 rfl (lv_at hl 2 rfl) ?_
        refine S_getR (n := 56) (C := RX5) (T := TX5) (N := 7) hx hb hg iX5 hown hK hW kd_29 rfl 4 (lt_b rfl) (hg (Cond.fieldLink RX5 24 "SlabWalk$Odds" "odds" "[J") m468) (fun _ h9 => h9) rfl dX5_bravest_261 ?_
        refine lv_iload_n hx hb dX5_bravest_264 rfl (lv_at hl 5 rfl) ?_
        refine S_lald hx hb hK hW kd_56 (vin ((by first | exact ha_p0.1 | omega)) ((by first | exact ok_262 ha_p0.2 | omega))) dX5_bravest_265 (fun y_26 ey_26 => ?_)
        exact W.lret (v := y_26) hx hb hr (fun t ht _ => ⟨⟨y_26, G_25, rfl, (P_oBrave_2_mk ⟨hB_G_25, hF, ⟨x_6, G_2, hX_7, f_8, hB_G_2, hq_3, ⟨c_10, ⟨x_15, x_16, G_11, hX_17, f_19, hB_G_11, hq_12, ⟨c_21, ⟨y_22, ey_22, (Or.inl ⟨c_23, ⟨y_26, ey_26.trans (congrFun (rl_put eG_25) _), ⟨rfl, (Fr.put (rs := []) (fs := [(29, 6)]) Fr.rf eG_25 (Or.inr (by decide))), (gp_eq eG_25)⟩⟩⟩)⟩⟩⟩⟩⟩⟩), wd_t ht hW⟩, hS.F ht⟩) hS.2.2 dX5_bravest_266
      · have c_23 : y_22.toInt ≠ 0 := xI_ne rfl rfl c_23
        refine lv_aload_n hx hb dX5_bravest_244 rfl (lv_at hl 2 rfl) ?_
        refine lv_aload_n hx hb dX5_bravest_245 rfl (lv_at hl 3 rfl) ?_
        refine lv_iload_n hx hb dX5_bravest_246 rfl (lv_at hl 5 rfl) ?_
        have b_27 : 0 ≤ (G.1 7 3).toInt ∧ (G.1 7 3).toInt ≤ 60 := bd_7_3 hB_G
        have g_28 : (G_11.1 7 3).toInt = (G.1 7 3).toInt := (congrArg Int32.toInt (show G_11.1 7 3 = (G.1 7 3) from ((hq_12.i9 7 3 rfl rfl).trans (hq_3.i9 7 3 rfl rfl))))
        have b_29 : 0 ≤ (G.1 7 4).toInt ∧ (G.1 7 4).toInt ≤ 60 := bd_7_4 hB_G
        have g_30 : (G_11.1 7 4).toInt = (G.1 7 4).toInt := (congrArg Int32.toInt (show G_11.1 7 4 = (G.1 7 4) from ((hq_12.i9 7 4 rfl rfl).trans (hq_3.i9 7 4 rfl rfl))))
        have g_31 : (G_11.1 7 6).toInt = (G.1 7 6).toInt := (congrArg Int32.toInt (show G_11.1 7 6 = (G.1 7 6) from ((hq_12.i9 7 6 rfl rfl).trans ((hq_3.i9 7 6 rfl rfl).trans (rfl)))))
        have b_32 : 0 ≤ (G.1 7 7).toInt ∧ (G.1 7 7).toInt ≤ 400 := bd_7_7 hB_G
        have g_33 : (G_11.1 7 7).toInt = (G.1 7 7).toInt := (congrArg Int32.toInt (show G_11.1 7 7 = (G.1 7 7) from ((hq_12.i9 7 7 rfl rfl).trans (hq_3.i9 7 7 rfl rfl))))
        refine S_calli (va_runV (As := [.ref (a 7), .int p0]) (rest := [.ref (a 29)]) ⟨hx, hb, hml, hown, hts⟩ (k_oBest l D k A a z G_11 p0 ⟨(by first | exact ha_p0.1 | omega), (by first | exact ok_261 ha_p0.2 | omega)⟩ ((by first | exact ⟨(by first | exact ok_235 hci.1 g_31 | omega), ⟨(by first | exact ok_185 hci.2.1 g_28 g_30 | omega), (by first | exact ok_236 hci.2.2 g_30 g_31 g_33 | omega)⟩⟩ | omega))) (cwV 2 hts (gd_V hgd m1126 m1128 m39 m126 m1129) rfl rfl rfl hd_X5_bestStep ⟨Nat.le_of_ble_eq_true rfl, Nat.le_of_ble_eq_true rfl⟩) (pre_W hW hB_G_11 hK hZ hS kd_29 rfl) rfl rfl hl.1 rfl (lv_room (Nat.le_of_ble_eq_true rfl)) dX5_bravest_247 ⟨Nat.le_of_ble_eq_true rfl, Nat.le_of_ble_eq_true rfl⟩) hS (fun r_34 G_35 H locs hpo hW hS => ?_)
        have hX_38 : P_oBest p0 G_11 r_34 G_35 := hpo
        obtain ⟨hB_G_35, hq_36, f_39, -⟩ := hpo
        have hF := hF.call9 hq_36 rfl rfl
        refine lv_goto (tgt := 257) hx hb dX5_bravest_250 rfl ?_
        refine S_putI (ty := .int) (C := RX5) (T := TX5) (N := 7) hx hb hg iX5 tyX5 tyX5_ok nmX5 hown hK hW hS kd_29 rfl 6 (lt_b rfl) (hg (Cond.fieldLink RX5 82 "SlabWalk$Odds" "boldest" "I") m470) (fun _ h9 => h9) rfl (by decide +kernel) rfl rfl rfl dX5_bravest_257 (fun G_40 H locs eG_40 hW hS => ?_)
        have hB_G_40 : Bd G_40 := hB_G_35.put (lo := (-2147483648)) (hi := 2147483647) eG_40 rfl rfl rfl (tI_rng _).1 (tI_rng _).2 (hB_G_35.2.put eG_40 rfl)
        have hF := hF.put eG_40 (Or.inr (by decide))
        refine lv_aload_n hx hb dX5_bravest_260 rfl (lv_at hl 2 rfl) ?_
        refine S_getR (n := 56) (C := RX5) (T := TX5) (N := 7) hx hb hg iX5 hown hK hW kd_29 rfl 4 (lt_b rfl) (hg (Cond.fieldLink RX5 24 "SlabWalk$Odds" "odds" "[J") m468) (fun _ h9 => h9) rfl dX5_bravest_261 ?_
        refine lv_iload_n hx hb dX5_bravest_264 rfl (lv_at hl 5 rfl) ?_
        refine S_lald hx hb hK hW kd_56 (vin ((by first | exact ha_p0.1 | omega)) ((by first | exact ok_262 ha_p0.2 | omega))) dX5_bravest_265 (fun y_41 ey_41 => ?_)
        exact W.lret (v := y_41) hx hb hr (fun t ht _ => ⟨⟨y_41, G_40, rfl, (P_oBrave_2_mk ⟨hB_G_40, hF, ⟨x_6, G_2, hX_7, f_8, hB_G_2, hq_3, ⟨c_10, ⟨x_15, x_16, G_11, hX_17, f_19, hB_G_11, hq_12, ⟨c_21, ⟨y_22, ey_22, (Or.inr ⟨c_23, ⟨r_34, G_35, hX_38, ⟨y_41, ey_41.trans (congrFun (rl_put eG_40) _), ⟨rfl, (Fr.put (rs := []) (fs := [(29, 6)]) Fr.rf eG_40 (Or.inr (by decide))), (gp_eq eG_40)⟩⟩⟩⟩)⟩⟩⟩⟩⟩⟩), wd_t ht hW⟩, hS.F ht⟩) hS.2.2 dX5_bravest_266
    · have c_21 : x_15.toInt < p1.toInt := xI_nle rfl rfl c_21
      refine lv_aload_n hx hb dX5_bravest_53 rfl (lv_at hl 3 rfl) ?_
      refine S_getI (v := (G.1 7 6)) (C := RX0) (T := TX0) (N := 8) hx hb hg iX0 hown hK hW kd_7 rfl 6 (lt_b rfl) (hg (Cond.fieldLink RX5 30 "SlabWalk$Course" "last" "I") m389) (fun _ h9 => h9) rfl ((hq_12.i9 7 6 rfl rfl).trans ((hq_3.i9 7 6 rfl rfl).trans (rfl))) dX5_bravest_54 ?_
      refine ic_1 hx hb dX5_bravest_57 ?_
      refine lv_iadd hx hb dX5_bravest_58 ?_
      refine lv_topi (fun y_42 ey_42 => ?_)
      have ty_42 : y_42.toInt = (G.1 7 6).toInt + 1 := xI_add rfl rfl ey_42 ((by first | exact ok_263 b_1.1 | omega)) ((by first | exact ok_264 hci.1 | omega))
      refine lv_istore (lv' := [(8, .int y_42), (7, .int x_15), (5, .long x_16), (0, .ref (a 29)), (1, .ref (a 7)), (2, .ref (a 26)), (3, .int p0), (4, .int p1)]) hx hb dX5_bravest_59 hl (lt_b rfl) rfl (fun ls hl => ?_)
      refine loop_N (Inv := fun n H locs ls => ∃ (G_43 : GS) (x_47 : Int32), (n : Int) = 403 - x_47.toInt ∧ (0 ≤ x_47.toInt ∧ x_47.toInt ≤ 403) ∧ Rc (St_k_oBrave_2_3 x_16 G) (y_42, G_11) (x_47, G_43) ∧ Wd D k A a G_43 H ∧ Bd G_43 ∧ Fr [56, 57] [(29, 6)] G G_43 ∧ Fr [56] [] G_11 G_43 ∧ va_S A s.heap H locs ∧ lv_has ls 9 [(8, .int x_47), (7, .int x_15), (5, .long x_16), (0, .ref (a 29)), (1, .ref (a 7)), (2, .ref (a 26)), (3, .int p0), (4, .int p1)]) (fun n_46 H locs ls ih_45 hI => ?_) (403 - y_42.toInt : Int).toNat ⟨G_11, y_42, (Int.toNat_of_nonneg ((by first | exact ok_265 hci.1 ty_42 | omega))), ⟨(by first | exact ok_266 b_1.1 ty_42 | omega), (by first | exact ok_267 hci.1 ty_42 | omega)⟩, Rc.rf, hW, hB_G_11, hF, Fr.rf, hS, lv_sub hl [0, 1, 2, 3, 4, 5, 6, 7] rfl⟩
      obtain ⟨G_43, x_47, hn_50, f_49, hX_48, hW, hB_G_43, hF, hq_44, hS, hl⟩ := hI
      refine lv_iload hx hb dX5_bravest_61 (lv_at hl 0 rfl) ?_
      refine lv_aload_n hx hb dX5_bravest_63 rfl (lv_at hl 4 rfl) ?_
      refine S_getI (v := (G.1 7 6)) (C := RX0) (T := TX0) (N := 8) hx hb hg iX0 hown hK hW kd_7 rfl 6 (lt_b rfl) (hg (Cond.fieldLink RX5 30 "SlabWalk$Course" "last" "I") m389) (fun _ h9 => h9) rfl ((hq_44.i9 7 6 rfl rfl).trans ((hq_12.i9 7 6 rfl rfl).trans ((hq_3.i9 7 6 rfl rfl).trans (rfl)))) dX5_bravest_64 ?_
      refine ic_3 hx hb dX5_bravest_67 ?_
      refine lv_iadd hx hb dX5_bravest_68 ?_
      refine lv_topi (fun y_51 ey_51 => ?_)
      have ty_51 : y_51.toInt = (G.1 7 6).toInt + 3 := xI_add rfl rfl ey_51 ((by first | exact ok_268 b_1.1 | omega)) ((by first | exact ok_269 hci.1 | omega))
      refine lv_icmp_gt (tgt := 87) hx hb dX5_bravest_69 rfl (fun c_52 => ?_) (fun c_52 => ?_)
      · have c_52 : y_51.toInt < x_47.toInt := xI_lt rfl rfl c_52
        refine lv_lload hx hb dX5_bravest_87 (lv_at hl 2 rfl) ?_
        refine lv_aload_n hx hb dX5_bravest_89 rfl (lv_at hl 5 rfl) ?_
        refine ic_0 hx hb dX5_bravest_90 ?_
        refine S_iald hx hb hK hW kd_26 (vin (by decide) (by decide)) dX5_bravest_91 (fun y_53 ey_53 => ?_)
        have ty_53 : 0 ≤ y_53.toInt ∧ y_53.toInt ≤ 9 := bv_26 hB_G_43 ey_53
        refine lv_aload_n hx hb dX5_bravest_92 rfl (lv_at hl 5 rfl) ?_
        refine ic_1 hx hb dX5_bravest_93 ?_
        refine S_iald hx hb hK hW kd_26 (vin (by decide) (by decide)) dX5_bravest_94 (fun y_54 ey_54 => ?_)
        have ty_54 : 0 ≤ y_54.toInt ∧ y_54.toInt ≤ 9 := bv_26 hB_G_43 ey_54
        refine lv_iadd hx hb dX5_bravest_95 ?_
        refine lv_topi (fun y_55 ey_55 => ?_)
        have ty_55 : y_55.toInt = y_53.toInt + y_54.toInt := xI_add rfl rfl ey_55 ((by first | exact ok_15 ty_53.1 ty_54.1 | omega)) ((by first | exact ok_16 ty_53.2 ty_54.2 | omega))
        refine lv_aload_n hx hb dX5_bravest_96 rfl (lv_at hl 5 rfl) ?_
        refine ic_2 hx hb dX5_bravest_97 ?_
        refine S_iald hx hb hK hW kd_26 (vin (by decide) (by decide)) dX5_bravest_98 (fun y_56 ey_56 => ?_)
        have ty_56 : 0 ≤ y_56.toInt ∧ y_56.toInt ≤ 9 := bv_26 hB_G_43 ey_56
        refine lv_iadd hx hb dX5_bravest_99 ?_
        refine lv_topi (fun y_57 ey_57 => ?_)
        have ty_57 : y_57.toInt = y_55.toInt + y_56.toInt := xI_add rfl rfl ey_57 ((by first | exact ok_17 ty_53.1 ty_54.1 ty_55 ty_56.1 | omega)) ((by first | exact ok_18 ty_53.2 ty_54.2 ty_55 ty_56.2 | omega))
        refine lv_i2l hx hb dX5_bravest_100 rfl ?_
        refine lv_topl (fun y_58 ey_58 => ?_)
        refine lv_lmul hx hb dX5_bravest_101 ?_
        refine lv_topl (fun y_59 ey_59 => ?_)
        refine lv_lstore (lv' := [(5, .long y_59), (8, .int x_47), (7, .int x_15), (0, .ref (a 29)), (1, .ref (a 7)), (2, .ref (a 26)), (3, .int p0), (4, .int p1)]) hx hb dX5_bravest_102 hl (lt_b rfl) rfl (fun ls hl => ?_)
        refine lv_iload_n hx hb dX5_bravest_104 rfl (lv_at hl 6 rfl) ?_
        refine ic_1 hx hb dX5_bravest_105 ?_
        refine lv_iadd hx hb dX5_bravest_106 ?_
        refine lv_topi (fun y_60 ey_60 => ?_)
        have ty_60 : y_60.toInt = p0.toInt + 1 := xI_add rfl rfl ey_60 ((by first | exact ok_21 ha_p0.1 | omega)) ((by first | exact ok_264 ha_p0.2 | omega))
        refine lv_istore (lv' := [(8, .int y_60), (5, .long y_59), (7, .int x_15), (0, .ref (a 29)), (1, .ref (a 7)), (2, .ref (a 26)), (3, .int p0), (4, .int p1)]) hx hb dX5_bravest_107 hl (lt_b rfl) rfl (fun ls hl => ?_)
        refine loop_N (Inv := fun n H locs ls => ∃ (G_61 : GS) (x_65 : Int32), (n : Int) = 402 - x_65.toInt ∧ (1 ≤ x_65.toInt ∧ x_65.toInt ≤ 402) ∧ Rc (St_k_oBrave_2_4 G) (y_60, G_43) (x_65, G_61) ∧ Wd D k A a G_61 H ∧ Bd G_61 ∧ Fr [56, 57] [(29, 6)] G G_61 ∧ Fr [57] [] G_43 G_61 ∧ va_S A s.heap H locs ∧ lv_has ls 9 [(8, .int x_65), (5, .long y_59), (7, .int x_15), (0, .ref (a 29)), (1, .ref (a 7)), (2, .ref (a 26)), (3, .int p0), (4, .int p1)]) (fun n_64 H locs ls ih_63 hI => ?_) (402 - y_60.toInt : Int).toNat ⟨G_43, y_60, (Int.toNat_of_nonneg ((by first | exact ok_270 ha_p0.2 ty_60 | omega))), ⟨(by first | exact ok_250 ha_p0.1 ty_60 | omega), (by first | exact ok_271 ha_p0.2 ty_60 | omega)⟩, Rc.rf, hW, hB_G_43, hF, Fr.rf, hS, lv_sub hl [0, 1, 2, 3, 4, 5, 6, 7] rfl⟩
        obtain ⟨G_61, x_65, hn_68, f_67, hX_66, hW, hB_G_61, hF, hq_62, hS, hl⟩ := hI
        refine lv_iload hx hb dX5_bravest_109 (lv_at hl 0 rfl) ?_
        refine lv_aload_n hx hb dX5_bravest_111 rfl (lv_at hl 4 rfl) ?_
        refine S_getI (v := (G.1 7 6)) (C := RX0) (T := TX0) (N := 8) hx hb hg iX0 hown hK hW kd_7 rfl 6 (lt_b rfl) (hg (Cond.fieldLink RX5 30 "SlabWalk$Course" "last" "I") m389) (fun _ h9 => h9) rfl ((hq_62.i9 7 6 rfl rfl).trans ((hq_44.i9 7 6 rfl rfl).trans ((hq_12.i9 7 6 rfl rfl).trans ((hq_3.i9 7 6 rfl rfl).trans (rfl))))) dX5_bravest_112 ?_
        refine ic_2 hx hb dX5_bravest_115 ?_
        refine lv_iadd hx hb dX5_bravest_116 ?_
        refine lv_topi (fun y_69 ey_69 => ?_)
        have ty_69 : y_69.toInt = (G.1 7 6).toInt + 2 := xI_add rfl rfl ey_69 ((by first | exact ok_245 b_1.1 | omega)) ((by first | exact ok_246 hci.1 | omega))
        refine lv_icmp_gt (tgt := 175) hx hb dX5_bravest_117 rfl (fun c_70 => ?_) (fun c_70 => ?_)
        · have c_70 : y_69.toInt < x_65.toInt := xI_lt rfl rfl c_70
          refine lv_iload_n hx hb dX5_bravest_175 rfl (lv_at hl 6 rfl) ?_
          refine lv_istore (lv' := [(8, .int p0), (5, .long y_59), (7, .int x_15), (0, .ref (a 29)), (1, .ref (a 7)), (2, .ref (a 26)), (3, .int p0), (4, .int p1)]) hx hb dX5_bravest_176 hl (lt_b rfl) rfl (fun ls hl => ?_)
          refine loop_N (Inv := fun n H locs ls => ∃ (G_71 : GS) (x_75 : Int32), (n : Int) = 400 - x_75.toInt ∧ (0 ≤ x_75.toInt ∧ x_75.toInt ≤ 400) ∧ Rc (St_k_oBrave_2_5 G) (p0, G_61) (x_75, G_71) ∧ Wd D k A a G_71 H ∧ Bd G_71 ∧ Fr [56, 57] [(29, 6)] G G_71 ∧ Fr [56] [] G_61 G_71 ∧ va_S A s.heap H locs ∧ lv_has ls 9 [(8, .int x_75), (5, .long y_59), (7, .int x_15), (0, .ref (a 29)), (1, .ref (a 7)), (2, .ref (a 26)), (3, .int p0), (4, .int p1)]) (fun n_74 H locs ls ih_73 hI => ?_) (400 - p0.toInt : Int).toNat ⟨G_61, p0, (Int.toNat_of_nonneg ((by first | exact ok_260 ha_p0.2 | omega))), ⟨(by first | exact ha_p0.1 | omega), (by first | exact ok_261 ha_p0.2 | omega)⟩, Rc.rf, hW, hB_G_61, hF, Fr.rf, hS, lv_sub hl [0, 1, 2, 3, 4, 5, 6, 7] rfl⟩
          obtain ⟨G_71, x_75, hn_78, f_77, hX_76, hW, hB_G_71, hF, hq_72, hS, hl⟩ := hI
          refine lv_iload hx hb dX5_bravest_178 (lv_at hl 0 rfl) ?_
          refine lv_aload_n hx hb dX5_bravest_180 rfl (lv_at hl 4 rfl) ?_
          refine S_getI (v := (G.1 7 6)) (C := RX0) (T := TX0) (N := 8) hx hb hg iX0 hown hK hW kd_7 rfl 6 (lt_b rfl) (hg (Cond.fieldLink RX5 30 "SlabWalk$Course" "last" "I") m389) (fun _ h9 => h9) rfl ((hq_72.i9 7 6 rfl rfl).trans ((hq_62.i9 7 6 rfl rfl).trans ((hq_44.i9 7 6 rfl rfl).trans ((hq_12.i9 7 6 rfl rfl).trans ((hq_3.i9 7 6 rfl rfl).trans (rfl)))))) dX5_bravest_181 ?_
          refine lv_icmp_gt (tgt := 228) hx hb dX5_bravest_184 rfl (fun c_79 => ?_) (fun c_79 => ?_)
          · have c_79 : (G.1 7 6).toInt < x_75.toInt := xI_lt rfl rfl c_79
            obtain ⟨y_80, ey_80⟩ : ∃ q, q = x_15 + 1 := ⟨_, rfl⟩
            have ty_80 : y_80.toInt = x_15.toInt + 1 := xI_add rfl rfl ey_80 ((by first | exact ok_21 f_19.1 | omega)) ((by first | exact ok_112 f_19.2 | omega))
            refine lv_iinc (v := y_80) (lv' := [(7, .int y_80), (8, .int x_75), (5, .long y_59), (0, .ref (a 29)), (1, .ref (a 7)), (2, .ref (a 26)), (3, .int p0), (4, .int p1)]) hx hb dX5_bravest_228 hl (k := 2) rfl (by rw [ey_80]; rfl) (lt_b rfl) rfl (fun ls hl => ?_)
            refine lv_goto (tgt := 46) hx hb dX5_bravest_231 rfl ?_
            exact ih_13 (8 - y_80.toInt : Int).toNat ((by first | (clear ha_p0 hci b_1 hn_9 f_8 c_10 ty_42 hn_50 f_49 ty_51 c_52 ty_53 ty_54 ty_55 ty_56 ty_57 ty_60 hn_68 f_67 ty_69 c_70 hn_78 f_77 c_79; omega) | omega)) _ _ _ ⟨G_71, y_80, y_59, (Int.toNat_of_nonneg ((by first | exact ok_272 ha_p1.2 f_19.2 c_21 ty_80 | omega))), ⟨(by first | exact ok_23 f_19.1 ty_80 | omega), (by first | exact ok_273 ha_p1.2 f_19.2 c_21 ty_80 | omega)⟩, (hX_17.st (St_k_oBrave_2_2_mk ⟨x_15, x_16, G_11, y_80, y_59, G_71, rfl, rfl, f_19, hB_G_11, ⟨c_21, ⟨y_42, ty_42, ⟨x_47, G_43, hX_48, f_49, hB_G_43, hq_44, ⟨y_51, ty_51, ⟨c_52, ⟨y_53, ey_53, ⟨y_54, ey_54, ⟨y_55, ty_55, ⟨y_56, ey_56, ⟨y_57, ty_57, ⟨y_58, ey_58, ⟨y_59, ey_59, ⟨y_60, ty_60, ⟨x_65, G_61, hX_66, f_67, hB_G_61, hq_62, ⟨y_69, ty_69, ⟨c_70, ⟨x_75, G_71, hX_76, f_77, hB_G_71, hq_72, ⟨c_79, ⟨y_80, ty_80, ⟨rfl, rfl, rfl⟩⟩⟩⟩⟩⟩⟩⟩⟩⟩⟩⟩⟩⟩⟩⟩⟩⟩⟩⟩⟩)), hW, hB_G_71, hF, (Fr.call9 (rs := [56, 57]) (fs := []) (Fr.call9 (rs := [56, 57]) (fs := []) (Fr.call9 (rs := [56, 57]) (fs := []) (Fr.call9 (rs := [56, 57]) (fs := []) Fr.rf hq_12 rfl rfl) hq_44 rfl rfl) hq_62 rfl rfl) hq_72 rfl rfl), hS, lv_sub hl [0, 2, 3, 4, 5, 6, 7] rfl⟩
          · have c_79 : x_75.toInt ≤ (G.1 7 6).toInt := xI_nlt rfl rfl c_79
            refine lv_aload_n hx hb dX5_bravest_187 rfl (lv_at hl 3 rfl) ?_
            refine S_getR (n := 56) (C := RX5) (T := TX5) (N := 7) hx hb hg iX5 hown hK hW kd_29 rfl 4 (lt_b rfl) (hg (Cond.fieldLink RX5 24 "SlabWalk$Odds" "odds" "[J") m468) (fun _ h9 => h9) rfl dX5_bravest_188 ?_
            refine lv_iload hx hb dX5_bravest_191 (lv_at hl 0 rfl) ?_
            refine lv_aload_n hx hb dX5_bravest_193 rfl (lv_at hl 4 rfl) ?_
            refine S_getR (n := 40) (C := RX0) (T := TX0) (N := 8) hx hb hg iX0 hown hK hW kd_7 rfl 0 (lt_b rfl) (hg (Cond.fieldLink RX5 36 "SlabWalk$Course" "lawful" "[Z") m372) (fun _ h9 => h9) rfl dX5_bravest_194 ?_
            refine lv_iload hx hb dX5_bravest_197 (lv_at hl 0 rfl) ?_
            refine S_zald hx hb hK hW kd_40 (vin ((by first | exact f_77.1 | omega)) ((by first | exact ok_220 hci.1 f_77.2 c_79 | omega))) dX5_bravest_199 (fun y_81 ey_81 => ?_)
            have ty_81 : 0 ≤ y_81.toInt ∧ y_81.toInt ≤ 1 := bv_40 hB_G_71 ey_81
            refine lv_if_eq (tgt := 220) hx hb dX5_bravest_200 rfl (fun c_82 => ?_) (fun c_82 => ?_)
            · have c_82 : y_81.toInt = 0 := xI_eq rfl rfl c_82
              refine lv_lconst (v := 0) hx hb dX5_bravest_220 (by decide) ?_
              refine S_last hx hb hK hW hS kd_56 (vin ((by first | exact f_77.1 | omega)) ((by first | exact ok_221 f_77.2 | omega))) dX5_bravest_221 (fun G_83 H locs eG_83 hW hS => ?_)
              have hB_G_83 : Bd G_83 := hB_G_71.putl eG_83
              have hF := hF.putl eG_83 (Or.inl (by decide))
              obtain ⟨y_84, ey_84⟩ : ∃ q, q = x_75 + 1 := ⟨_, rfl⟩
              have ty_84 : y_84.toInt = x_75.toInt + 1 := xI_add rfl rfl ey_84 ((by first | exact ok_21 f_77.1 | omega)) ((by first | exact ok_40 f_77.2 | omega))
              refine lv_iinc (v := y_84) (lv' := [(8, .int y_84), (5, .long y_59), (7, .int x_15), (0, .ref (a 29)), (1, .ref (a 7)), (2, .ref (a 26)), (3, .int p0), (4, .int p1)]) hx hb dX5_bravest_222 hl (k := 0) rfl (by rw [ey_84]; rfl) (lt_b rfl) rfl (fun ls hl => ?_)
              refine lv_goto (tgt := 178) hx hb dX5_bravest_225 rfl ?_
              exact ih_73 (400 - y_84.toInt : Int).toNat ((by first | (clear ha_p0 ha_p1 f_8 hn_20 f_19 c_21 f_49 ty_53 ty_54 ty_55 ty_56 ty_57 ty_60 f_67 ty_81 c_82; omega) | omega)) _ _ _ ⟨G_83, y_84, (Int.toNat_of_nonneg ((by first | exact ok_222 hci.1 f_77.2 c_79 ty_84 | omega))), ⟨(by first | exact ok_23 f_77.1 ty_84 | omega), (by first | exact ok_223 hci.1 f_77.2 c_79 ty_84 | omega)⟩, (hX_76.st (St_k_oBrave_2_5_mk ⟨x_75, G_71, y_84, G_83, rfl, rfl, f_77, hB_G_71, ⟨c_79, ⟨y_81, ey_81, (Or.inl ⟨c_82, ⟨y_84, ty_84, ⟨rfl, (Fr.putl (rs := [56]) (fs := []) Fr.rf eG_83 (Or.inl (by decide))), rl_ast eG_83⟩⟩⟩)⟩⟩⟩)), hW, hB_G_83, hF, (Fr.putl (rs := [56]) (fs := []) (Fr.call9 (rs := [56]) (fs := []) Fr.rf hq_72 rfl rfl) eG_83 (Or.inl (by decide))), hS, lv_sub hl [0, 1, 2, 3, 4, 5, 6, 7] rfl⟩
            · have c_82 : y_81.toInt ≠ 0 := xI_ne rfl rfl c_82
              refine lv_aload_n hx hb dX5_bravest_203 rfl (lv_at hl 3 rfl) ?_
              refine lv_aload_n hx hb dX5_bravest_204 rfl (lv_at hl 4 rfl) ?_
              refine lv_iload hx hb dX5_bravest_205 (lv_at hl 0 rfl) ?_
              refine lv_aload_n hx hb dX5_bravest_207 rfl (lv_at hl 3 rfl) ?_
              refine lv_aload_n hx hb dX5_bravest_208 rfl (lv_at hl 4 rfl) ?_
              refine lv_iload hx hb dX5_bravest_209 (lv_at hl 0 rfl) ?_
              have b_85 : 0 ≤ (G.1 7 3).toInt ∧ (G.1 7 3).toInt ≤ 60 := bd_7_3 hB_G
              have g_86 : (G_71.1 7 3).toInt = (G.1 7 3).toInt := (congrArg Int32.toInt (show G_71.1 7 3 = (G.1 7 3) from ((hq_72.i9 7 3 rfl rfl).trans ((hq_62.i9 7 3 rfl rfl).trans ((hq_44.i9 7 3 rfl rfl).trans ((hq_12.i9 7 3 rfl rfl).trans (hq_3.i9 7 3 rfl rfl)))))))
              have b_87 : 0 ≤ (G.1 7 4).toInt ∧ (G.1 7 4).toInt ≤ 60 := bd_7_4 hB_G
              have g_88 : (G_71.1 7 4).toInt = (G.1 7 4).toInt := (congrArg Int32.toInt (show G_71.1 7 4 = (G.1 7 4) from ((hq_72.i9 7 4 rfl rfl).trans ((hq_62.i9 7 4 rfl rfl).trans ((hq_44.i9 7 4 rfl rfl).trans ((hq_12.i9 7 4 rfl rfl).trans (hq_3.i9 7 4 rfl rfl)))))))
              have g_89 : (G_71.1 7 6).toInt = (G.1 7 6).toInt := (congrArg Int32.toInt (show G_71.1 7 6 = (G.1 7 6) from ((hq_72.i9 7 6 rfl rfl).trans ((hq_62.i9 7 6 rfl rfl).trans ((hq_44.i9 7 6 rfl rfl).trans ((hq_12.i9 7 6 rfl rfl).trans ((hq_3.i9 7 6 rfl rfl).trans (rfl))))))))
              have b_90 : 0 ≤ (G.1 7 7).toInt ∧ (G.1 7 7).toInt ≤ 400 := bd_7_7 hB_G
              have g_91 : (G_71.1 7 7).toInt = (G.1 7 7).toInt := (congrArg Int32.toInt (show G_71.1 7 7 = (G.1 7 7) from ((hq_72.i9 7 7 rfl rfl).trans ((hq_62.i9 7 7 rfl rfl).trans ((hq_44.i9 7 7 rfl rfl).trans ((hq_12.i9 7 7 rfl rfl).trans (hq_3.i9 7 7 rfl rfl)))))))
              refine S_calli (va_runV (As := [.ref (a 7), .int x_75]) (rest := [.int x_75, .ref (a 7), .ref (a 29), .int x_75, .ref (a 56)]) ⟨hx, hb, hml, hown, hts⟩ (k_oBest l D k A a z G_71 x_75 ⟨(by first | exact f_77.1 | omega), (by first | exact f_77.2 | omega)⟩ ((by first | exact ⟨(by first | exact ok_274 hci.1 b_1.2 g_89 | omega), ⟨(by first | exact ok_185 hci.2.1 g_86 g_88 | omega), (by first | exact ok_236 hci.2.2 g_88 g_89 g_91 | omega)⟩⟩ | omega))) (cwV 2 hts (gd_V hgd m1126 m1128 m39 m126 m1129) rfl rfl rfl hd_X5_bestStep ⟨Nat.le_of_ble_eq_true rfl, Nat.le_of_ble_eq_true rfl⟩) (pre_W hW hB_G_71 hK hZ hS kd_29 rfl) rfl rfl hl.1 rfl (lv_room (Nat.le_of_ble_eq_true rfl)) dX5_bravest_211 ⟨Nat.le_of_ble_eq_true rfl, Nat.le_of_ble_eq_true rfl⟩) hS (fun r_92 G_93 H locs hpo hW hS => ?_)
              have hX_96 : P_oBest x_75 G_71 r_92 G_93 := hpo
              obtain ⟨hB_G_93, hq_94, f_97, -⟩ := hpo
              have hF := hF.call9 hq_94 rfl rfl
              have g_98 : (G_93.1 7 3).toInt = (G.1 7 3).toInt := (congrArg Int32.toInt (show G_93.1 7 3 = (G.1 7 3) from ((hq_94.i9 7 3 rfl rfl).trans ((hq_72.i9 7 3 rfl rfl).trans ((hq_62.i9 7 3 rfl rfl).trans ((hq_44.i9 7 3 rfl rfl).trans ((hq_12.i9 7 3 rfl rfl).trans ((hq_3.i9 7 3 rfl rfl).trans (rfl)))))))))
              have g_99 : (G_93.1 7 4).toInt = (G.1 7 4).toInt := (congrArg Int32.toInt (show G_93.1 7 4 = (G.1 7 4) from ((hq_94.i9 7 4 rfl rfl).trans ((hq_72.i9 7 4 rfl rfl).trans ((hq_62.i9 7 4 rfl rfl).trans ((hq_44.i9 7 4 rfl rfl).trans ((hq_12.i9 7 4 rfl rfl).trans ((hq_3.i9 7 4 rfl rfl).trans (rfl)))))))))
              have g_100 : (G_93.1 7 6).toInt = (G.1 7 6).toInt := (congrArg Int32.toInt (show G_93.1 7 6 = (G.1 7 6) from ((hq_94.i9 7 6 rfl rfl).trans ((hq_72.i9 7 6 rfl rfl).trans ((hq_62.i9 7 6 rfl rfl).trans ((hq_44.i9 7 6 rfl rfl).trans ((hq_12.i9 7 6 rfl rfl).trans ((hq_3.i9 7 6 rfl rfl).trans (rfl)))))))))
              have g_101 : (G_93.1 7 7).toInt = (G.1 7 7).toInt := (congrArg Int32.toInt (show G_93.1 7 7 = (G.1 7 7) from ((hq_94.i9 7 7 rfl rfl).trans ((hq_72.i9 7 7 rfl rfl).trans ((hq_62.i9 7 7 rfl rfl).trans ((hq_44.i9 7 7 rfl rfl).trans ((hq_12.i9 7 7 rfl rfl).trans ((hq_3.i9 7 7 rfl rfl).trans (rfl)))))))))
              refine S_calll (va_runV (As := [.ref (a 7), .int x_75, .int r_92]) (rest := [.int x_75, .ref (a 56)]) ⟨hx, hb, hml, hown, hts⟩ (k_oAim l D k A a z G_93 x_75 r_92 ⟨(by first | exact f_77.1 | omega), (by first | exact f_77.2 | omega)⟩ ⟨(by first | exact f_97.1 | omega), (by first | exact f_97.2 | omega)⟩ ((by first | exact ⟨(by first | exact ok_274 hci.1 b_1.2 g_100 | omega), ⟨(by first | exact ok_185 hci.2.1 g_98 g_99 | omega), (by first | exact ok_236 hci.2.2 g_99 g_100 g_101 | omega)⟩⟩ | omega))) (cwV 3 hts (gd_V hgd m1130 m1132 m40 m126 m1133) rfl rfl rfl hd_X5_aimFrom ⟨Nat.le_of_ble_eq_true rfl, Nat.le_of_ble_eq_true rfl⟩) (pre_W hW hB_G_93 hK hZ hS kd_29 rfl) rfl rfl hl.1 rfl (lv_room (Nat.le_of_ble_eq_true rfl)) dX5_bravest_214 ⟨Nat.le_of_ble_eq_true rfl, Nat.le_of_ble_eq_true rfl⟩) hS (fun r_102 G_103 H locs hpo hW hS => ?_)
              have hX_106 : P_oAim x_75 r_92 G_93 r_102 G_103 := hpo
              obtain ⟨hB_G_103, hq_104, -⟩ := hpo
              have hF := hF.call9 hq_104 rfl rfl
              refine lv_goto (tgt := 221) hx hb dX5_bravest_217 rfl ?_
              refine S_last hx hb hK hW hS kd_56 (vin ((by first | exact f_77.1 | omega)) ((by first | exact ok_221 f_77.2 | omega))) dX5_bravest_221 (fun G_107 H locs eG_107 hW hS => ?_)
              have hB_G_107 : Bd G_107 := hB_G_103.putl eG_107
              have hF := hF.putl eG_107 (Or.inl (by decide))
              obtain ⟨y_108, ey_108⟩ : ∃ q, q = x_75 + 1 := ⟨_, rfl⟩
              have ty_108 : y_108.toInt = x_75.toInt + 1 := xI_add rfl rfl ey_108 ((by first | exact ok_21 f_77.1 | omega)) ((by first | exact ok_40 f_77.2 | omega))
              refine lv_iinc (v := y_108) (lv' := [(8, .int y_108), (5, .long y_59), (7, .int x_15), (0, .ref (a 29)), (1, .ref (a 7)), (2, .ref (a 26)), (3, .int p0), (4, .int p1)]) hx hb dX5_bravest_222 hl (k := 0) rfl (by rw [ey_108]; rfl) (lt_b rfl) rfl (fun ls hl => ?_)
              refine lv_goto (tgt := 178) hx hb dX5_bravest_225 rfl ?_
              exact ih_73 (400 - y_108.toInt : Int).toNat ((by first | (clear ha_p0 ha_p1 f_8 hn_20 f_19 c_21 f_49 ty_53 ty_54 ty_55 ty_56 ty_57 ty_60 f_67 ty_81 c_82 b_85 b_87 b_90 f_97; omega) | omega)) _ _ _ ⟨G_107, y_108, (Int.toNat_of_nonneg ((by first | exact ok_222 hci.1 f_77.2 c_79 ty_108 | omega))), ⟨(by first | exact ok_23 f_77.1 ty_108 | omega), (by first | exact ok_223 hci.1 f_77.2 c_79 ty_108 | omega)⟩, (hX_76.st (St_k_oBrave_2_5_mk ⟨x_75, G_71, y_108, G_107, rfl, rfl, f_77, hB_G_71, ⟨c_79, ⟨y_81, ey_81, (Or.inr ⟨c_82, ⟨r_92, G_93, hX_96, ⟨r_102, G_103, hX_106, ⟨y_108, ty_108, ⟨rfl, (Fr.putl (rs := [56]) (fs := []) Fr.rf eG_107 (Or.inl (by decide))), rl_ast eG_107⟩⟩⟩⟩⟩)⟩⟩⟩)), hW, hB_G_107, hF, (Fr.putl (rs := [56]) (fs := []) (Fr.call9 (rs := [56]) (fs := []) (Fr.call9 (rs := [56]) (fs := []) (Fr.call9 (rs := [56]) (fs := []) Fr.rf hq_72 rfl rfl) hq_94 rfl rfl) hq_104 rfl rfl) eG_107 (Or.inl (by decide))), hS, lv_sub hl [0, 1, 2, 3, 4, 5, 6, 7] rfl⟩
        · have c_70 : x_65.toInt ≤ y_69.toInt := xI_nlt rfl rfl c_70
          refine lv_aload_n hx hb dX5_bravest_120 rfl (lv_at hl 3 rfl) ?_
          refine S_getR (n := 57) (C := RX5) (T := TX5) (N := 7) hx hb hg iX5 hown hK hW kd_29 rfl 5 (lt_b rfl) (hg (Cond.fieldLink RX5 27 "SlabWalk$Odds" "aims" "[J") m469) (fun _ h9 => h9) rfl dX5_bravest_121 ?_
          refine lv_iload hx hb dX5_bravest_124 (lv_at hl 0 rfl) ?_
          refine lv_aload_n hx hb dX5_bravest_126 rfl (lv_at hl 5 rfl) ?_
          refine ic_0 hx hb dX5_bravest_127 ?_
          refine S_iald hx hb hK hW kd_26 (vin (by decide) (by decide)) dX5_bravest_128 (fun y_109 ey_109 => ?_)
          have ty_109 : 0 ≤ y_109.toInt ∧ y_109.toInt ≤ 9 := bv_26 hB_G_61 ey_109
          refine lv_i2l hx hb dX5_bravest_129 rfl ?_
          refine lv_topl (fun y_110 ey_110 => ?_)
          refine lv_aload_n hx hb dX5_bravest_130 rfl (lv_at hl 3 rfl) ?_
          refine S_getR (n := 56) (C := RX5) (T := TX5) (N := 7) hx hb hg iX5 hown hK hW kd_29 rfl 4 (lt_b rfl) (hg (Cond.fieldLink RX5 24 "SlabWalk$Odds" "odds" "[J") m468) (fun _ h9 => h9) rfl dX5_bravest_131 ?_
          refine lv_iload hx hb dX5_bravest_134 (lv_at hl 0 rfl) ?_
          refine ic_1 hx hb dX5_bravest_136 ?_
          refine lv_isub hx hb dX5_bravest_137 ?_
          refine lv_topi (fun y_111 ey_111 => ?_)
          have ty_111 : y_111.toInt = x_65.toInt - 1 := xI_sub rfl rfl ey_111 ((by first | exact ok_275 f_67.1 | omega)) ((by first | exact ok_276 f_67.2 | omega))
          refine S_lald hx hb hK hW kd_56 (vin ((by first | exact ok_277 f_67.1 ty_111 | omega)) ((by first | exact ok_278 f_67.2 ty_111 | omega))) dX5_bravest_138 (fun y_112 ey_112 => ?_)
          refine lv_lmul hx hb dX5_bravest_139 ?_
          refine lv_topl (fun y_113 ey_113 => ?_)
          refine lv_aload_n hx hb dX5_bravest_140 rfl (lv_at hl 5 rfl) ?_
          refine ic_1 hx hb dX5_bravest_141 ?_
          refine S_iald hx hb hK hW kd_26 (vin (by decide) (by decide)) dX5_bravest_142 (fun y_114 ey_114 => ?_)
          have ty_114 : 0 ≤ y_114.toInt ∧ y_114.toInt ≤ 9 := bv_26 hB_G_61 ey_114
          refine lv_i2l hx hb dX5_bravest_143 rfl ?_
          refine lv_topl (fun y_115 ey_115 => ?_)
          refine lv_aload_n hx hb dX5_bravest_144 rfl (lv_at hl 3 rfl) ?_
          refine S_getR (n := 56) (C := RX5) (T := TX5) (N := 7) hx hb hg iX5 hown hK hW kd_29 rfl 4 (lt_b rfl) (hg (Cond.fieldLink RX5 24 "SlabWalk$Odds" "odds" "[J") m468) (fun _ h9 => h9) rfl dX5_bravest_145 ?_
          refine lv_iload hx hb dX5_bravest_148 (lv_at hl 0 rfl) ?_
          refine S_lald hx hb hK hW kd_56 (vin ((by first | exact ok_131 f_67.1 | omega)) ((by first | exact ok_279 f_67.2 | omega))) dX5_bravest_150 (fun y_116 ey_116 => ?_)
          refine lv_lmul hx hb dX5_bravest_151 ?_
          refine lv_topl (fun y_117 ey_117 => ?_)
          refine lv_ladd hx hb dX5_bravest_152 ?_
          refine lv_topl (fun y_118 ey_118 => ?_)
          refine lv_aload_n hx hb dX5_bravest_153 rfl (lv_at hl 5 rfl) ?_
          refine ic_2 hx hb dX5_bravest_154 ?_
          refine S_iald hx hb hK hW kd_26 (vin (by decide) (by decide)) dX5_bravest_155 (fun y_119 ey_119 => ?_)
          have ty_119 : 0 ≤ y_119.toInt ∧ y_119.toInt ≤ 9 := bv_26 hB_G_61 ey_119
          refine lv_i2l hx hb dX5_bravest_156 rfl ?_
          refine lv_topl (fun y_120 ey_120 => ?_)
          refine lv_aload_n hx hb dX5_bravest_157 rfl (lv_at hl 3 rfl) ?_
          refine S_getR (n := 56) (C := RX5) (T := TX5) (N := 7) hx hb hg iX5 hown hK hW kd_29 rfl 4 (lt_b rfl) (hg (Cond.fieldLink RX5 24 "SlabWalk$Odds" "odds" "[J") m468) (fun _ h9 => h9) rfl dX5_bravest_158 ?_
          refine lv_iload hx hb dX5_bravest_161 (lv_at hl 0 rfl) ?_
          refine ic_1 hx hb dX5_bravest_163 ?_
          refine lv_iadd hx hb dX5_bravest_164 ?_
          refine lv_topi (fun y_121 ey_121 => ?_)
          have ty_121 : y_121.toInt = x_65.toInt + 1 := xI_add rfl rfl ey_121 ((by first | exact ok_237 f_67.1 | omega)) ((by first | exact ok_51 f_67.2 | omega))
          refine S_lald hx hb hK hW kd_56 (vin ((by first | exact ok_280 f_67.1 ty_121 | omega)) ((by first | exact ok_281 f_67.2 ty_121 | omega))) dX5_bravest_165 (fun y_122 ey_122 => ?_)
          refine lv_lmul hx hb dX5_bravest_166 ?_
          refine lv_topl (fun y_123 ey_123 => ?_)
          refine lv_ladd hx hb dX5_bravest_167 ?_
          refine lv_topl (fun y_124 ey_124 => ?_)
          refine S_last hx hb hK hW hS kd_57 (vin ((by first | exact ok_131 f_67.1 | omega)) ((by first | exact ok_279 f_67.2 | omega))) dX5_bravest_168 (fun G_125 H locs eG_125 hW hS => ?_)
          have hB_G_125 : Bd G_125 := hB_G_61.putl eG_125
          have hF := hF.putl eG_125 (Or.inl (by decide))
          obtain ⟨y_126, ey_126⟩ : ∃ q, q = x_65 + 1 := ⟨_, rfl⟩
          have ty_126 : y_126.toInt = x_65.toInt + 1 := xI_add rfl rfl ey_126 ((by first | exact ok_237 f_67.1 | omega)) ((by first | exact ok_51 f_67.2 | omega))
          refine lv_iinc (v := y_126) (lv' := [(8, .int y_126), (5, .long y_59), (7, .int x_15), (0, .ref (a 29)), (1, .ref (a 7)), (2, .ref (a 26)), (3, .int p0), (4, .int p1)]) hx hb dX5_bravest_169 hl (k := 0) rfl (by rw [ey_126]; rfl) (lt_b rfl) rfl (fun ls hl => ?_)
          refine lv_goto (tgt := 109) hx hb dX5_bravest_172 rfl ?_
          exact ih_63 (402 - y_126.toInt : Int).toNat ((by first | (clear ha_p0 ha_p1 f_8 hn_20 f_19 c_21 f_49 ty_53 ty_54 ty_55 ty_56 ty_57 ty_60 ty_109 ty_114 ty_119; omega) | omega)) _ _ _ ⟨G_125, y_126, (Int.toNat_of_nonneg ((by first | exact ok_282 hci.1 f_67.2 ty_69 c_70 ty_126 | omega))), ⟨(by first | exact ok_240 f_67.1 ty_126 | omega), (by first | exact ok_283 hci.1 f_67.2 ty_69 c_70 ty_126 | omega)⟩, (hX_66.st (St_k_oBrave_2_4_mk ⟨x_65, G_61, y_126, G_125, rfl, rfl, f_67, hB_G_61, ⟨y_69, ty_69, ⟨c_70, ⟨y_109, ey_109, ⟨y_110, ey_110, ⟨y_111, ty_111, ⟨y_112, ey_112, ⟨y_113, ey_113, ⟨y_114, ey_114, ⟨y_115, ey_115, ⟨y_116, ey_116, ⟨y_117, ey_117, ⟨y_118, ey_118, ⟨y_119, ey_119, ⟨y_120, ey_120, ⟨y_121, ty_121, ⟨y_122, ey_122, ⟨y_123, ey_123, ⟨y_124, ey_124, ⟨y_126, ty_126, ⟨rfl, (Fr.putl (rs := [57]) (fs := []) Fr.rf eG_125 (Or.inl (by decide))), rl_ast eG_125⟩⟩⟩⟩⟩⟩⟩⟩⟩⟩⟩⟩⟩⟩⟩⟩⟩⟩⟩⟩⟩)), hW, hB_G_125, hF, (Fr.putl (rs := [57]) (fs := []) (Fr.call9 (rs := [57]) (fs := []) Fr.rf hq_62 rfl rfl) eG_125 (Or.inl (by decide))), hS, lv_sub hl [0, 1, 2, 3, 4, 5, 6, 7] rfl⟩
      · have c_52 : x_47.toInt ≤ y_51.toInt := xI_nlt rfl rfl c_52
        refine lv_aload_n hx hb dX5_bravest_72 rfl (lv_at hl 3 rfl) ?_
        refine S_getR (n := 56) (C := RX5) (T := TX5) (N := 7) hx hb hg iX5 hown hK hW kd_29 rfl 4 (lt_b rfl) (hg (Cond.fieldLink RX5 24 "SlabWalk$Odds" "odds" "[J") m468) (fun _ h9 => h9) rfl dX5_bravest_73 ?_
        refine lv_iload hx hb dX5_bravest_76 (lv_at hl 0 rfl) ?_
        refine lv_lload hx hb dX5_bravest_78 (lv_at hl 2 rfl) ?_
        refine S_last hx hb hK hW hS kd_56 (vin ((by first | exact f_49.1 | omega)) ((by first | exact ok_284 f_49.2 | omega))) dX5_bravest_80 (fun G_127 H locs eG_127 hW hS => ?_)
        have hB_G_127 : Bd G_127 := hB_G_43.putl eG_127
        have hF := hF.putl eG_127 (Or.inl (by decide))
        obtain ⟨y_128, ey_128⟩ : ∃ q, q = x_47 + 1 := ⟨_, rfl⟩
        have ty_128 : y_128.toInt = x_47.toInt + 1 := xI_add rfl rfl ey_128 ((by first | exact ok_21 f_49.1 | omega)) ((by first | exact ok_285 f_49.2 | omega))
        refine lv_iinc (v := y_128) (lv' := [(8, .int y_128), (7, .int x_15), (5, .long x_16), (0, .ref (a 29)), (1, .ref (a 7)), (2, .ref (a 26)), (3, .int p0), (4, .int p1)]) hx hb dX5_bravest_81 hl (k := 0) rfl (by rw [ey_128]; rfl) (lt_b rfl) rfl (fun ls hl => ?_)
        refine lv_goto (tgt := 61) hx hb dX5_bravest_84 rfl ?_
        exact ih_45 (403 - y_128.toInt : Int).toNat ((by first | (clear ha_p0 ha_p1 f_8 hn_20 f_19 c_21; omega) | omega)) _ _ _ ⟨G_127, y_128, (Int.toNat_of_nonneg ((by first | exact ok_286 hci.1 f_49.2 ty_51 c_52 ty_128 | omega))), ⟨(by first | exact ok_23 f_49.1 ty_128 | omega), (by first | exact ok_287 hci.1 f_49.2 ty_51 c_52 ty_128 | omega)⟩, (hX_48.st (St_k_oBrave_2_3_mk ⟨x_47, G_43, y_128, G_127, rfl, rfl, f_49, hB_G_43, ⟨y_51, ty_51, ⟨c_52, ⟨y_128, ty_128, ⟨rfl, (Fr.putl (rs := [56]) (fs := []) Fr.rf eG_127 (Or.inl (by decide))), rl_ast eG_127⟩⟩⟩⟩⟩)), hW, hB_G_127, hF, (Fr.putl (rs := [56]) (fs := []) (Fr.call9 (rs := [56]) (fs := []) Fr.rf hq_44 rfl rfl) eG_127 (Or.inl (by decide))), hS, lv_sub hl [0, 1, 2, 3, 4, 5, 6, 7] rfl⟩
  · have c_10 : x_6.toInt ≤ (G.1 7 6).toInt := xI_nlt rfl rfl c_10
    refine lv_aload_n hx hb dX5_bravest_15 rfl (lv_at hl 2 rfl) ?_
    refine S_getR (n := 56) (C := RX5) (T := TX5) (N := 7) hx hb hg iX5 hown hK hW kd_29 rfl 4 (lt_b rfl) (hg (Cond.fieldLink RX5 24 "SlabWalk$Odds" "odds" "[J") m468) (fun _ h9 => h9) rfl dX5_bravest_16 ?_
    refine lv_iload hx hb dX5_bravest_19 (lv_at hl 0 rfl) ?_
    refine lv_aload_n hx hb dX5_bravest_21 rfl (lv_at hl 3 rfl) ?_
    refine S_getR (n := 40) (C := RX0) (T := TX0) (N := 8) hx hb hg iX0 hown hK hW kd_7 rfl 0 (lt_b rfl) (hg (Cond.fieldLink RX5 36 "SlabWalk$Course" "lawful" "[Z") m372) (fun _ h9 => h9) rfl dX5_bravest_22 ?_
    refine lv_iload hx hb dX5_bravest_25 (lv_at hl 0 rfl) ?_
    refine S_zald hx hb hK hW kd_40 (vin ((by first | exact f_8.1 | omega)) ((by first | exact ok_220 hci.1 f_8.2 c_10 | omega))) dX5_bravest_27 (fun y_129 ey_129 => ?_)
    have ty_129 : 0 ≤ y_129.toInt ∧ y_129.toInt ≤ 1 := bv_40 hB_G_2 ey_129
    refine lv_if_eq (tgt := 35) hx hb dX5_bravest_28 rfl (fun c_130 => ?_) (fun c_130 => ?_)
    · have c_130 : y_129.toInt = 0 := xI_eq rfl rfl c_130
      refine lv_lconst (v := 0) hx hb dX5_bravest_35 (by decide) ?_
      refine S_last hx hb hK hW hS kd_56 (vin ((by first | exact f_8.1 | omega)) ((by first | exact ok_221 f_8.2 | omega))) dX5_bravest_36 (fun G_131 H locs eG_131 hW hS => ?_)
      have hB_G_131 : Bd G_131 := hB_G_2.putl eG_131
      have hF := hF.putl eG_131 (Or.inl (by decide))
      obtain ⟨y_132, ey_132⟩ : ∃ q, q = x_6 + 1 := ⟨_, rfl⟩
      have ty_132 : y_132.toInt = x_6.toInt + 1 := xI_add rfl rfl ey_132 ((by first | exact ok_21 f_8.1 | omega)) ((by first | exact ok_40 f_8.2 | omega))
      refine lv_iinc (v := y_132) (lv' := [(7, .int y_132), (5, .long 1), (0, .ref (a 29)), (1, .ref (a 7)), (2, .ref (a 26)), (3, .int p0), (4, .int p1)]) hx hb dX5_bravest_37 hl (k := 0) rfl (by rw [ey_132]; rfl) (lt_b rfl) rfl (fun ls hl => ?_)
      refine lv_goto (tgt := 6) hx hb dX5_bravest_40 rfl ?_
      exact ih_4 (400 - y_132.toInt : Int).toNat ((by first | (clear ha_p0 ha_p1 ty_129 c_130; omega) | omega)) _ _ _ ⟨G_131, y_132, (Int.toNat_of_nonneg ((by first | exact ok_222 hci.1 f_8.2 c_10 ty_132 | omega))), ⟨(by first | exact ok_23 f_8.1 ty_132 | omega), (by first | exact ok_223 hci.1 f_8.2 c_10 ty_132 | omega)⟩, (hX_7.st (St_k_oBrave_2_1_mk ⟨x_6, G_2, y_132, G_131, rfl, rfl, f_8, hB_G_2, ⟨c_10, ⟨y_129, ey_129, (Or.inl ⟨c_130, ⟨y_132, ty_132, ⟨rfl, (Fr.putl (rs := [56]) (fs := []) Fr.rf eG_131 (Or.inl (by decide))), rl_ast eG_131⟩⟩⟩)⟩⟩⟩)), hW, hB_G_131, hF, (Fr.putl (rs := [56]) (fs := []) (Fr.call9 (rs := [56]) (fs := []) Fr.rf hq_3 rfl rfl) eG_131 (Or.inl (by decide))), hS, lv_sub hl [0, 1, 2, 3, 4, 5, 6] rfl⟩
    · have c_130 : y_129.toInt ≠ 0 := xI_ne rfl rfl c_130
      refine lv_lconst (v := 1) hx hb dX5_bravest_31 (by decide) ?_
      refine lv_goto (tgt := 36) hx hb dX5_bravest_32 rfl ?_
      refine S_last hx hb hK hW hS kd_56 (vin ((by first | exact f_8.1 | omega)) ((by first | exact ok_221 f_8.2 | omega))) dX5_bravest_36 (fun G_133 H locs eG_133 hW hS => ?_)
      have hB_G_133 : Bd G_133 := hB_G_2.putl eG_133
      have hF := hF.putl eG_133 (Or.inl (by decide))
      obtain ⟨y_134, ey_134⟩ : ∃ q, q = x_6 + 1 := ⟨_, rfl⟩
      have ty_134 : y_134.toInt = x_6.toInt + 1 := xI_add rfl rfl ey_134 ((by first | exact ok_21 f_8.1 | omega)) ((by first | exact ok_40 f_8.2 | omega))
      refine lv_iinc (v := y_134) (lv' := [(7, .int y_134), (5, .long 1), (0, .ref (a 29)), (1, .ref (a 7)), (2, .ref (a 26)), (3, .int p0), (4, .int p1)]) hx hb dX5_bravest_37 hl (k := 0) rfl (by rw [ey_134]; rfl) (lt_b rfl) rfl (fun ls hl => ?_)
      refine lv_goto (tgt := 6) hx hb dX5_bravest_40 rfl ?_
      exact ih_4 (400 - y_134.toInt : Int).toNat ((by first | (clear ha_p0 ha_p1 ty_129 c_130; omega) | omega)) _ _ _ ⟨G_133, y_134, (Int.toNat_of_nonneg ((by first | exact ok_222 hci.1 f_8.2 c_10 ty_134 | omega))), ⟨(by first | exact ok_23 f_8.1 ty_134 | omega), (by first | exact ok_223 hci.1 f_8.2 c_10 ty_134 | omega)⟩, (hX_7.st (St_k_oBrave_2_1_mk ⟨x_6, G_2, y_134, G_133, rfl, rfl, f_8, hB_G_2, ⟨c_10, ⟨y_129, ey_129, (Or.inr ⟨c_130, ⟨y_134, ty_134, ⟨rfl, (Fr.putl (rs := [56]) (fs := []) Fr.rf eG_133 (Or.inl (by decide))), rl_ast eG_133⟩⟩⟩)⟩⟩⟩)), hW, hB_G_133, hF, (Fr.putl (rs := [56]) (fs := []) (Fr.call9 (rs := [56]) (fs := []) Fr.rf hq_3 rfl rfl) eG_133 (Or.inl (by decide))), hS, lv_sub hl [0, 1, 2, 3, 4, 5, 6] rfl⟩
