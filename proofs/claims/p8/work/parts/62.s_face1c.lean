theorem m0 : Cond.selects RX11 yX11_startAnew yX11_startAnew ∈ gd := gds_1 0 rfl
theorem m547 : Cond.methodLink RX11 80 yX11_startAnew ∈ gd := gdc_2_11 15 rfl gw_methodLink
theorem m549 : Cond.instanceMethod yX11_startAnew ∈ gd := gdc_2_12 1 rfl gw_instanceMethod
theorem m550 : Cond.code yX11_startAnew cX11_startAnew 1 none ∈ gd := gdc_2_12 2 rfl gw_code
theorem m571 : Cond.fieldLink RX11 16 "SlabWalk" "spare" "LSlabWalk$Paving;" ∈ gd := gdc_2_13 7 rfl gw_fieldLink
theorem m626 : Cond.methodLink RX11 91 yX7_read ∈ gd := gdc_3_1 14 rfl gw_methodLink
theorem m627 : Cond.instanceMethod yX7_read ∈ gd := gdc_3_1 15 rfl gw_instanceMethod
theorem m628 : Cond.selects RX7 yX7_read yX7_read ∈ gd := gdc_3_2 0 rfl gw_selects
theorem m629 : Cond.code yX7_read cX7_read 5 (some .boolean) ∈ gd := gdc_3_2 1 rfl gw_code
def rbX11_pavement_0 : List (Nat × List Nat) := [(0, [42]), (1, [180, 0, 28]), (4, [42]), (5, [180, 0, 83]), (8, [42]), (9, [180, 0, 16]), (12, [182, 0, 91]), (15, [60]), (16, [42]), (17, [3]), (18, [181, 0, 83]), (21, [27]), (22, [154, 0, 5]), (25, [2]), (26, [172]), (27, [42]), (28, [180, 0, 16]), (31, [77]), (32, [42]), (33, [42]), (34, [180, 0, 10]), (37, [181, 0, 16]), (40, [42]), (41, [44])]
theorem rcX11_pavement_0 : dgo (lb cX11_pavement) 0 rbX11_pavement_0 = true := by decide +kernel
theorem dX11_pavement_0 : decode cX11_pavement 0 = .ok (.aload_n 0, 1) := dk_42 (dw rcX11_pavement_0 0 rfl)
theorem dX11_pavement_1 : decode cX11_pavement 1 = .ok (.getfield 28, 3) := dk_180 (dw rcX11_pavement_0 1 rfl) rfl
theorem dX11_pavement_4 : decode cX11_pavement 4 = .ok (.aload_n 0, 1) := dk_42 (dw rcX11_pavement_0 2 rfl)
theorem dX11_pavement_5 : decode cX11_pavement 5 = .ok (.getfield 83, 3) := dk_180 (dw rcX11_pavement_0 3 rfl) rfl
theorem dX11_pavement_8 : decode cX11_pavement 8 = .ok (.aload_n 0, 1) := dk_42 (dw rcX11_pavement_0 4 rfl)
theorem dX11_pavement_9 : decode cX11_pavement 9 = .ok (.getfield 16, 3) := dk_180 (dw rcX11_pavement_0 5 rfl) rfl
theorem dX11_pavement_12 : decode cX11_pavement 12 = .ok (.invokevirtual 91, 3) := dk_182 (dw rcX11_pavement_0 6 rfl) rfl
theorem dX11_pavement_15 : decode cX11_pavement 15 = .ok (.istore_n 1, 1) := dk_60 (dw rcX11_pavement_0 7 rfl)
theorem dX11_pavement_16 : decode cX11_pavement 16 = .ok (.aload_n 0, 1) := dk_42 (dw rcX11_pavement_0 8 rfl)
theorem dX11_pavement_17 : decode cX11_pavement 17 = .ok (.iconst 0, 1) := dk_3 (dw rcX11_pavement_0 9 rfl)
theorem dX11_pavement_18 : decode cX11_pavement 18 = .ok (.putfield 83, 3) := dk_181 (dw rcX11_pavement_0 10 rfl) rfl
theorem dX11_pavement_21 : decode cX11_pavement 21 = .ok (.iload_n 1, 1) := dk_27 (dw rcX11_pavement_0 11 rfl)
theorem dX11_pavement_22 : decode cX11_pavement 22 = .ok (.ifCond .ne 5, 3) := dk_154 (dw rcX11_pavement_0 12 rfl) rfl
theorem dX11_pavement_25 : decode cX11_pavement 25 = .ok (.iconst (-1), 1) := dk_2 (dw rcX11_pavement_0 13 rfl)
theorem dX11_pavement_26 : decode cX11_pavement 26 = .ok (.ireturn, 1) := dk_172 (dw rcX11_pavement_0 14 rfl)
theorem dX11_pavement_27 : decode cX11_pavement 27 = .ok (.aload_n 0, 1) := dk_42 (dw rcX11_pavement_0 15 rfl)
theorem dX11_pavement_28 : decode cX11_pavement 28 = .ok (.getfield 16, 3) := dk_180 (dw rcX11_pavement_0 16 rfl) rfl
theorem dX11_pavement_31 : decode cX11_pavement 31 = .ok (.astore_n 2, 1) := dk_77 (dw rcX11_pavement_0 17 rfl)
theorem dX11_pavement_32 : decode cX11_pavement 32 = .ok (.aload_n 0, 1) := dk_42 (dw rcX11_pavement_0 18 rfl)
theorem dX11_pavement_33 : decode cX11_pavement 33 = .ok (.aload_n 0, 1) := dk_42 (dw rcX11_pavement_0 19 rfl)
theorem dX11_pavement_34 : decode cX11_pavement 34 = .ok (.getfield 10, 3) := dk_180 (dw rcX11_pavement_0 20 rfl) rfl
theorem dX11_pavement_37 : decode cX11_pavement 37 = .ok (.putfield 16, 3) := dk_181 (dw rcX11_pavement_0 21 rfl) rfl
theorem dX11_pavement_40 : decode cX11_pavement 40 = .ok (.aload_n 0, 1) := dk_42 (dw rcX11_pavement_0 22 rfl)
theorem dX11_pavement_41 : decode cX11_pavement 41 = .ok (.aload_n 2, 1) := dk_44 (dw rcX11_pavement_0 23 rfl)
def rbX11_pavement_42 : List (Nat × List Nat) := [(42, [181, 0, 10]), (45, [42]), (46, [182, 0, 80]), (49, [42]), (50, [180, 0, 10]), (53, [180, 0, 95]), (56, [172])]
theorem rcX11_pavement_42 : dgo (lb cX11_pavement) 0 rbX11_pavement_42 = true := by decide +kernel
theorem dX11_pavement_42 : decode cX11_pavement 42 = .ok (.putfield 10, 3) := dk_181 (dw rcX11_pavement_42 0 rfl) rfl
theorem dX11_pavement_45 : decode cX11_pavement 45 = .ok (.aload_n 0, 1) := dk_42 (dw rcX11_pavement_42 1 rfl)
theorem dX11_pavement_46 : decode cX11_pavement 46 = .ok (.invokevirtual 80, 3) := dk_182 (dw rcX11_pavement_42 2 rfl) rfl
theorem dX11_pavement_49 : decode cX11_pavement 49 = .ok (.aload_n 0, 1) := dk_42 (dw rcX11_pavement_42 3 rfl)
theorem dX11_pavement_50 : decode cX11_pavement 50 = .ok (.getfield 10, 3) := dk_180 (dw rcX11_pavement_42 4 rfl) rfl
theorem dX11_pavement_53 : decode cX11_pavement 53 = .ok (.getfield 95, 3) := dk_180 (dw rcX11_pavement_42 5 rfl) rfl
theorem dX11_pavement_56 : decode cX11_pavement 56 = .ok (.ireturn, 1) := dk_172 (dw rcX11_pavement_42 6 rfl)
set_option maxHeartbeats 4000000 in
set_option maxRecDepth 100000 in
theorem k_Wpavement_1 (l : Launch) (D : va_G) (k : KT) (A : Nat → Prop) (a : Nat → Nat) (z : SK) (G : GS)  (hv_0_0 : G.2.2 0 0 = 1) (hv_0_1 : G.2.2 0 1 = 2) (hv_6_4 : G.2.2 6 4 = 1) (he : (G.1 30 4).toInt + (G.1 30 5).toInt ≤ 40) : Met l yX11_pavement (WS yX11_pavement cX11_pavement 3 (some .int)) ({ frames := 102, cells := 0, slots := 0, locals := 2194 }) (va_Pc [.ref (a 0)] (cW D k A a z G)) (va_Qi (fun (r : Int32) (G1 : GS) => P_Wpavement_1 G r G1) (fun (G1 : GS) t => Wd D k A a G1 t.heap) A) 0 0 A := by
  refine Met.ofW (cc := cX11_pavement) (maxL := 3) (ret := (some .int)) (by decide) rfl ?_
  intro p e s m args below meth c s₁ B hml hv
  obtain ⟨rfl, hW, hB_G, hK, hZ⟩ := hv
  have hx := B.exec
  have hb := B.bytes
  have hr := B.returns
  have hts := atoms_spec (ws := WS yX11_pavement cX11_pavement 3 (some .int)) B.pre
  have hgd : ∀ w ∈ gd, w ∈ WS yX11_pavement cX11_pavement 3 (some .int) := fun w h => List.mem_cons_of_mem _ h
  have hg : ∀ w ∈ gd, w.before _ s = true := fun w h => hts w (hgd w h)
  have hown : s.vm.findClass RX11 = some m.cls := findClass_of_methodNamed B.named
  have hS : va_S A s.heap s.heap [] := va_S.rf
  have hF : Fr [20, 21, 22, 23, 24, 25, 26, 27, 28, 34, 35, 36, 38, 58, 59] [(0, 0), (0, 1), (0, 11), (0, 12), (2, 9), (2, 10), (2, 11), (2, 12), (2, 13), (2, 14), (2, 15), (2, 16), (3, 1), (3, 2), (3, 3), (3, 4), (3, 5), (3, 6), (3, 7), (3, 8), (4, 1), (4, 2), (5, 5), (5, 6), (5, 7), (5, 8), (5, 9), (6, 4), (30, 3), (30, 4), (30, 5), (31, 5)] G G := Fr.rf
  have hl := lv_entry ([.ref (a 0)]) (n := 3) (Nat.le_of_ble_eq_true rfl)
  rw [lg_entry_eq]
  generalize (lg_sl ([.ref (a 0)]) ++ List.replicate (3 - (lg_sl ([.ref (a 0)])).length) Slot.unset).toArray = ls at hl ⊢
  have hl : lv_has ls 3 [(0, .ref (a 0))] := hl
  refine lv_aload_n hx hb dX11_pavement_0 rfl (lv_at hl 0 rfl) ?_
  refine S_getR (n := 5) (C := RX11) (T := TX11) (N := 13) hx hb hg iX11 hown hK hW kd_0 rfl 3 (lt_b rfl) (hg (Cond.fieldLink RX11 28 "SlabWalk" "reader" "LSlabWalk$Reader;") m573) (fun _ h9 => h9) rfl dX11_pavement_1 ?_
  refine lv_aload_n hx hb dX11_pavement_4 rfl (lv_at hl 0 rfl) ?_
  have b_1 : 0 ≤ (G.1 0 11).toInt ∧ (G.1 0 11).toInt ≤ 1600 := bd_0_11 hB_G
  refine S_getI (v := (G.1 0 11)) (C := RX11) (T := TX11) (N := 13) hx hb hg iX11 hown hK hW kd_0 rfl 11 (lt_b rfl) (hg (Cond.fieldLink RX11 83 "SlabWalk" "taped" "I") m581) (fun _ h9 => h9) rfl rfl dX11_pavement_5 ?_
  refine lv_aload_n hx hb dX11_pavement_8 rfl (lv_at hl 0 rfl) ?_
  refine S_getV (n := 2) (C := RX11) (T := TX11) (N := 13) hx hb hg iX11 hown hK hW kd_0 rfl 1 (lt_b rfl) (hg (Cond.fieldLink RX11 16 "SlabWalk" "spare" "LSlabWalk$Paving;") m571) (fun _ h9 => h9) rfl hv_0_1 dX11_pavement_9 ?_
  refine S_calli (va_runV (As := [.int (G.1 0 11), .ref (a 2)]) (rest := []) ⟨hx, hb, hml, hown, hts⟩ (k_rRead_2 l D k A a z G (G.1 0 11) ⟨by omega, by omega⟩) (cwV 2 hts (gd_V hgd m626 m627 m628 m119 m629) rfl rfl rfl hd_X7_read ⟨Nat.le_of_ble_eq_true rfl, Nat.le_of_ble_eq_true rfl⟩) (pre_W hW hB_G hK hZ hS kd_5 rfl) rfl rfl hl.1 rfl (lv_room (Nat.le_of_ble_eq_true rfl)) dX11_pavement_12 ⟨Nat.le_of_ble_eq_true rfl, Nat.le_of_ble_eq_true rfl⟩) hS (fun r_2 G_3 H locs hpo hW hS => ?_)
  have hX_6 : P_rRead_2 (G.1 0 11) G r_2 G_3 := hpo
  obtain ⟨hB_G_3, hq_4, f_7, -⟩ := hpo
  have hF := hF.call9 hq_4 rfl rfl
  refine lv_istore_n (lv' := [(1, .int r_2), (0, .ref (a 0))]) hx hb dX11_pavement_15 rfl hl (lt_b rfl) rfl (fun ls hl => ?_)
  refine lv_aload_n hx hb dX11_pavement_16 rfl (lv_at hl 1 rfl) ?_
  refine ic_0 hx hb dX11_pavement_17 ?_
  refine S_putI (ty := .int) (C := RX11) (T := TX11) (N := 13) hx hb hg iX11 tyX11 tyX11_ok nmX11 hown hK hW hS kd_0 rfl 11 (lt_b rfl) (hg (Cond.fieldLink RX11 83 "SlabWalk" "taped" "I") m581) (fun _ h9 => h9) rfl (by decide +kernel) rfl rfl rfl dX11_pavement_18 (fun G_8 H locs eG_8 hW hS => ?_)
  have hB_G_8 : Bd G_8 := hB_G_3.put (V := 0) (lo := 0) (hi := 1600) eG_8 rfl rfl rfl (by decide) (by decide) (hB_G_3.2.put eG_8 rfl)
  have hF := hF.put eG_8 (Or.inr (by decide))
  refine lv_iload_n hx hb dX11_pavement_21 rfl (lv_at hl 0 rfl) ?_
  refine lv_if_ne (tgt := 27) hx hb dX11_pavement_22 rfl (fun c_9 => ?_) (fun c_9 => ?_)
  · have c_9 : r_2.toInt ≠ 0 := xI_ne rfl rfl c_9
    refine lv_aload_n hx hb dX11_pavement_27 rfl (lv_at hl 1 rfl) ?_
    refine S_getV (n := 2) (C := RX11) (T := TX11) (N := 13) hx hb hg iX11 hown hK hW kd_0 rfl 1 (lt_b rfl) (hg (Cond.fieldLink RX11 16 "SlabWalk" "spare" "LSlabWalk$Paving;") m571) (fun _ h9 => h9) rfl ((((congrFun (congrFun (congrArg (fun q => q.2.2) eG_8) 0) 1).trans (hq_4.r9 0 1 rfl rfl))).trans (hv_0_1)) dX11_pavement_28 ?_
    refine lv_astore_n (lv' := [(2, .ref (a 2)), (1, .int r_2), (0, .ref (a 0))]) hx hb dX11_pavement_31 rfl hl (lt_b rfl) rfl (fun ls hl => ?_)
    refine lv_aload_n hx hb dX11_pavement_32 rfl (lv_at hl 2 rfl) ?_
    refine lv_aload_n hx hb dX11_pavement_33 rfl (lv_at hl 2 rfl) ?_
    refine S_getV (n := 1) (C := RX11) (T := TX11) (N := 13) hx hb hg iX11 hown hK hW kd_0 rfl 0 (lt_b rfl) (hg (Cond.fieldLink RX11 10 "SlabWalk" "paving" "LSlabWalk$Paving;") m570) (fun _ h9 => h9) rfl ((((congrFun (congrFun (congrArg (fun q => q.2.2) eG_8) 0) 0).trans (hq_4.r9 0 0 rfl rfl))).trans (hv_0_0)) dX11_pavement_34 ?_
    refine S_putV (ty := .object "SlabWalk$Paving") (n := 1) (C := RX11) (T := TX11) (N := 13) hx hb hg iX11 tyX11 tyX11_ok nmX11 hown hK hW hS kd_0 rfl 1 (lt_b rfl) (hg (Cond.fieldLink RX11 16 "SlabWalk" "spare" "LSlabWalk$Paving;") m571) (fun _ h9 => h9) rfl (by decide +kernel) rfl rfl rfl dX11_pavement_37 (fun G_10 H locs eG_10 hW hS => ?_)
    have hB_G_10 : Bd G_10 := hB_G_8.putr eG_10 (by decide) (by decide)
    have hF := hF.putr eG_10 (Or.inr (by decide))
    refine lv_aload_n hx hb dX11_pavement_40 rfl (lv_at hl 2 rfl) ?_
    refine lv_aload_n hx hb dX11_pavement_41 rfl (lv_at hl 0 rfl) ?_
    refine S_putV (ty := .object "SlabWalk$Paving") (n := 2) (C := RX11) (T := TX11) (N := 13) hx hb hg iX11 tyX11 tyX11_ok nmX11 hown hK hW hS kd_0 rfl 0 (lt_b rfl) (hg (Cond.fieldLink RX11 10 "SlabWalk" "paving" "LSlabWalk$Paving;") m570) (fun _ h9 => h9) rfl (by decide +kernel) rfl rfl rfl dX11_pavement_42 (fun G_11 H locs eG_11 hW hS => ?_)
    have hB_G_11 : Bd G_11 := hB_G_10.putr eG_11 (by decide) (by decide)
    have hF := hF.putr eG_11 (Or.inr (by decide))
    refine lv_aload_n hx hb dX11_pavement_45 rfl (lv_at hl 2 rfl) ?_
    refine S_callv (va_runV (As := []) (rest := []) ⟨hx, hb, hml, hown, hts⟩ (k_wStart_2 l D k A a z G_11  (gp_re eG_11)) (cwV 0 hts (gd_V hgd m547 m549 m0 m117 m550) rfl rfl rfl hd_X11_startAnew ⟨Nat.le_of_ble_eq_true rfl, Nat.le_of_ble_eq_true rfl⟩) (pre_W hW hB_G_11 hK hZ hS kd_0 rfl) rfl rfl hl.1 rfl (lv_room (Nat.le_of_ble_eq_true rfl)) dX11_pavement_46 ⟨Nat.le_of_ble_eq_true rfl, Nat.le_of_ble_eq_true rfl⟩) hS (fun G_13 H locs hpo hW hS => ?_)
    have hX_16 : P_wStart_2 G_11 G_13 := hpo
    obtain ⟨hB_G_13, hq_14, hp_15, -⟩ := hpo
    have hF := hF.call9 hq_14 rfl rfl
    refine lv_aload_n hx hb dX11_pavement_49 rfl (lv_at hl 2 rfl) ?_
    refine S_getV (n := 2) (C := RX11) (T := TX11) (N := 13) hx hb hg iX11 hown hK hW kd_0 rfl 0 (lt_b rfl) (hg (Cond.fieldLink RX11 10 "SlabWalk" "paving" "LSlabWalk$Paving;") m570) (fun _ h9 => h9) rfl ((hq_14.r9 0 0 rfl rfl).trans (gp_re eG_11)) dX11_pavement_50 ?_
    have b_17 : 0 ≤ (G_3.1 2 9).toInt ∧ (G_3.1 2 9).toInt ≤ 3 := bd_2_9 hB_G_3
    refine S_getI (v := (G_3.1 2 9)) (C := RX6) (T := TX6) (N := 17) hx hb hg iX6 hown hK hW kd_2 rfl 9 (lt_b rfl) (hg (Cond.fieldLink RX11 95 "SlabWalk$Paving" "streets" "I") m187) (fun _ h9 => h9) rfl ((hq_14.i9 2 9 rfl rfl).trans ((congrFun (congrFun (gp_r eG_11).1 2) 9).trans ((congrFun (congrFun (gp_r eG_10).1 2) 9).trans (gp_ne eG_8 (by decide))))) dX11_pavement_53 ?_
    have g_18 : (G_13.1 0 11).toInt = 0 := (congrArg Int32.toInt (show G_13.1 0 11 = 0 from ((hq_14.i9 0 11 rfl rfl).trans ((congrFun (congrFun (gp_r eG_11).1 0) 11).trans ((congrFun (congrFun (gp_r eG_10).1 0) 11).trans (gp_eq eG_8)))))).trans rfl
    have b_19 : 0 ≤ (G_13.1 30 4).toInt ∧ (G_13.1 30 4).toInt ≤ 40 := bd_30_4 hB_G_13
    have b_20 : 0 ≤ (G_13.1 30 5).toInt ∧ (G_13.1 30 5).toInt ≤ 40 := bd_30_5 hB_G_13
    exact W.iret (v := (G_3.1 2 9)) hx hb hr (fun t ht _ => ⟨⟨(G_3.1 2 9), G_13, rfl, (P_Wpavement_1_mk ⟨hB_G_13, hF, (⟨by omega, by omega, Or.inr ⟨((hq_14.r9 0 0 rfl rfl).trans (gp_re eG_11)), ((hq_14.r9 0 1 rfl rfl).trans ((gp_rn eG_11 (by decide)).trans (gp_re eG_10))), hp_15.2⟩⟩), ⟨r_2, G_3, hX_6, (Or.inr ⟨c_9, ⟨G_11, hB_G_11, (Fr.putr (rs := []) (fs := [(0, 0), (0, 1), (0, 11)]) (Fr.putr (rs := []) (fs := [(0, 0), (0, 1), (0, 11)]) (Fr.put (rs := []) (fs := [(0, 0), (0, 1), (0, 11)]) Fr.rf eG_8 (Or.inr (by decide))) eG_10 (Or.inr (by decide))) eG_11 (Or.inr (by decide))), (gp_re eG_11), ((gp_rn eG_11 (by decide)).trans (gp_re eG_10)), ((congrFun (congrFun (gp_r eG_11).1 0) 11).trans ((congrFun (congrFun (gp_r eG_10).1 0) 11).trans (gp_eq eG_8))), ⟨G_13, hX_16, ⟨rfl, rfl⟩⟩⟩⟩)⟩⟩), wd_t ht hW⟩, hS.F ht⟩) hS.2.2 dX11_pavement_56
  · have c_9 : r_2.toInt = 0 := xI_eq rfl rfl c_9
    refine ic_m1 hx hb dX11_pavement_25 ?_
    have g_21 : (G_8.1 0 11).toInt = 0 := (congrArg Int32.toInt (show G_8.1 0 11 = 0 from (gp_eq eG_8))).trans rfl
    have b_22 : 0 ≤ (G.1 30 4).toInt ∧ (G.1 30 4).toInt ≤ 40 := bd_30_4 hB_G
    have g_23 : (G_8.1 30 4).toInt = (G.1 30 4).toInt := (congrArg Int32.toInt (show G_8.1 30 4 = (G.1 30 4) from ((gp_ne eG_8 (by decide)).trans (hq_4.i9 30 4 rfl rfl))))
    have b_24 : 0 ≤ (G.1 30 5).toInt ∧ (G.1 30 5).toInt ≤ 40 := bd_30_5 hB_G
    have g_25 : (G_8.1 30 5).toInt = (G.1 30 5).toInt := (congrArg Int32.toInt (show G_8.1 30 5 = (G.1 30 5) from ((gp_ne eG_8 (by decide)).trans (hq_4.i9 30 5 rfl rfl))))
    exact W.iret (v := (-1)) hx hb hr (fun t ht _ => ⟨⟨(-1), G_8, rfl, (P_Wpavement_1_mk ⟨hB_G_8, hF, (⟨by omega, by omega, Or.inl ⟨(((congrFun (congrFun (congrArg (fun q => q.2.2) eG_8) 0) 0).trans (hq_4.r9 0 0 rfl rfl))).trans hv_0_0, (((congrFun (congrFun (congrArg (fun q => q.2.2) eG_8) 0) 1).trans (hq_4.r9 0 1 rfl rfl))).trans hv_0_1, (((congrFun (congrFun (congrArg (fun q => q.2.2) eG_8) 6) 4).trans (hq_4.r9 6 4 rfl rfl))).trans hv_6_4⟩⟩), ⟨r_2, G_3, hX_6, (Or.inl ⟨c_9, ⟨rfl, (Fr.put (rs := []) (fs := [(0, 11)]) Fr.rf eG_8 (Or.inr (by decide))), (gp_eq eG_8)⟩⟩)⟩⟩), wd_t ht hW⟩, hS.F ht⟩) hS.2.2 dX11_pavement_26
