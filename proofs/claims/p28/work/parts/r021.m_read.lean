theorem m52 : Cond.selects RX12 yX12_readLine yX12_readLine ∈ gd := gds_4 4 rfl
theorem m1619 : Cond.methodLink RX12 419 yX12_readLine ∈ gd := gdc_7_3 15 rfl gw_methodLink
theorem m1621 : Cond.instanceMethod yX12_readLine ∈ gd := gdc_7_4 1 rfl gw_instanceMethod
theorem m1622 : Cond.code yX12_readLine cX12_readLine 1 none ∈ gd := gdc_7_4 2 rfl gw_code
noncomputable def rbX12_readAll_0 : List (Nat × List Nat) := [(0, [42]), (1, [42]), (2, [180, 0, 178]), (5, [181, 0, 188]), (8, [42]), (9, [3]), (10, [181, 0, 178]), (13, [42]), (14, [3]), (15, [181, 0, 185]), (18, [42]), (19, [3]), (20, [181, 0, 218]), (23, [42]), (24, [2]), (25, [181, 0, 13]), (28, [42]), (29, [3]), (30, [181, 1, 103]), (33, [42]), (34, [3]), (35, [181, 1, 123]), (38, [42]), (39, [3])]
theorem rcX12_readAll_0 : dgo (lb cX12_readAll) 0 rbX12_readAll_0 = true := by decide +kernel
theorem dX12_readAll_0 : decode cX12_readAll 0 = .ok (.aload_n 0, 1) := dk_42 (dw rcX12_readAll_0 0 rfl)
theorem dX12_readAll_1 : decode cX12_readAll 1 = .ok (.aload_n 0, 1) := dk_42 (dw rcX12_readAll_0 1 rfl)
theorem dX12_readAll_2 : decode cX12_readAll 2 = .ok (.getfield 178, 3) := dk_180 (dw rcX12_readAll_0 2 rfl) rfl
theorem dX12_readAll_5 : decode cX12_readAll 5 = .ok (.putfield 188, 3) := dk_181 (dw rcX12_readAll_0 3 rfl) rfl
theorem dX12_readAll_8 : decode cX12_readAll 8 = .ok (.aload_n 0, 1) := dk_42 (dw rcX12_readAll_0 4 rfl)
theorem dX12_readAll_9 : decode cX12_readAll 9 = .ok (.iconst 0, 1) := dk_3 (dw rcX12_readAll_0 5 rfl)
theorem dX12_readAll_10 : decode cX12_readAll 10 = .ok (.putfield 178, 3) := dk_181 (dw rcX12_readAll_0 6 rfl) rfl
theorem dX12_readAll_13 : decode cX12_readAll 13 = .ok (.aload_n 0, 1) := dk_42 (dw rcX12_readAll_0 7 rfl)
theorem dX12_readAll_14 : decode cX12_readAll 14 = .ok (.iconst 0, 1) := dk_3 (dw rcX12_readAll_0 8 rfl)
theorem dX12_readAll_15 : decode cX12_readAll 15 = .ok (.putfield 185, 3) := dk_181 (dw rcX12_readAll_0 9 rfl) rfl
theorem dX12_readAll_18 : decode cX12_readAll 18 = .ok (.aload_n 0, 1) := dk_42 (dw rcX12_readAll_0 10 rfl)
theorem dX12_readAll_19 : decode cX12_readAll 19 = .ok (.iconst 0, 1) := dk_3 (dw rcX12_readAll_0 11 rfl)
theorem dX12_readAll_20 : decode cX12_readAll 20 = .ok (.putfield 218, 3) := dk_181 (dw rcX12_readAll_0 12 rfl) rfl
theorem dX12_readAll_23 : decode cX12_readAll 23 = .ok (.aload_n 0, 1) := dk_42 (dw rcX12_readAll_0 13 rfl)
theorem dX12_readAll_24 : decode cX12_readAll 24 = .ok (.iconst (-1), 1) := dk_2 (dw rcX12_readAll_0 14 rfl)
theorem dX12_readAll_25 : decode cX12_readAll 25 = .ok (.putfield 13, 3) := dk_181 (dw rcX12_readAll_0 15 rfl) rfl
theorem dX12_readAll_28 : decode cX12_readAll 28 = .ok (.aload_n 0, 1) := dk_42 (dw rcX12_readAll_0 16 rfl)
theorem dX12_readAll_29 : decode cX12_readAll 29 = .ok (.iconst 0, 1) := dk_3 (dw rcX12_readAll_0 17 rfl)
theorem dX12_readAll_30 : decode cX12_readAll 30 = .ok (.putfield 359, 3) := dk_181 (dw rcX12_readAll_0 18 rfl) rfl
theorem dX12_readAll_33 : decode cX12_readAll 33 = .ok (.aload_n 0, 1) := dk_42 (dw rcX12_readAll_0 19 rfl)
theorem dX12_readAll_34 : decode cX12_readAll 34 = .ok (.iconst 0, 1) := dk_3 (dw rcX12_readAll_0 20 rfl)
theorem dX12_readAll_35 : decode cX12_readAll 35 = .ok (.putfield 379, 3) := dk_181 (dw rcX12_readAll_0 21 rfl) rfl
theorem dX12_readAll_38 : decode cX12_readAll 38 = .ok (.aload_n 0, 1) := dk_42 (dw rcX12_readAll_0 22 rfl)
theorem dX12_readAll_39 : decode cX12_readAll 39 = .ok (.iconst 0, 1) := dk_3 (dw rcX12_readAll_0 23 rfl)
noncomputable def rbX12_readAll_40 : List (Nat × List Nat) := [(40, [181, 1, 129]), (43, [42]), (44, [180, 0, 72]), (47, [3]), (48, [3]), (49, [79]), (50, [42]), (51, [180, 0, 72]), (54, [4]), (55, [4]), (56, [79]), (57, [42]), (58, [180, 0, 72]), (61, [5]), (62, [3]), (63, [79]), (64, [42]), (65, [16, 30]), (67, [181, 1, 154]), (70, [42]), (71, [16, 10]), (73, [181, 1, 157]), (76, [42]), (77, [3])]
theorem rcX12_readAll_40 : dgo (lb cX12_readAll) 0 rbX12_readAll_40 = true := by decide +kernel
theorem dX12_readAll_40 : decode cX12_readAll 40 = .ok (.putfield 385, 3) := dk_181 (dw rcX12_readAll_40 0 rfl) rfl
theorem dX12_readAll_43 : decode cX12_readAll 43 = .ok (.aload_n 0, 1) := dk_42 (dw rcX12_readAll_40 1 rfl)
theorem dX12_readAll_44 : decode cX12_readAll 44 = .ok (.getfield 72, 3) := dk_180 (dw rcX12_readAll_40 2 rfl) rfl
theorem dX12_readAll_47 : decode cX12_readAll 47 = .ok (.iconst 0, 1) := dk_3 (dw rcX12_readAll_40 3 rfl)
theorem dX12_readAll_48 : decode cX12_readAll 48 = .ok (.iconst 0, 1) := dk_3 (dw rcX12_readAll_40 4 rfl)
theorem dX12_readAll_49 : decode cX12_readAll 49 = .ok (.iastore, 1) := dk_79 (dw rcX12_readAll_40 5 rfl)
theorem dX12_readAll_50 : decode cX12_readAll 50 = .ok (.aload_n 0, 1) := dk_42 (dw rcX12_readAll_40 6 rfl)
theorem dX12_readAll_51 : decode cX12_readAll 51 = .ok (.getfield 72, 3) := dk_180 (dw rcX12_readAll_40 7 rfl) rfl
theorem dX12_readAll_54 : decode cX12_readAll 54 = .ok (.iconst 1, 1) := dk_4 (dw rcX12_readAll_40 8 rfl)
theorem dX12_readAll_55 : decode cX12_readAll 55 = .ok (.iconst 1, 1) := dk_4 (dw rcX12_readAll_40 9 rfl)
theorem dX12_readAll_56 : decode cX12_readAll 56 = .ok (.iastore, 1) := dk_79 (dw rcX12_readAll_40 10 rfl)
theorem dX12_readAll_57 : decode cX12_readAll 57 = .ok (.aload_n 0, 1) := dk_42 (dw rcX12_readAll_40 11 rfl)
theorem dX12_readAll_58 : decode cX12_readAll 58 = .ok (.getfield 72, 3) := dk_180 (dw rcX12_readAll_40 12 rfl) rfl
theorem dX12_readAll_61 : decode cX12_readAll 61 = .ok (.iconst 2, 1) := dk_5 (dw rcX12_readAll_40 13 rfl)
theorem dX12_readAll_62 : decode cX12_readAll 62 = .ok (.iconst 0, 1) := dk_3 (dw rcX12_readAll_40 14 rfl)
theorem dX12_readAll_63 : decode cX12_readAll 63 = .ok (.iastore, 1) := dk_79 (dw rcX12_readAll_40 15 rfl)
theorem dX12_readAll_64 : decode cX12_readAll 64 = .ok (.aload_n 0, 1) := dk_42 (dw rcX12_readAll_40 16 rfl)
theorem dX12_readAll_65 : decode cX12_readAll 65 = .ok (.bipush 30, 2) := dk_16 (dw rcX12_readAll_40 17 rfl) rfl
theorem dX12_readAll_67 : decode cX12_readAll 67 = .ok (.putfield 410, 3) := dk_181 (dw rcX12_readAll_40 18 rfl) rfl
theorem dX12_readAll_70 : decode cX12_readAll 70 = .ok (.aload_n 0, 1) := dk_42 (dw rcX12_readAll_40 19 rfl)
theorem dX12_readAll_71 : decode cX12_readAll 71 = .ok (.bipush 10, 2) := dk_16 (dw rcX12_readAll_40 20 rfl) rfl
theorem dX12_readAll_73 : decode cX12_readAll 73 = .ok (.putfield 413, 3) := dk_181 (dw rcX12_readAll_40 21 rfl) rfl
theorem dX12_readAll_76 : decode cX12_readAll 76 = .ok (.aload_n 0, 1) := dk_42 (dw rcX12_readAll_40 22 rfl)
theorem dX12_readAll_77 : decode cX12_readAll 77 = .ok (.iconst 0, 1) := dk_3 (dw rcX12_readAll_40 23 rfl)
noncomputable def rbX12_readAll_78 : List (Nat × List Nat) := [(78, [181, 1, 160]), (81, [42]), (82, [3]), (83, [181, 1, 135]), (86, [42]), (87, [3]), (88, [181, 1, 56]), (91, [42]), (92, [182, 1, 23]), (95, [42]), (96, [180, 0, 218]), (99, [154, 0, 17]), (102, [42]), (103, [180, 0, 205]), (106, [153, 0, 10]), (109, [42]), (110, [182, 1, 163]), (113, [167, 255, 238]), (116, [177])]
theorem rcX12_readAll_78 : dgo (lb cX12_readAll) 0 rbX12_readAll_78 = true := by decide +kernel
theorem dX12_readAll_78 : decode cX12_readAll 78 = .ok (.putfield 416, 3) := dk_181 (dw rcX12_readAll_78 0 rfl) rfl
theorem dX12_readAll_81 : decode cX12_readAll 81 = .ok (.aload_n 0, 1) := dk_42 (dw rcX12_readAll_78 1 rfl)
theorem dX12_readAll_82 : decode cX12_readAll 82 = .ok (.iconst 0, 1) := dk_3 (dw rcX12_readAll_78 2 rfl)
theorem dX12_readAll_83 : decode cX12_readAll 83 = .ok (.putfield 391, 3) := dk_181 (dw rcX12_readAll_78 3 rfl) rfl
theorem dX12_readAll_86 : decode cX12_readAll 86 = .ok (.aload_n 0, 1) := dk_42 (dw rcX12_readAll_78 4 rfl)
theorem dX12_readAll_87 : decode cX12_readAll 87 = .ok (.iconst 0, 1) := dk_3 (dw rcX12_readAll_78 5 rfl)
theorem dX12_readAll_88 : decode cX12_readAll 88 = .ok (.putfield 312, 3) := dk_181 (dw rcX12_readAll_78 6 rfl) rfl
theorem dX12_readAll_91 : decode cX12_readAll 91 = .ok (.aload_n 0, 1) := dk_42 (dw rcX12_readAll_78 7 rfl)
theorem dX12_readAll_92 : decode cX12_readAll 92 = .ok (.invokevirtual 279, 3) := dk_182 (dw rcX12_readAll_78 8 rfl) rfl
theorem dX12_readAll_95 : decode cX12_readAll 95 = .ok (.aload_n 0, 1) := dk_42 (dw rcX12_readAll_78 9 rfl)
theorem dX12_readAll_96 : decode cX12_readAll 96 = .ok (.getfield 218, 3) := dk_180 (dw rcX12_readAll_78 10 rfl) rfl
theorem dX12_readAll_99 : decode cX12_readAll 99 = .ok (.ifCond .ne 17, 3) := dk_154 (dw rcX12_readAll_78 11 rfl) rfl
theorem dX12_readAll_102 : decode cX12_readAll 102 = .ok (.aload_n 0, 1) := dk_42 (dw rcX12_readAll_78 12 rfl)
theorem dX12_readAll_103 : decode cX12_readAll 103 = .ok (.getfield 205, 3) := dk_180 (dw rcX12_readAll_78 13 rfl) rfl
theorem dX12_readAll_106 : decode cX12_readAll 106 = .ok (.ifCond .eq 10, 3) := dk_153 (dw rcX12_readAll_78 14 rfl) rfl
theorem dX12_readAll_109 : decode cX12_readAll 109 = .ok (.aload_n 0, 1) := dk_42 (dw rcX12_readAll_78 15 rfl)
theorem dX12_readAll_110 : decode cX12_readAll 110 = .ok (.invokevirtual 419, 3) := dk_182 (dw rcX12_readAll_78 16 rfl) rfl
theorem dX12_readAll_113 : decode cX12_readAll 113 = .ok (.goto (-18), 3) := dk_167 (dw rcX12_readAll_78 17 rfl) rfl
theorem dX12_readAll_116 : decode cX12_readAll 116 = .ok (.return_, 1) := dk_177 (dw rcX12_readAll_78 18 rfl)
set_option maxHeartbeats 4000000 in
set_option maxRecDepth 100000 in
theorem n_readAll (l : Launch) (D : va_G) (k : KT) (A : Nat → Prop) (a : Nat → Nat) (z : SK) (G : GS)   : Met l yX12_readAll (WS yX12_readAll cX12_readAll 1 none) ({ frames := 7, cells := 0, slots := 0, locals := 149 }) (va_Pc [.ref (a 66)] (cW D k A a z G)) (va_Qv (fun (G1 : GS) => Q_readAll G G1) (fun (G1 : GS) t => Wd D k A a G1 t.heap) A) 0 0 A := by
  refine Met.ofW (cc := cX12_readAll) (maxL := 1) (ret := none) (by decide) rfl ?_
  intro p e s m args below meth c s₁ B hml hv
  obtain ⟨rfl, hW, hB_G, hK, hZ⟩ := hv
  have hx := B.exec
  have hb := B.bytes
  have hr := B.returns
  have hts := atoms_spec (ws := WS yX12_readAll cX12_readAll 1 none) B.pre
  have hgd : ∀ w ∈ gd, w ∈ WS yX12_readAll cX12_readAll 1 none := fun w h => List.mem_cons_of_mem _ h
  have hg : ∀ w ∈ gd, w.before _ s = true := fun w h => hts w (hgd w h)
  have hown : s.vm.findClass RX12 = some m.cls := findClass_of_methodNamed B.named
  have hS : va_S A s.heap s.heap [] := va_S.rf
  have hF : Fr [68, 69, 70, 71, 75, 77, 78, 79, 80, 81, 82, 83, 84, 85, 86] [(66, 1), (66, 2), (66, 3), (66, 4), (66, 5), (66, 6), (66, 7), (66, 8), (66, 9), (66, 19), (66, 20), (66, 21), (66, 23), (66, 24), (66, 45), (66, 46), (66, 47), (66, 48), (66, 49), (66, 50), (66, 51)] G G := Fr.rf
  have hl := lv_entry ([.ref (a 66)]) (n := 1) (Nat.le_of_ble_eq_true rfl)
  rw [lg_entry_eq]
  generalize (lg_sl ([.ref (a 66)]) ++ List.replicate (1 - (lg_sl ([.ref (a 66)])).length) Slot.unset).toArray = ls at hl ⊢
  have hl : lv_has ls 1 [(0, .ref (a 66))] := hl
  refine lv_aload_n hx hb dX12_readAll_0 rfl (lv_at hl 0 rfl) ?_
  refine lv_aload_n hx hb dX12_readAll_1 rfl (lv_at hl 0 rfl) ?_
  have b_1 : 0 ≤ (G.1 66 1).toInt ∧ (G.1 66 1).toInt ≤ 1600 := bd_66_1 hB_G
  refine S_getI (v := (G.1 66 1)) (C := RX12) (T := TX12) (N := 89) hx hb hg iX12 hown hK hW kd_66 rfl 1 (lt_b rfl) (hg (Cond.fieldLink RX12 178 "SlabWalkModel" "taped" "I") m1315) (fun _ h9 => h9) rfl rfl dX12_readAll_2 ?_
  refine S_putI (ty := .int) (C := RX12) (T := TX12) (N := 89) hx hb hg iX12 tyX12 tyX12_ok nmX12 hown hK hW hS kd_66 rfl 5 (lt_b rfl) (hg (Cond.fieldLink RX12 188 "SlabWalkModel" "size" "I") m1319) (fun _ h9 => h9) rfl (by decide +kernel) rfl rfl rfl dX12_readAll_5 (fun G_2 H locs eG_2 hW hS => ?_)
  have hB_G_2 : Bd G_2 := hB_G.put (V := (G.1 66 1).toInt) (lo := 0) (hi := 1600) eG_2 rfl rfl rfl ((by first | exact b_1.1 | omega)) ((by first | exact b_1.2 | omega)) (hB_G.2.put eG_2 rfl)
  have hF := hF.put eG_2 (Or.inr (by decide))
  refine lv_aload_n hx hb dX12_readAll_8 rfl (lv_at hl 0 rfl) ?_
  refine ic_0 hx hb dX12_readAll_9 ?_
  refine S_putI (ty := .int) (C := RX12) (T := TX12) (N := 89) hx hb hg iX12 tyX12 tyX12_ok nmX12 hown hK hW hS kd_66 rfl 1 (lt_b rfl) (hg (Cond.fieldLink RX12 178 "SlabWalkModel" "taped" "I") m1315) (fun _ h9 => h9) rfl (by decide +kernel) rfl rfl rfl dX12_readAll_10 (fun G_3 H locs eG_3 hW hS => ?_)
  have hB_G_3 : Bd G_3 := hB_G_2.put (V := 0) (lo := 0) (hi := 1600) eG_3 rfl rfl rfl (by decide) (by decide) (hB_G_2.2.put eG_3 rfl)
  have hF := hF.put eG_3 (Or.inr (by decide))
  refine lv_aload_n hx hb dX12_readAll_13 rfl (lv_at hl 0 rfl) ?_
  refine ic_0 hx hb dX12_readAll_14 ?_
  refine S_putI (ty := .int) (C := RX12) (T := TX12) (N := 89) hx hb hg iX12 tyX12 tyX12_ok nmX12 hown hK hW hS kd_66 rfl 4 (lt_b rfl) (hg (Cond.fieldLink RX12 185 "SlabWalkModel" "at" "I") m1318) (fun _ h9 => h9) rfl (by decide +kernel) rfl rfl rfl dX12_readAll_15 (fun G_4 H locs eG_4 hW hS => ?_)
  have hB_G_4 : Bd G_4 := hB_G_3.put (V := 0) (lo := 0) (hi := 1600) eG_4 rfl rfl rfl (by decide) (by decide) (hB_G_3.2.put eG_4 rfl)
  have hF := hF.put eG_4 (Or.inr (by decide))
  refine lv_aload_n hx hb dX12_readAll_18 rfl (lv_at hl 0 rfl) ?_
  refine ic_0 hx hb dX12_readAll_19 ?_
  refine S_putI (ty := .int) (C := RX12) (T := TX12) (N := 89) hx hb hg iX12 tyX12 tyX12_ok nmX12 hown hK hW hS kd_66 rfl 2 (lt_b rfl) (hg (Cond.fieldLink RX12 218 "SlabWalkModel" "fault" "I") m1316) (fun _ h9 => h9) rfl (by decide +kernel) rfl rfl rfl dX12_readAll_20 (fun G_5 H locs eG_5 hW hS => ?_)
  have hB_G_5 : Bd G_5 := hB_G_4.put (V := 0) (lo := 0) (hi := 4) eG_5 rfl rfl rfl (by decide) (by decide) (hB_G_4.2.put eG_5 rfl)
  have hF := hF.put eG_5 (Or.inr (by decide))
  refine lv_aload_n hx hb dX12_readAll_23 rfl (lv_at hl 0 rfl) ?_
  refine ic_m1 hx hb dX12_readAll_24 ?_
  refine S_putI (ty := .int) (C := RX12) (T := TX12) (N := 89) hx hb hg iX12 tyX12 tyX12_ok nmX12 hown hK hW hS kd_66 rfl 3 (lt_b rfl) (hg (Cond.fieldLink RX12 13 "SlabWalkModel" "faultPlace" "I") m1317) (fun _ h9 => h9) rfl (by decide +kernel) rfl rfl rfl dX12_readAll_25 (fun G_6 H locs eG_6 hW hS => ?_)
  have hB_G_6 : Bd G_6 := hB_G_5.put (V := (-1)) (lo := (-1)) (hi := 1600) eG_6 rfl rfl rfl (by decide) (by decide) (hB_G_5.2.put eG_6 rfl)
  have hF := hF.put eG_6 (Or.inr (by decide))
  refine lv_aload_n hx hb dX12_readAll_28 rfl (lv_at hl 0 rfl) ?_
  refine ic_0 hx hb dX12_readAll_29 ?_
  refine S_putI (ty := .int) (C := RX12) (T := TX12) (N := 89) hx hb hg iX12 tyX12 tyX12_ok nmX12 hown hK hW hS kd_66 rfl 45 (lt_b rfl) (hg (Cond.fieldLink RX12 359 "SlabWalkModel" "nStreets" "I") m1359) (fun _ h9 => h9) rfl (by decide +kernel) rfl rfl rfl dX12_readAll_30 (fun G_7 H locs eG_7 hW hS => ?_)
  have hB_G_7 : Bd G_7 := hB_G_6.put (V := 0) (lo := 0) (hi := 3) eG_7 rfl rfl rfl (by decide) (by decide) (hB_G_6.2.put eG_7 rfl)
  have hF := hF.put eG_7 (Or.inr (by decide))
  refine lv_aload_n hx hb dX12_readAll_33 rfl (lv_at hl 0 rfl) ?_
  refine ic_0 hx hb dX12_readAll_34 ?_
  refine S_putI (ty := .int) (C := RX12) (T := TX12) (N := 89) hx hb hg iX12 tyX12 tyX12_ok nmX12 hown hK hW hS kd_66 rfl 46 (lt_b rfl) (hg (Cond.fieldLink RX12 379 "SlabWalkModel" "nWalkers" "I") m1360) (fun _ h9 => h9) rfl (by decide +kernel) rfl rfl rfl dX12_readAll_35 (fun G_8 H locs eG_8 hW hS => ?_)
  have hB_G_8 : Bd G_8 := hB_G_7.put (V := 0) (lo := 0) (hi := 4) eG_8 rfl rfl rfl (by decide) (by decide) (hB_G_7.2.put eG_8 rfl)
  have hF := hF.put eG_8 (Or.inr (by decide))
  have u_9 := gN_0 (G := G_8) (gp_eq eG_8)
  refine lv_aload_n hx hb dX12_readAll_38 rfl (lv_at hl 0 rfl) ?_
  refine ic_0 hx hb dX12_readAll_39 ?_
  refine S_putI (ty := .int) (C := RX12) (T := TX12) (N := 89) hx hb hg iX12 tyX12 tyX12_ok nmX12 hown hK hW hS kd_66 rfl 47 (lt_b rfl) (hg (Cond.fieldLink RX12 385 "SlabWalkModel" "nRules" "I") m1361) (fun _ h9 => h9) rfl (by decide +kernel) rfl rfl rfl dX12_readAll_40 (fun G_10 H locs eG_10 hW hS => ?_)
  have hB_G_10 : Bd G_10 := hB_G_8.put (V := 0) (lo := 0) (hi := 6) eG_10 rfl rfl rfl (by decide) (by decide) (hB_G_8.2.put eG_10 rfl)
  have hF := hF.put eG_10 (Or.inr (by decide))
  have u_11 := gE_0 (G := G_10) (gp_eq eG_10)
  refine lv_aload_n hx hb dX12_readAll_43 rfl (lv_at hl 0 rfl) ?_
  refine S_getR (n := 86) (C := RX12) (T := TX12) (N := 89) hx hb hg iX12 hown hK hW kd_66 rfl 34 (lt_b rfl) (hg (Cond.fieldLink RX12 72 "SlabWalkModel" "nSlips" "[I") m1348) (fun _ h9 => h9) rfl dX12_readAll_44 ?_
  refine ic_0 hx hb dX12_readAll_47 ?_
  refine ic_0 hx hb dX12_readAll_48 ?_
  refine S_iast hx hb hK hW hS kd_86 (vin (by decide) (by decide)) dX12_readAll_49 (fun G_12 H locs eG_12 hW hS => ?_)
  have hB_G_12 : Bd G_12 := hB_G_10.put (lo := (-2147483648)) (hi := 2147483647) eG_12 rfl rfl rfl (tI_rng _).1 (tI_rng _).2 (hB_G_10.2.put eG_12 rfl)
  have hF := hF.put eG_12 (Or.inl (by decide))
  refine lv_aload_n hx hb dX12_readAll_50 rfl (lv_at hl 0 rfl) ?_
  refine S_getR (n := 86) (C := RX12) (T := TX12) (N := 89) hx hb hg iX12 hown hK hW kd_66 rfl 34 (lt_b rfl) (hg (Cond.fieldLink RX12 72 "SlabWalkModel" "nSlips" "[I") m1348) (fun _ h9 => h9) rfl dX12_readAll_51 ?_
  refine ic_1 hx hb dX12_readAll_54 ?_
  refine ic_1 hx hb dX12_readAll_55 ?_
  refine S_iast hx hb hK hW hS kd_86 (vin (by decide) (by decide)) dX12_readAll_56 (fun G_13 H locs eG_13 hW hS => ?_)
  have hB_G_13 : Bd G_13 := hB_G_12.put (lo := (-2147483648)) (hi := 2147483647) eG_13 rfl rfl rfl (tI_rng _).1 (tI_rng _).2 (hB_G_12.2.put eG_13 rfl)
  have hF := hF.put eG_13 (Or.inl (by decide))
  refine lv_aload_n hx hb dX12_readAll_57 rfl (lv_at hl 0 rfl) ?_
  refine S_getR (n := 86) (C := RX12) (T := TX12) (N := 89) hx hb hg iX12 hown hK hW kd_66 rfl 34 (lt_b rfl) (hg (Cond.fieldLink RX12 72 "SlabWalkModel" "nSlips" "[I") m1348) (fun _ h9 => h9) rfl dX12_readAll_58 ?_
  refine ic_2 hx hb dX12_readAll_61 ?_
  refine ic_0 hx hb dX12_readAll_62 ?_
  refine S_iast hx hb hK hW hS kd_86 (vin (by decide) (by decide)) dX12_readAll_63 (fun G_14 H locs eG_14 hW hS => ?_)
  have hB_G_14 : Bd G_14 := hB_G_13.put (lo := (-2147483648)) (hi := 2147483647) eG_14 rfl rfl rfl (tI_rng _).1 (tI_rng _).2 (hB_G_13.2.put eG_14 rfl)
  have hF := hF.put eG_14 (Or.inl (by decide))
  refine lv_aload_n hx hb dX12_readAll_64 rfl (lv_at hl 0 rfl) ?_
  refine lv_bipush (v := 30) hx hb dX12_readAll_65 (by decide) ?_
  refine S_putI (ty := .int) (C := RX12) (T := TX12) (N := 89) hx hb hg iX12 tyX12 tyX12_ok nmX12 hown hK hW hS kd_66 rfl 48 (lt_b rfl) (hg (Cond.fieldLink RX12 410 "SlabWalkModel" "nHand" "I") m1362) (fun _ h9 => h9) rfl (by decide +kernel) rfl rfl rfl dX12_readAll_67 (fun G_15 H locs eG_15 hW hS => ?_)
  have hB_G_15 : Bd G_15 := hB_G_14.put (lo := (-2147483648)) (hi := 2147483647) eG_15 rfl rfl rfl (tI_rng _).1 (tI_rng _).2 (hB_G_14.2.put eG_15 rfl)
  have hF := hF.put eG_15 (Or.inr (by decide))
  refine lv_aload_n hx hb dX12_readAll_70 rfl (lv_at hl 0 rfl) ?_
  refine lv_bipush (v := 10) hx hb dX12_readAll_71 (by decide) ?_
  refine S_putI (ty := .int) (C := RX12) (T := TX12) (N := 89) hx hb hg iX12 tyX12 tyX12_ok nmX12 hown hK hW hS kd_66 rfl 49 (lt_b rfl) (hg (Cond.fieldLink RX12 413 "SlabWalkModel" "nSlack" "I") m1363) (fun _ h9 => h9) rfl (by decide +kernel) rfl rfl rfl dX12_readAll_73 (fun G_16 H locs eG_16 hW hS => ?_)
  have hB_G_16 : Bd G_16 := hB_G_15.put (lo := (-2147483648)) (hi := 2147483647) eG_16 rfl rfl rfl (tI_rng _).1 (tI_rng _).2 (hB_G_15.2.put eG_16 rfl)
  have hF := hF.put eG_16 (Or.inr (by decide))
  refine lv_aload_n hx hb dX12_readAll_76 rfl (lv_at hl 0 rfl) ?_
  refine ic_0 hx hb dX12_readAll_77 ?_
  refine S_putI (ty := .int) (C := RX12) (T := TX12) (N := 89) hx hb hg iX12 tyX12 tyX12_ok nmX12 hown hK hW hS kd_66 rfl 50 (lt_b rfl) (hg (Cond.fieldLink RX12 416 "SlabWalkModel" "nDraw" "I") m1364) (fun _ h9 => h9) rfl (by decide +kernel) rfl rfl rfl dX12_readAll_78 (fun G_17 H locs eG_17 hW hS => ?_)
  have hB_G_17 : Bd G_17 := hB_G_16.put (lo := (-2147483648)) (hi := 2147483647) eG_17 rfl rfl rfl (tI_rng _).1 (tI_rng _).2 (hB_G_16.2.put eG_17 rfl)
  have hF := hF.put eG_17 (Or.inr (by decide))
  refine lv_aload_n hx hb dX12_readAll_81 rfl (lv_at hl 0 rfl) ?_
  refine ic_0 hx hb dX12_readAll_82 ?_
  refine S_putI (ty := .int) (C := RX12) (T := TX12) (N := 89) hx hb hg iX12 tyX12 tyX12_ok nmX12 hown hK hW hS kd_66 rfl 51 (lt_b rfl) (hg (Cond.fieldLink RX12 391 "SlabWalkModel" "nOnce" "I") m1365) (fun _ h9 => h9) rfl (by decide +kernel) rfl rfl rfl dX12_readAll_83 (fun G_18 H locs eG_18 hW hS => ?_)
  have hB_G_18 : Bd G_18 := hB_G_17.put (lo := (-2147483648)) (hi := 2147483647) eG_18 rfl rfl rfl (tI_rng _).1 (tI_rng _).2 (hB_G_17.2.put eG_18 rfl)
  have hF := hF.put eG_18 (Or.inr (by decide))
  refine lv_aload_n hx hb dX12_readAll_86 rfl (lv_at hl 0 rfl) ?_
  refine ic_0 hx hb dX12_readAll_87 ?_
  refine S_putI (ty := .int) (C := RX12) (T := TX12) (N := 89) hx hb hg iX12 tyX12 tyX12_ok nmX12 hown hK hW hS kd_66 rfl 21 (lt_b rfl) (hg (Cond.fieldLink RX12 312 "SlabWalkModel" "nUnits" "I") m1335) (fun _ h9 => h9) rfl (by decide +kernel) rfl rfl rfl dX12_readAll_88 (fun G_19 H locs eG_19 hW hS => ?_)
  have hB_G_19 : Bd G_19 := hB_G_18.put (lo := (-2147483648)) (hi := 2147483647) eG_19 rfl rfl rfl (tI_rng _).1 (tI_rng _).2 (hB_G_18.2.put eG_19 rfl)
  have hF := hF.put eG_19 (Or.inr (by decide))
  refine lv_aload_n hx hb dX12_readAll_91 rfl (lv_at hl 0 rfl) ?_
  have g_20 : (G_19.1 66 4).toInt = 0 := (congrArg Int32.toInt (show G_19.1 66 4 = 0 from ((gp_ne eG_19 (by decide)).trans ((gp_ne eG_18 (by decide)).trans ((gp_ne eG_17 (by decide)).trans ((gp_ne eG_16 (by decide)).trans ((gp_ne eG_15 (by decide)).trans ((gp_ne eG_14 (fun q => absurd q.1 (Nat.ne_of_beq_eq_false rfl))).trans ((gp_ne eG_13 (fun q => absurd q.1 (Nat.ne_of_beq_eq_false rfl))).trans ((gp_ne eG_12 (fun q => absurd q.1 (Nat.ne_of_beq_eq_false rfl))).trans ((gp_ne eG_10 (by decide)).trans ((gp_ne eG_8 (by decide)).trans ((gp_ne eG_7 (by decide)).trans ((gp_ne eG_6 (by decide)).trans ((gp_ne eG_5 (by decide)).trans (gp_eq eG_4)))))))))))))))).trans rfl
  have g_21 : (G_19.1 66 6).toInt = (G.1 66 6).toInt := (congrArg Int32.toInt (show G_19.1 66 6 = (G.1 66 6) from ((gp_ne eG_19 (by decide)).trans ((gp_ne eG_18 (by decide)).trans ((gp_ne eG_17 (by decide)).trans ((gp_ne eG_16 (by decide)).trans ((gp_ne eG_15 (by decide)).trans ((gp_ne eG_14 (fun q => absurd q.1 (Nat.ne_of_beq_eq_false rfl))).trans ((gp_ne eG_13 (fun q => absurd q.1 (Nat.ne_of_beq_eq_false rfl))).trans ((gp_ne eG_12 (fun q => absurd q.1 (Nat.ne_of_beq_eq_false rfl))).trans ((gp_ne eG_10 (by decide)).trans ((gp_ne eG_8 (by decide)).trans ((gp_ne eG_7 (by decide)).trans ((gp_ne eG_6 (by decide)).trans ((gp_ne eG_5 (by decide)).trans ((gp_ne eG_4 (by decide)).trans ((gp_ne eG_3 (by decide)).trans (gp_ne eG_2 (by decide)))))))))))))))))))
  refine S_callv (va_runV (As := []) (rest := []) ⟨hx, hb, hml, hown, hts⟩ (n_token l D k A a z G_19  ) (cwV 0 hts (gd_V hgd m1602 m1604 m50 m131 m1605) rfl rfl rfl hd_X12_token ⟨Nat.le_of_ble_eq_true rfl, Nat.le_of_ble_eq_true rfl⟩) (pre_W hW hB_G_19 hK hZ hS kd_66 rfl) rfl rfl hl.1 rfl (lv_room (Nat.le_of_ble_eq_true rfl)) dX12_readAll_92 ⟨Nat.le_of_ble_eq_true rfl, Nat.le_of_ble_eq_true rfl⟩) hS (fun G_23 H locs hpo hW hS => ?_)
  have hX_26 : Q_token G_19 G_23 := hpo
  obtain ⟨hB_G_23, hq_24, ⟨d_1, d_2⟩, -⟩ := hpo
  have hF := hF.call9 hq_24 rfl rfl
  have g_32 : (G_23.1 66 2).toInt = 0 := (congrArg Int32.toInt (show G_23.1 66 2 = 0 from ((hq_24.i9 66 2 rfl rfl).trans ((gp_ne eG_19 (by decide)).trans ((gp_ne eG_18 (by decide)).trans ((gp_ne eG_17 (by decide)).trans ((gp_ne eG_16 (by decide)).trans ((gp_ne eG_15 (by decide)).trans ((gp_ne eG_14 (fun q => absurd q.1 (Nat.ne_of_beq_eq_false rfl))).trans ((gp_ne eG_13 (fun q => absurd q.1 (Nat.ne_of_beq_eq_false rfl))).trans ((gp_ne eG_12 (fun q => absurd q.1 (Nat.ne_of_beq_eq_false rfl))).trans ((gp_ne eG_10 (by decide)).trans ((gp_ne eG_8 (by decide)).trans ((gp_ne eG_7 (by decide)).trans ((gp_ne eG_6 (by decide)).trans (gp_eq eG_5)))))))))))))))).trans rfl
  have b_33 : 0 ≤ (G_23.1 66 4).toInt ∧ (G_23.1 66 4).toInt ≤ 1600 := bd_66_4 hB_G_23
  have fr_34 : Fr [86] [(66, 4), (66, 6), (66, 7), (66, 8), (66, 9), (66, 21), (66, 48), (66, 49), (66, 50), (66, 51)] G_10 G_23 := (Fr.call9 (rs := [86]) (fs := [(66, 4), (66, 6), (66, 7), (66, 8), (66, 9), (66, 21), (66, 48), (66, 49), (66, 50), (66, 51)]) (Fr.put (rs := [86]) (fs := [(66, 4), (66, 6), (66, 7), (66, 8), (66, 9), (66, 21), (66, 48), (66, 49), (66, 50), (66, 51)]) (Fr.put (rs := [86]) (fs := [(66, 4), (66, 6), (66, 7), (66, 8), (66, 9), (66, 21), (66, 48), (66, 49), (66, 50), (66, 51)]) (Fr.put (rs := [86]) (fs := [(66, 4), (66, 6), (66, 7), (66, 8), (66, 9), (66, 21), (66, 48), (66, 49), (66, 50), (66, 51)]) (Fr.put (rs := [86]) (fs := [(66, 4), (66, 6), (66, 7), (66, 8), (66, 9), (66, 21), (66, 48), (66, 49), (66, 50), (66, 51)]) (Fr.put (rs := [86]) (fs := [(66, 4), (66, 6), (66, 7), (66, 8), (66, 9), (66, 21), (66, 48), (66, 49), (66, 50), (66, 51)]) (Fr.put (rs := [86]) (fs := [(66, 4), (66, 6), (66, 7), (66, 8), (66, 9), (66, 21), (66, 48), (66, 49), (66, 50), (66, 51)]) (Fr.put (rs := [86]) (fs := [(66, 4), (66, 6), (66, 7), (66, 8), (66, 9), (66, 21), (66, 48), (66, 49), (66, 50), (66, 51)]) (Fr.put (rs := [86]) (fs := [(66, 4), (66, 6), (66, 7), (66, 8), (66, 9), (66, 21), (66, 48), (66, 49), (66, 50), (66, 51)]) Fr.rf eG_12 (Or.inl (by decide))) eG_13 (Or.inl (by decide))) eG_14 (Or.inl (by decide))) eG_15 (Or.inr (by decide))) eG_16 (Or.inr (by decide))) eG_17 (Or.inr (by decide))) eG_18 (Or.inr (by decide))) eG_19 (Or.inr (by decide))) hq_24 rfl rfl)
  have g_35 : gE G_23 = gE G_10 := gE_fr fr_34 (gr_q rfl) (gf_q rfl)
  have fr_36 : Fr [86] [(66, 4), (66, 6), (66, 7), (66, 8), (66, 9), (66, 21), (66, 47), (66, 48), (66, 49), (66, 50), (66, 51)] G_8 G_23 := (Fr.call9 (rs := [86]) (fs := [(66, 4), (66, 6), (66, 7), (66, 8), (66, 9), (66, 21), (66, 47), (66, 48), (66, 49), (66, 50), (66, 51)]) (Fr.put (rs := [86]) (fs := [(66, 4), (66, 6), (66, 7), (66, 8), (66, 9), (66, 21), (66, 47), (66, 48), (66, 49), (66, 50), (66, 51)]) (Fr.put (rs := [86]) (fs := [(66, 4), (66, 6), (66, 7), (66, 8), (66, 9), (66, 21), (66, 47), (66, 48), (66, 49), (66, 50), (66, 51)]) (Fr.put (rs := [86]) (fs := [(66, 4), (66, 6), (66, 7), (66, 8), (66, 9), (66, 21), (66, 47), (66, 48), (66, 49), (66, 50), (66, 51)]) (Fr.put (rs := [86]) (fs := [(66, 4), (66, 6), (66, 7), (66, 8), (66, 9), (66, 21), (66, 47), (66, 48), (66, 49), (66, 50), (66, 51)]) (Fr.put (rs := [86]) (fs := [(66, 4), (66, 6), (66, 7), (66, 8), (66, 9), (66, 21), (66, 47), (66, 48), (66, 49), (66, 50), (66, 51)]) (Fr.put (rs := [86]) (fs := [(66, 4), (66, 6), (66, 7), (66, 8), (66, 9), (66, 21), (66, 47), (66, 48), (66, 49), (66, 50), (66, 51)]) (Fr.put (rs := [86]) (fs := [(66, 4), (66, 6), (66, 7), (66, 8), (66, 9), (66, 21), (66, 47), (66, 48), (66, 49), (66, 50), (66, 51)]) (Fr.put (rs := [86]) (fs := [(66, 4), (66, 6), (66, 7), (66, 8), (66, 9), (66, 21), (66, 47), (66, 48), (66, 49), (66, 50), (66, 51)]) (Fr.put (rs := [86]) (fs := [(66, 4), (66, 6), (66, 7), (66, 8), (66, 9), (66, 21), (66, 47), (66, 48), (66, 49), (66, 50), (66, 51)]) Fr.rf eG_10 (Or.inr (by decide))) eG_12 (Or.inl (by decide))) eG_13 (Or.inl (by decide))) eG_14 (Or.inl (by decide))) eG_15 (Or.inr (by decide))) eG_16 (Or.inr (by decide))) eG_17 (Or.inr (by decide))) eG_18 (Or.inr (by decide))) eG_19 (Or.inr (by decide))) hq_24 rfl rfl)
  have g_37 : gN G_23 = gN G_8 := gN_fr fr_36 (gr_q rfl) (gf_q rfl)
  have g_38 : (G_23.1 66 2).toInt = 0 := (congrArg Int32.toInt (show G_23.1 66 2 = 0 from ((hq_24.i9 66 2 rfl rfl).trans ((gp_ne eG_19 (by decide)).trans ((gp_ne eG_18 (by decide)).trans ((gp_ne eG_17 (by decide)).trans ((gp_ne eG_16 (by decide)).trans ((gp_ne eG_15 (by decide)).trans ((gp_ne eG_14 (fun q => absurd q.1 (Nat.ne_of_beq_eq_false rfl))).trans ((gp_ne eG_13 (fun q => absurd q.1 (Nat.ne_of_beq_eq_false rfl))).trans ((gp_ne eG_12 (fun q => absurd q.1 (Nat.ne_of_beq_eq_false rfl))).trans ((gp_ne eG_10 (by decide)).trans ((gp_ne eG_8 (by decide)).trans ((gp_ne eG_7 (by decide)).trans ((gp_ne eG_6 (by decide)).trans (gp_eq eG_5)))))))))))))))).trans rfl
  have g_39 : (G_23.1 86 0).toInt = 0 := (congrArg Int32.toInt (show G_23.1 86 0 = 0 from ((hq_24.i9 86 0 rfl rfl).trans ((gp_ne eG_19 (by decide)).trans ((gp_ne eG_18 (by decide)).trans ((gp_ne eG_17 (by decide)).trans ((gp_ne eG_16 (by decide)).trans ((gp_ne eG_15 (by decide)).trans ((gp_ne eG_14 (fun q => absurd q.2 (Nat.ne_of_beq_eq_false rfl))).trans ((gp_ne eG_13 (fun q => absurd q.2 (Nat.ne_of_beq_eq_false rfl))).trans (gp_eq eG_12))))))))))).trans rfl
  have g_40 : (G_23.1 86 1).toInt = 1 := (congrArg Int32.toInt (show G_23.1 86 1 = 1 from ((hq_24.i9 86 1 rfl rfl).trans ((gp_ne eG_19 (by decide)).trans ((gp_ne eG_18 (by decide)).trans ((gp_ne eG_17 (by decide)).trans ((gp_ne eG_16 (by decide)).trans ((gp_ne eG_15 (by decide)).trans ((gp_ne eG_14 (fun q => absurd q.2 (Nat.ne_of_beq_eq_false rfl))).trans (gp_eq eG_13)))))))))).trans rfl
  have g_41 : (G_23.1 86 2).toInt = 0 := (congrArg Int32.toInt (show G_23.1 86 2 = 0 from ((hq_24.i9 86 2 rfl rfl).trans ((gp_ne eG_19 (by decide)).trans ((gp_ne eG_18 (by decide)).trans ((gp_ne eG_17 (by decide)).trans ((gp_ne eG_16 (by decide)).trans ((gp_ne eG_15 (by decide)).trans (gp_eq eG_14))))))))).trans rfl
  refine loop_N (Inv := fun n H locs ls => ∃ (G_27 : GS), (n : Int) = 1604 - (G_27.1 66 4).toInt - (G_27.1 66 2).toInt ∧ ((G_27.1 66 2).toInt = 0 → gE G_27 = 1 ∧ gN G_27 = 1 ∧ 0 ≤ (G_27.1 86 0).toInt ∧ (G_27.1 86 0).toInt ≤ 9 ∧ 0 ≤ (G_27.1 86 1).toInt ∧ (G_27.1 86 1).toInt ≤ 9 ∧ 0 ≤ (G_27.1 86 2).toInt ∧ (G_27.1 86 2).toInt ≤ 9 ∧ 1 ≤ (G_27.1 86 0).toInt + (G_27.1 86 1).toInt + (G_27.1 86 2).toInt) ∧ Rc (St_n_readAll_1) G_23 G_27 ∧ Wd D k A a G_27 H ∧ Bd G_27 ∧ Fr [68, 69, 70, 71, 75, 77, 78, 79, 80, 81, 82, 83, 84, 85, 86] [(66, 1), (66, 2), (66, 3), (66, 4), (66, 5), (66, 6), (66, 7), (66, 8), (66, 9), (66, 19), (66, 20), (66, 21), (66, 23), (66, 24), (66, 45), (66, 46), (66, 47), (66, 48), (66, 49), (66, 50), (66, 51)] G G_27 ∧ Fr [68, 69, 70, 71, 75, 77, 78, 79, 80, 81, 82, 83, 84, 85, 86] [(66, 2), (66, 3), (66, 4), (66, 6), (66, 7), (66, 8), (66, 9), (66, 19), (66, 20), (66, 21), (66, 23), (66, 24), (66, 45), (66, 46), (66, 47), (66, 48), (66, 49), (66, 50), (66, 51)] G_23 G_27 ∧ va_S A s.heap H locs ∧ lv_has ls 1 [(0, .ref (a 66))]) (fun n_30 H locs ls ih_29 hI => ?_) (1604 - (G_23.1 66 4).toInt - (G_23.1 66 2).toInt : Int).toNat ⟨G_23, (Int.toNat_of_nonneg ((by first | exact ok_1011 g_32 b_33.2 | omega))), ((by first | exact (fun h9 => ⟨((by first | (clear b_1 u_9 u_11 g_20 g_21 d_1 d_2 b_33 g_37 g_39 g_40 g_41; omega) | omega)), ⟨((by first | (clear b_1 u_9 u_11 g_20 g_21 d_1 d_2 b_33 g_35 g_39 g_40 g_41; omega) | omega)), ⟨(by first | exact ok_965 g_39 | omega), ⟨(by first | exact ok_1012 g_39 | omega), ⟨(by first | exact ok_1013 g_40 | omega), ⟨(by first | exact ok_1014 g_40 | omega), ⟨(by first | exact ok_965 g_41 | omega), ⟨(by first | exact ok_1012 g_41 | omega), (by first | exact ok_1015 g_39 g_40 g_41 | omega)⟩⟩⟩⟩⟩⟩⟩⟩) | omega)), Rc.rf, hW, hB_G_23, hF, Fr.rf, hS, lv_sub hl [0] rfl⟩
  obtain ⟨G_27, hn_43, f_42, hX_31, hW, hB_G_27, hF, hq_28, hS, hl⟩ := hI
  have b_44 : 0 ≤ (G_27.1 66 2).toInt ∧ (G_27.1 66 2).toInt ≤ 4 := bd_66_2 hB_G_27
  refine lv_aload_n hx hb dX12_readAll_95 rfl (lv_at hl 0 rfl) ?_
  refine S_getI (v := (G_27.1 66 2)) (C := RX12) (T := TX12) (N := 89) hx hb hg iX12 hown hK hW kd_66 rfl 2 (lt_b rfl) (hg (Cond.fieldLink RX12 218 "SlabWalkModel" "fault" "I") m1316) (fun _ h9 => h9) rfl rfl dX12_readAll_96 ?_
  refine lv_if_ne (tgt := 116) hx hb dX12_readAll_99 rfl (fun c_45 => ?_) (fun c_45 => ?_)
  · have c_45 : (G_27.1 66 2).toInt ≠ 0 := xI_ne rfl rfl c_45
    have g_46 : (G_27.1 66 1).toInt = 0 := (congrArg Int32.toInt (show G_27.1 66 1 = 0 from ((hq_28.i9 66 1 rfl rfl).trans ((hq_24.i9 66 1 rfl rfl).trans ((gp_ne eG_19 (by decide)).trans ((gp_ne eG_18 (by decide)).trans ((gp_ne eG_17 (by decide)).trans ((gp_ne eG_16 (by decide)).trans ((gp_ne eG_15 (by decide)).trans ((gp_ne eG_14 (fun q => absurd q.1 (Nat.ne_of_beq_eq_false rfl))).trans ((gp_ne eG_13 (fun q => absurd q.1 (Nat.ne_of_beq_eq_false rfl))).trans ((gp_ne eG_12 (fun q => absurd q.1 (Nat.ne_of_beq_eq_false rfl))).trans ((gp_ne eG_10 (by decide)).trans ((gp_ne eG_8 (by decide)).trans ((gp_ne eG_7 (by decide)).trans ((gp_ne eG_6 (by decide)).trans ((gp_ne eG_5 (by decide)).trans ((gp_ne eG_4 (by decide)).trans (gp_eq eG_3))))))))))))))))))).trans rfl
    exact W.vret hx hb hr (fun t ht _ => ⟨⟨G_27, rfl, (Q_readAll_mk ⟨hB_G_27, hF, ((by first | exact ⟨(by first | exact g_46 | omega), (fun h9 => ⟨(by first | exact ok_1016 f_42 b_44.1 h9 | omega), ⟨(by first | exact ok_1017 f_42 b_44.1 h9 | omega), ⟨(by first | exact ok_1018 f_42 b_44.1 h9 | omega), ⟨(by first | exact ok_1019 f_42 b_44.1 h9 | omega), ⟨(by first | exact ok_1020 f_42 b_44.1 h9 | omega), ⟨(by first | exact ok_1021 f_42 b_44.1 h9 | omega), ⟨(by first | exact ok_1022 f_42 b_44.1 h9 | omega), ⟨(by first | exact ok_1023 f_42 b_44.1 h9 | omega), (by first | exact ok_1024 f_42 b_44.1 h9 | omega)⟩⟩⟩⟩⟩⟩⟩⟩)⟩ | omega)), ⟨G_19, hB_G_19, (Fr.put (rs := [86]) (fs := [(66, 1), (66, 2), (66, 3), (66, 4), (66, 5), (66, 21), (66, 45), (66, 46), (66, 47), (66, 48), (66, 49), (66, 50), (66, 51)]) (Fr.put (rs := [86]) (fs := [(66, 1), (66, 2), (66, 3), (66, 4), (66, 5), (66, 21), (66, 45), (66, 46), (66, 47), (66, 48), (66, 49), (66, 50), (66, 51)]) (Fr.put (rs := [86]) (fs := [(66, 1), (66, 2), (66, 3), (66, 4), (66, 5), (66, 21), (66, 45), (66, 46), (66, 47), (66, 48), (66, 49), (66, 50), (66, 51)]) (Fr.put (rs := [86]) (fs := [(66, 1), (66, 2), (66, 3), (66, 4), (66, 5), (66, 21), (66, 45), (66, 46), (66, 47), (66, 48), (66, 49), (66, 50), (66, 51)]) (Fr.put (rs := [86]) (fs := [(66, 1), (66, 2), (66, 3), (66, 4), (66, 5), (66, 21), (66, 45), (66, 46), (66, 47), (66, 48), (66, 49), (66, 50), (66, 51)]) (Fr.put (rs := [86]) (fs := [(66, 1), (66, 2), (66, 3), (66, 4), (66, 5), (66, 21), (66, 45), (66, 46), (66, 47), (66, 48), (66, 49), (66, 50), (66, 51)]) (Fr.put (rs := [86]) (fs := [(66, 1), (66, 2), (66, 3), (66, 4), (66, 5), (66, 21), (66, 45), (66, 46), (66, 47), (66, 48), (66, 49), (66, 50), (66, 51)]) (Fr.put (rs := [86]) (fs := [(66, 1), (66, 2), (66, 3), (66, 4), (66, 5), (66, 21), (66, 45), (66, 46), (66, 47), (66, 48), (66, 49), (66, 50), (66, 51)]) (Fr.put (rs := [86]) (fs := [(66, 1), (66, 2), (66, 3), (66, 4), (66, 5), (66, 21), (66, 45), (66, 46), (66, 47), (66, 48), (66, 49), (66, 50), (66, 51)]) (Fr.put (rs := [86]) (fs := [(66, 1), (66, 2), (66, 3), (66, 4), (66, 5), (66, 21), (66, 45), (66, 46), (66, 47), (66, 48), (66, 49), (66, 50), (66, 51)]) (Fr.put (rs := [86]) (fs := [(66, 1), (66, 2), (66, 3), (66, 4), (66, 5), (66, 21), (66, 45), (66, 46), (66, 47), (66, 48), (66, 49), (66, 50), (66, 51)]) (Fr.put (rs := [86]) (fs := [(66, 1), (66, 2), (66, 3), (66, 4), (66, 5), (66, 21), (66, 45), (66, 46), (66, 47), (66, 48), (66, 49), (66, 50), (66, 51)]) (Fr.put (rs := [86]) (fs := [(66, 1), (66, 2), (66, 3), (66, 4), (66, 5), (66, 21), (66, 45), (66, 46), (66, 47), (66, 48), (66, 49), (66, 50), (66, 51)]) (Fr.put (rs := [86]) (fs := [(66, 1), (66, 2), (66, 3), (66, 4), (66, 5), (66, 21), (66, 45), (66, 46), (66, 47), (66, 48), (66, 49), (66, 50), (66, 51)]) (Fr.put (rs := [86]) (fs := [(66, 1), (66, 2), (66, 3), (66, 4), (66, 5), (66, 21), (66, 45), (66, 46), (66, 47), (66, 48), (66, 49), (66, 50), (66, 51)]) (Fr.put (rs := [86]) (fs := [(66, 1), (66, 2), (66, 3), (66, 4), (66, 5), (66, 21), (66, 45), (66, 46), (66, 47), (66, 48), (66, 49), (66, 50), (66, 51)]) Fr.rf eG_2 (Or.inr (by decide))) eG_3 (Or.inr (by decide))) eG_4 (Or.inr (by decide))) eG_5 (Or.inr (by decide))) eG_6 (Or.inr (by decide))) eG_7 (Or.inr (by decide))) eG_8 (Or.inr (by decide))) eG_10 (Or.inr (by decide))) eG_12 (Or.inl (by decide))) eG_13 (Or.inl (by decide))) eG_14 (Or.inl (by decide))) eG_15 (Or.inr (by decide))) eG_16 (Or.inr (by decide))) eG_17 (Or.inr (by decide))) eG_18 (Or.inr (by decide))) eG_19 (Or.inr (by decide))), ((gp_ne eG_19 (by decide)).trans ((gp_ne eG_18 (by decide)).trans ((gp_ne eG_17 (by decide)).trans ((gp_ne eG_16 (by decide)).trans ((gp_ne eG_15 (by decide)).trans ((gp_ne eG_14 (fun q => absurd q.1 (Nat.ne_of_beq_eq_false rfl))).trans ((gp_ne eG_13 (fun q => absurd q.1 (Nat.ne_of_beq_eq_false rfl))).trans ((gp_ne eG_12 (fun q => absurd q.1 (Nat.ne_of_beq_eq_false rfl))).trans ((gp_ne eG_10 (by decide)).trans ((gp_ne eG_8 (by decide)).trans ((gp_ne eG_7 (by decide)).trans ((gp_ne eG_6 (by decide)).trans ((gp_ne eG_5 (by decide)).trans ((gp_ne eG_4 (by decide)).trans (gp_eq eG_3))))))))))))))), ((gp_ne eG_19 (by decide)).trans ((gp_ne eG_18 (by decide)).trans ((gp_ne eG_17 (by decide)).trans ((gp_ne eG_16 (by decide)).trans ((gp_ne eG_15 (by decide)).trans ((gp_ne eG_14 (fun q => absurd q.1 (Nat.ne_of_beq_eq_false rfl))).trans ((gp_ne eG_13 (fun q => absurd q.1 (Nat.ne_of_beq_eq_false rfl))).trans ((gp_ne eG_12 (fun q => absurd q.1 (Nat.ne_of_beq_eq_false rfl))).trans ((gp_ne eG_10 (by decide)).trans ((gp_ne eG_8 (by decide)).trans ((gp_ne eG_7 (by decide)).trans ((gp_ne eG_6 (by decide)).trans (gp_eq eG_5))))))))))))), ((gp_ne eG_19 (by decide)).trans ((gp_ne eG_18 (by decide)).trans ((gp_ne eG_17 (by decide)).trans ((gp_ne eG_16 (by decide)).trans ((gp_ne eG_15 (by decide)).trans ((gp_ne eG_14 (fun q => absurd q.1 (Nat.ne_of_beq_eq_false rfl))).trans ((gp_ne eG_13 (fun q => absurd q.1 (Nat.ne_of_beq_eq_false rfl))).trans ((gp_ne eG_12 (fun q => absurd q.1 (Nat.ne_of_beq_eq_false rfl))).trans ((gp_ne eG_10 (by decide)).trans ((gp_ne eG_8 (by decide)).trans ((gp_ne eG_7 (by decide)).trans (gp_eq eG_6)))))))))))), ((gp_ne eG_19 (by decide)).trans ((gp_ne eG_18 (by decide)).trans ((gp_ne eG_17 (by decide)).trans ((gp_ne eG_16 (by decide)).trans ((gp_ne eG_15 (by decide)).trans ((gp_ne eG_14 (fun q => absurd q.1 (Nat.ne_of_beq_eq_false rfl))).trans ((gp_ne eG_13 (fun q => absurd q.1 (Nat.ne_of_beq_eq_false rfl))).trans ((gp_ne eG_12 (fun q => absurd q.1 (Nat.ne_of_beq_eq_false rfl))).trans ((gp_ne eG_10 (by decide)).trans ((gp_ne eG_8 (by decide)).trans ((gp_ne eG_7 (by decide)).trans ((gp_ne eG_6 (by decide)).trans ((gp_ne eG_5 (by decide)).trans (gp_eq eG_4)))))))))))))), ((gp_ne eG_19 (by decide)).trans ((gp_ne eG_18 (by decide)).trans ((gp_ne eG_17 (by decide)).trans ((gp_ne eG_16 (by decide)).trans ((gp_ne eG_15 (by decide)).trans ((gp_ne eG_14 (fun q => absurd q.1 (Nat.ne_of_beq_eq_false rfl))).trans ((gp_ne eG_13 (fun q => absurd q.1 (Nat.ne_of_beq_eq_false rfl))).trans ((gp_ne eG_12 (fun q => absurd q.1 (Nat.ne_of_beq_eq_false rfl))).trans ((gp_ne eG_10 (by decide)).trans ((gp_ne eG_8 (by decide)).trans ((gp_ne eG_7 (by decide)).trans ((gp_ne eG_6 (by decide)).trans ((gp_ne eG_5 (by decide)).trans ((gp_ne eG_4 (by decide)).trans ((gp_ne eG_3 (by decide)).trans (gp_eq eG_2)))))))))))))))), (gp_eq eG_19), ((gp_ne eG_19 (by decide)).trans ((gp_ne eG_18 (by decide)).trans ((gp_ne eG_17 (by decide)).trans ((gp_ne eG_16 (by decide)).trans ((gp_ne eG_15 (by decide)).trans ((gp_ne eG_14 (fun q => absurd q.1 (Nat.ne_of_beq_eq_false rfl))).trans ((gp_ne eG_13 (fun q => absurd q.1 (Nat.ne_of_beq_eq_false rfl))).trans ((gp_ne eG_12 (fun q => absurd q.1 (Nat.ne_of_beq_eq_false rfl))).trans ((gp_ne eG_10 (by decide)).trans ((gp_ne eG_8 (by decide)).trans (gp_eq eG_7))))))))))), ((gp_ne eG_19 (by decide)).trans ((gp_ne eG_18 (by decide)).trans ((gp_ne eG_17 (by decide)).trans ((gp_ne eG_16 (by decide)).trans ((gp_ne eG_15 (by decide)).trans ((gp_ne eG_14 (fun q => absurd q.1 (Nat.ne_of_beq_eq_false rfl))).trans ((gp_ne eG_13 (fun q => absurd q.1 (Nat.ne_of_beq_eq_false rfl))).trans ((gp_ne eG_12 (fun q => absurd q.1 (Nat.ne_of_beq_eq_false rfl))).trans ((gp_ne eG_10 (by decide)).trans (gp_eq eG_8)))))))))), ((gp_ne eG_19 (by decide)).trans ((gp_ne eG_18 (by decide)).trans ((gp_ne eG_17 (by decide)).trans ((gp_ne eG_16 (by decide)).trans ((gp_ne eG_15 (by decide)).trans ((gp_ne eG_14 (fun q => absurd q.1 (Nat.ne_of_beq_eq_false rfl))).trans ((gp_ne eG_13 (fun q => absurd q.1 (Nat.ne_of_beq_eq_false rfl))).trans ((gp_ne eG_12 (fun q => absurd q.1 (Nat.ne_of_beq_eq_false rfl))).trans (gp_eq eG_10))))))))), ((gp_ne eG_19 (by decide)).trans ((gp_ne eG_18 (by decide)).trans ((gp_ne eG_17 (by decide)).trans ((gp_ne eG_16 (by decide)).trans (gp_eq eG_15))))), ((gp_ne eG_19 (by decide)).trans ((gp_ne eG_18 (by decide)).trans ((gp_ne eG_17 (by decide)).trans (gp_eq eG_16)))), ((gp_ne eG_19 (by decide)).trans ((gp_ne eG_18 (by decide)).trans (gp_eq eG_17))), ((gp_ne eG_19 (by decide)).trans (gp_eq eG_18)), (rw_put eG_19 (by decide)).trans ((rw_put eG_18 (by decide)).trans ((rw_put eG_17 (by decide)).trans ((rw_put eG_16 (by decide)).trans ((rw_put eG_15 (by decide)).trans ((rw_ast eG_14).trans (congrArg (fun q => upd q ((2 : Int32).toNatClampNeg) 0) ((rw_ast eG_13).trans (congrArg (fun q => upd q ((1 : Int32).toNatClampNeg) 1) ((rw_ast eG_12).trans (congrArg (fun q => upd q ((0 : Int32).toNatClampNeg) 0) ((rw_put eG_10 (by decide)).trans ((rw_put eG_8 (by decide)).trans ((rw_put eG_7 (by decide)).trans ((rw_put eG_6 (by decide)).trans ((rw_put eG_5 (by decide)).trans ((rw_put eG_4 (by decide)).trans ((rw_put eG_3 (by decide)).trans (rw_put eG_2 (by decide))))))))))))))))))), ⟨G_23, hX_26, ⟨G_27, hX_31, f_42, hB_G_27, hq_28, (Or.inr ⟨c_45, rfl⟩)⟩⟩⟩⟩), wd_t ht hW⟩, hS.F ht⟩) hS.2.2 dX12_readAll_116
  · have c_45 : (G_27.1 66 2).toInt = 0 := xI_eq rfl rfl c_45
    have d_3 := f_42 c_45
    refine lv_aload_n hx hb dX12_readAll_102 rfl (lv_at hl 0 rfl) ?_
    refine S_getI (v := (G_27.1 66 6)) (C := RX12) (T := TX12) (N := 89) hx hb hg iX12 hown hK hW kd_66 rfl 6 (lt_b rfl) (hg (Cond.fieldLink RX12 205 "SlabWalkModel" "sort" "I") m1320) (fun _ h9 => h9) rfl rfl dX12_readAll_103 ?_
    refine lv_if_eq (tgt := 116) hx hb dX12_readAll_106 rfl (fun c_47 => ?_) (fun c_47 => ?_)
    · have c_47 : (G_27.1 66 6).toInt = 0 := xI_eq rfl rfl c_47
      have g_48 : (G_27.1 66 1).toInt = 0 := (congrArg Int32.toInt (show G_27.1 66 1 = 0 from ((hq_28.i9 66 1 rfl rfl).trans ((hq_24.i9 66 1 rfl rfl).trans ((gp_ne eG_19 (by decide)).trans ((gp_ne eG_18 (by decide)).trans ((gp_ne eG_17 (by decide)).trans ((gp_ne eG_16 (by decide)).trans ((gp_ne eG_15 (by decide)).trans ((gp_ne eG_14 (fun q => absurd q.1 (Nat.ne_of_beq_eq_false rfl))).trans ((gp_ne eG_13 (fun q => absurd q.1 (Nat.ne_of_beq_eq_false rfl))).trans ((gp_ne eG_12 (fun q => absurd q.1 (Nat.ne_of_beq_eq_false rfl))).trans ((gp_ne eG_10 (by decide)).trans ((gp_ne eG_8 (by decide)).trans ((gp_ne eG_7 (by decide)).trans ((gp_ne eG_6 (by decide)).trans ((gp_ne eG_5 (by decide)).trans ((gp_ne eG_4 (by decide)).trans (gp_eq eG_3))))))))))))))))))).trans rfl
      exact W.vret hx hb hr (fun t ht _ => ⟨⟨G_27, rfl, (Q_readAll_mk ⟨hB_G_27, hF, ((by first | exact ⟨(by first | exact g_48 | omega), (fun h9 => ⟨(by first | exact d_3.1 | omega), ⟨(by first | exact d_3.2.1 | omega), ⟨(by first | exact d_3.2.2.1 | omega), ⟨(by first | exact d_3.2.2.2.1 | omega), ⟨(by first | exact d_3.2.2.2.2.1 | omega), ⟨(by first | exact d_3.2.2.2.2.2.1 | omega), ⟨(by first | exact d_3.2.2.2.2.2.2.1 | omega), ⟨(by first | exact d_3.2.2.2.2.2.2.2.1 | omega), (by first | exact d_3.2.2.2.2.2.2.2.2 | omega)⟩⟩⟩⟩⟩⟩⟩⟩)⟩ | omega)), ⟨G_19, hB_G_19, (Fr.put (rs := [86]) (fs := [(66, 1), (66, 2), (66, 3), (66, 4), (66, 5), (66, 21), (66, 45), (66, 46), (66, 47), (66, 48), (66, 49), (66, 50), (66, 51)]) (Fr.put (rs := [86]) (fs := [(66, 1), (66, 2), (66, 3), (66, 4), (66, 5), (66, 21), (66, 45), (66, 46), (66, 47), (66, 48), (66, 49), (66, 50), (66, 51)]) (Fr.put (rs := [86]) (fs := [(66, 1), (66, 2), (66, 3), (66, 4), (66, 5), (66, 21), (66, 45), (66, 46), (66, 47), (66, 48), (66, 49), (66, 50), (66, 51)]) (Fr.put (rs := [86]) (fs := [(66, 1), (66, 2), (66, 3), (66, 4), (66, 5), (66, 21), (66, 45), (66, 46), (66, 47), (66, 48), (66, 49), (66, 50), (66, 51)]) (Fr.put (rs := [86]) (fs := [(66, 1), (66, 2), (66, 3), (66, 4), (66, 5), (66, 21), (66, 45), (66, 46), (66, 47), (66, 48), (66, 49), (66, 50), (66, 51)]) (Fr.put (rs := [86]) (fs := [(66, 1), (66, 2), (66, 3), (66, 4), (66, 5), (66, 21), (66, 45), (66, 46), (66, 47), (66, 48), (66, 49), (66, 50), (66, 51)]) (Fr.put (rs := [86]) (fs := [(66, 1), (66, 2), (66, 3), (66, 4), (66, 5), (66, 21), (66, 45), (66, 46), (66, 47), (66, 48), (66, 49), (66, 50), (66, 51)]) (Fr.put (rs := [86]) (fs := [(66, 1), (66, 2), (66, 3), (66, 4), (66, 5), (66, 21), (66, 45), (66, 46), (66, 47), (66, 48), (66, 49), (66, 50), (66, 51)]) (Fr.put (rs := [86]) (fs := [(66, 1), (66, 2), (66, 3), (66, 4), (66, 5), (66, 21), (66, 45), (66, 46), (66, 47), (66, 48), (66, 49), (66, 50), (66, 51)]) (Fr.put (rs := [86]) (fs := [(66, 1), (66, 2), (66, 3), (66, 4), (66, 5), (66, 21), (66, 45), (66, 46), (66, 47), (66, 48), (66, 49), (66, 50), (66, 51)]) (Fr.put (rs := [86]) (fs := [(66, 1), (66, 2), (66, 3), (66, 4), (66, 5), (66, 21), (66, 45), (66, 46), (66, 47), (66, 48), (66, 49), (66, 50), (66, 51)]) (Fr.put (rs := [86]) (fs := [(66, 1), (66, 2), (66, 3), (66, 4), (66, 5), (66, 21), (66, 45), (66, 46), (66, 47), (66, 48), (66, 49), (66, 50), (66, 51)]) (Fr.put (rs := [86]) (fs := [(66, 1), (66, 2), (66, 3), (66, 4), (66, 5), (66, 21), (66, 45), (66, 46), (66, 47), (66, 48), (66, 49), (66, 50), (66, 51)]) (Fr.put (rs := [86]) (fs := [(66, 1), (66, 2), (66, 3), (66, 4), (66, 5), (66, 21), (66, 45), (66, 46), (66, 47), (66, 48), (66, 49), (66, 50), (66, 51)]) (Fr.put (rs := [86]) (fs := [(66, 1), (66, 2), (66, 3), (66, 4), (66, 5), (66, 21), (66, 45), (66, 46), (66, 47), (66, 48), (66, 49), (66, 50), (66, 51)]) (Fr.put (rs := [86]) (fs := [(66, 1), (66, 2), (66, 3), (66, 4), (66, 5), (66, 21), (66, 45), (66, 46), (66, 47), (66, 48), (66, 49), (66, 50), (66, 51)]) Fr.rf eG_2 (Or.inr (by decide))) eG_3 (Or.inr (by decide))) eG_4 (Or.inr (by decide))) eG_5 (Or.inr (by decide))) eG_6 (Or.inr (by decide))) eG_7 (Or.inr (by decide))) eG_8 (Or.inr (by decide))) eG_10 (Or.inr (by decide))) eG_12 (Or.inl (by decide))) eG_13 (Or.inl (by decide))) eG_14 (Or.inl (by decide))) eG_15 (Or.inr (by decide))) eG_16 (Or.inr (by decide))) eG_17 (Or.inr (by decide))) eG_18 (Or.inr (by decide))) eG_19 (Or.inr (by decide))), ((gp_ne eG_19 (by decide)).trans ((gp_ne eG_18 (by decide)).trans ((gp_ne eG_17 (by decide)).trans ((gp_ne eG_16 (by decide)).trans ((gp_ne eG_15 (by decide)).trans ((gp_ne eG_14 (fun q => absurd q.1 (Nat.ne_of_beq_eq_false rfl))).trans ((gp_ne eG_13 (fun q => absurd q.1 (Nat.ne_of_beq_eq_false rfl))).trans ((gp_ne eG_12 (fun q => absurd q.1 (Nat.ne_of_beq_eq_false rfl))).trans ((gp_ne eG_10 (by decide)).trans ((gp_ne eG_8 (by decide)).trans ((gp_ne eG_7 (by decide)).trans ((gp_ne eG_6 (by decide)).trans ((gp_ne eG_5 (by decide)).trans ((gp_ne eG_4 (by decide)).trans (gp_eq eG_3))))))))))))))), ((gp_ne eG_19 (by decide)).trans ((gp_ne eG_18 (by decide)).trans ((gp_ne eG_17 (by decide)).trans ((gp_ne eG_16 (by decide)).trans ((gp_ne eG_15 (by decide)).trans ((gp_ne eG_14 (fun q => absurd q.1 (Nat.ne_of_beq_eq_false rfl))).trans ((gp_ne eG_13 (fun q => absurd q.1 (Nat.ne_of_beq_eq_false rfl))).trans ((gp_ne eG_12 (fun q => absurd q.1 (Nat.ne_of_beq_eq_false rfl))).trans ((gp_ne eG_10 (by decide)).trans ((gp_ne eG_8 (by decide)).trans ((gp_ne eG_7 (by decide)).trans ((gp_ne eG_6 (by decide)).trans (gp_eq eG_5))))))))))))), ((gp_ne eG_19 (by decide)).trans ((gp_ne eG_18 (by decide)).trans ((gp_ne eG_17 (by decide)).trans ((gp_ne eG_16 (by decide)).trans ((gp_ne eG_15 (by decide)).trans ((gp_ne eG_14 (fun q => absurd q.1 (Nat.ne_of_beq_eq_false rfl))).trans ((gp_ne eG_13 (fun q => absurd q.1 (Nat.ne_of_beq_eq_false rfl))).trans ((gp_ne eG_12 (fun q => absurd q.1 (Nat.ne_of_beq_eq_false rfl))).trans ((gp_ne eG_10 (by decide)).trans ((gp_ne eG_8 (by decide)).trans ((gp_ne eG_7 (by decide)).trans (gp_eq eG_6)))))))))))), ((gp_ne eG_19 (by decide)).trans ((gp_ne eG_18 (by decide)).trans ((gp_ne eG_17 (by decide)).trans ((gp_ne eG_16 (by decide)).trans ((gp_ne eG_15 (by decide)).trans ((gp_ne eG_14 (fun q => absurd q.1 (Nat.ne_of_beq_eq_false rfl))).trans ((gp_ne eG_13 (fun q => absurd q.1 (Nat.ne_of_beq_eq_false rfl))).trans ((gp_ne eG_12 (fun q => absurd q.1 (Nat.ne_of_beq_eq_false rfl))).trans ((gp_ne eG_10 (by decide)).trans ((gp_ne eG_8 (by decide)).trans ((gp_ne eG_7 (by decide)).trans ((gp_ne eG_6 (by decide)).trans ((gp_ne eG_5 (by decide)).trans (gp_eq eG_4)))))))))))))), ((gp_ne eG_19 (by decide)).trans ((gp_ne eG_18 (by decide)).trans ((gp_ne eG_17 (by decide)).trans ((gp_ne eG_16 (by decide)).trans ((gp_ne eG_15 (by decide)).trans ((gp_ne eG_14 (fun q => absurd q.1 (Nat.ne_of_beq_eq_false rfl))).trans ((gp_ne eG_13 (fun q => absurd q.1 (Nat.ne_of_beq_eq_false rfl))).trans ((gp_ne eG_12 (fun q => absurd q.1 (Nat.ne_of_beq_eq_false rfl))).trans ((gp_ne eG_10 (by decide)).trans ((gp_ne eG_8 (by decide)).trans ((gp_ne eG_7 (by decide)).trans ((gp_ne eG_6 (by decide)).trans ((gp_ne eG_5 (by decide)).trans ((gp_ne eG_4 (by decide)).trans ((gp_ne eG_3 (by decide)).trans (gp_eq eG_2)))))))))))))))), (gp_eq eG_19), ((gp_ne eG_19 (by decide)).trans ((gp_ne eG_18 (by decide)).trans ((gp_ne eG_17 (by decide)).trans ((gp_ne eG_16 (by decide)).trans ((gp_ne eG_15 (by decide)).trans ((gp_ne eG_14 (fun q => absurd q.1 (Nat.ne_of_beq_eq_false rfl))).trans ((gp_ne eG_13 (fun q => absurd q.1 (Nat.ne_of_beq_eq_false rfl))).trans ((gp_ne eG_12 (fun q => absurd q.1 (Nat.ne_of_beq_eq_false rfl))).trans ((gp_ne eG_10 (by decide)).trans ((gp_ne eG_8 (by decide)).trans (gp_eq eG_7))))))))))), ((gp_ne eG_19 (by decide)).trans ((gp_ne eG_18 (by decide)).trans ((gp_ne eG_17 (by decide)).trans ((gp_ne eG_16 (by decide)).trans ((gp_ne eG_15 (by decide)).trans ((gp_ne eG_14 (fun q => absurd q.1 (Nat.ne_of_beq_eq_false rfl))).trans ((gp_ne eG_13 (fun q => absurd q.1 (Nat.ne_of_beq_eq_false rfl))).trans ((gp_ne eG_12 (fun q => absurd q.1 (Nat.ne_of_beq_eq_false rfl))).trans ((gp_ne eG_10 (by decide)).trans (gp_eq eG_8)))))))))), ((gp_ne eG_19 (by decide)).trans ((gp_ne eG_18 (by decide)).trans ((gp_ne eG_17 (by decide)).trans ((gp_ne eG_16 (by decide)).trans ((gp_ne eG_15 (by decide)).trans ((gp_ne eG_14 (fun q => absurd q.1 (Nat.ne_of_beq_eq_false rfl))).trans ((gp_ne eG_13 (fun q => absurd q.1 (Nat.ne_of_beq_eq_false rfl))).trans ((gp_ne eG_12 (fun q => absurd q.1 (Nat.ne_of_beq_eq_false rfl))).trans (gp_eq eG_10))))))))), ((gp_ne eG_19 (by decide)).trans ((gp_ne eG_18 (by decide)).trans ((gp_ne eG_17 (by decide)).trans ((gp_ne eG_16 (by decide)).trans (gp_eq eG_15))))), ((gp_ne eG_19 (by decide)).trans ((gp_ne eG_18 (by decide)).trans ((gp_ne eG_17 (by decide)).trans (gp_eq eG_16)))), ((gp_ne eG_19 (by decide)).trans ((gp_ne eG_18 (by decide)).trans (gp_eq eG_17))), ((gp_ne eG_19 (by decide)).trans (gp_eq eG_18)), (rw_put eG_19 (by decide)).trans ((rw_put eG_18 (by decide)).trans ((rw_put eG_17 (by decide)).trans ((rw_put eG_16 (by decide)).trans ((rw_put eG_15 (by decide)).trans ((rw_ast eG_14).trans (congrArg (fun q => upd q ((2 : Int32).toNatClampNeg) 0) ((rw_ast eG_13).trans (congrArg (fun q => upd q ((1 : Int32).toNatClampNeg) 1) ((rw_ast eG_12).trans (congrArg (fun q => upd q ((0 : Int32).toNatClampNeg) 0) ((rw_put eG_10 (by decide)).trans ((rw_put eG_8 (by decide)).trans ((rw_put eG_7 (by decide)).trans ((rw_put eG_6 (by decide)).trans ((rw_put eG_5 (by decide)).trans ((rw_put eG_4 (by decide)).trans ((rw_put eG_3 (by decide)).trans (rw_put eG_2 (by decide))))))))))))))))))), ⟨G_23, hX_26, ⟨G_27, hX_31, f_42, hB_G_27, hq_28, (Or.inl ⟨c_45, ⟨c_47, rfl⟩⟩)⟩⟩⟩⟩), wd_t ht hW⟩, hS.F ht⟩) hS.2.2 dX12_readAll_116
    · have c_47 : (G_27.1 66 6).toInt ≠ 0 := xI_ne rfl rfl c_47
      refine lv_aload_n hx hb dX12_readAll_109 rfl (lv_at hl 0 rfl) ?_
      have b_49 : 0 ≤ (G_27.1 66 4).toInt ∧ (G_27.1 66 4).toInt ≤ 1600 := bd_66_4 hB_G_27
      refine S_callv (va_runV (As := []) (rest := []) ⟨hx, hb, hml, hown, hts⟩ (n_readLine l D k A a z G_27  ((by first | exact c_45 | omega)) ((by first | exact d_3.1 | omega)) ((by first | exact d_3.2.1 | omega)) ((by first | exact ⟨(by first | exact d_3.2.2.1 | omega), ⟨(by first | exact d_3.2.2.2.1 | omega), ⟨(by first | exact d_3.2.2.2.2.1 | omega), ⟨(by first | exact d_3.2.2.2.2.2.1 | omega), ⟨(by first | exact d_3.2.2.2.2.2.2.1 | omega), ⟨(by first | exact d_3.2.2.2.2.2.2.2.1 | omega), (by first | exact d_3.2.2.2.2.2.2.2.2 | omega)⟩⟩⟩⟩⟩⟩ | omega))) (cwV 0 hts (gd_V hgd m1619 m1621 m52 m131 m1622) rfl rfl rfl hd_X12_readLine ⟨Nat.le_of_ble_eq_true rfl, Nat.le_of_ble_eq_true rfl⟩) (pre_W hW hB_G_27 hK hZ hS kd_66 rfl) rfl rfl hl.1 rfl (lv_room (Nat.le_of_ble_eq_true rfl)) dX12_readAll_110 ⟨Nat.le_of_ble_eq_true rfl, Nat.le_of_ble_eq_true rfl⟩) hS (fun G_51 H locs hpo hW hS => ?_)
      have hX_54 : Q_readLine G_27 G_51 := hpo
      obtain ⟨hB_G_51, hq_52, ⟨d_4, d_5⟩, -⟩ := hpo
      have hF := hF.call9 hq_52 rfl rfl
      refine lv_goto (tgt := 95) hx hb dX12_readAll_113 rfl ?_
      have b_55 : 0 ≤ (G_51.1 66 2).toInt ∧ (G_51.1 66 2).toInt ≤ 4 := bd_66_2 hB_G_51
      have b_56 : 0 ≤ (G_51.1 66 4).toInt ∧ (G_51.1 66 4).toInt ≤ 1600 := bd_66_4 hB_G_51
      exact ih_29 (1604 - (G_51.1 66 4).toInt - (G_51.1 66 2).toInt : Int).toNat ((by first | (clear b_1 u_9 u_11 g_20 g_21 d_1 d_2 g_32 b_33 g_35 g_37 g_38 g_39 g_40 g_41 f_42 c_47; omega) | omega)) _ _ _ ⟨G_51, (Int.toNat_of_nonneg ((by first | exact ok_1025 b_55.2 b_56.2 | omega))), ((by first | exact (fun h9 => ⟨(by first | exact ok_1026 d_5 b_55.1 h9 | omega), ⟨(by first | exact ok_1027 d_5 b_55.1 h9 | omega), ⟨(by first | exact ok_1028 d_5 b_55.1 h9 | omega), ⟨(by first | exact ok_1029 d_5 b_55.1 h9 | omega), ⟨(by first | exact ok_1030 d_5 b_55.1 h9 | omega), ⟨(by first | exact ok_1031 d_5 b_55.1 h9 | omega), ⟨(by first | exact ok_1032 d_5 b_55.1 h9 | omega), ⟨(by first | exact ok_1033 d_5 b_55.1 h9 | omega), (by first | exact ok_1034 d_5 b_55.1 h9 | omega)⟩⟩⟩⟩⟩⟩⟩⟩) | omega)), (hX_31.st (St_n_readAll_1_mk ⟨G_27, G_51, rfl, rfl, f_42, hB_G_27, ⟨c_45, ⟨c_47, ⟨G_51, hX_54, rfl⟩⟩⟩⟩)), hW, hB_G_51, hF, (Fr.call9 (rs := [68, 69, 70, 71, 75, 77, 78, 79, 80, 81, 82, 83, 84, 85, 86]) (fs := [(66, 2), (66, 3), (66, 4), (66, 6), (66, 7), (66, 8), (66, 9), (66, 19), (66, 20), (66, 21), (66, 23), (66, 24), (66, 45), (66, 46), (66, 47), (66, 48), (66, 49), (66, 50), (66, 51)]) (Fr.call9 (rs := [68, 69, 70, 71, 75, 77, 78, 79, 80, 81, 82, 83, 84, 85, 86]) (fs := [(66, 2), (66, 3), (66, 4), (66, 6), (66, 7), (66, 8), (66, 9), (66, 19), (66, 20), (66, 21), (66, 23), (66, 24), (66, 45), (66, 46), (66, 47), (66, 48), (66, 49), (66, 50), (66, 51)]) Fr.rf hq_28 rfl rfl) hq_52 rfl rfl), hS, lv_sub hl [0] rfl⟩

theorem m88 : Cond.selects RX12 yX12_askOf yX12_askOf ∈ gd := gds_6 8 rfl
theorem m1328 : Cond.fieldLink RX12 30 "SlabWalkModel" "step" "[I" ∈ gd := gdc_6_0 12 rfl gw_fieldLink
theorem m1329 : Cond.fieldLink RX12 33 "SlabWalkModel" "arg" "[I" ∈ gd := gdc_6_0 13 rfl gw_fieldLink
theorem m1330 : Cond.fieldLink RX12 36 "SlabWalkModel" "many" "[I" ∈ gd := gdc_6_0 14 rfl gw_fieldLink
theorem m1332 : Cond.fieldLink RX12 42 "SlabWalkModel" "values" "[I" ∈ gd := gdc_6_1 0 rfl gw_fieldLink
theorem m1811 : Cond.methodLink RX12 352 yX12_askOf ∈ gd := gdc_8_0 15 rfl gw_methodLink
theorem m1813 : Cond.instanceMethod yX12_askOf ∈ gd := gdc_8_1 1 rfl gw_instanceMethod
theorem m1814 : Cond.code yX12_askOf cX12_askOf 3 (some .int) ∈ gd := gdc_8_1 2 rfl gw_code
theorem m1815 : Cond.methodLink RX12 355 yX12_done ∈ gd := gdc_8_1 3 rfl gw_methodLink
theorem m1816 : Cond.static yX12_done ∈ gd := gdc_8_1 4 rfl gw_static
theorem m1817 : Cond.code yX12_done cX12_done 3 (some .int) ∈ gd := gdc_8_1 5 rfl gw_code
theorem dX12_askOf_1 : decode cX12_askOf 1 = .ok (.tableswitch 112 0 7 #[47, 65, 65, 65, 65, 91, 98, 105], 47) := dq_of (by decide +kernel)
noncomputable def rbX12_askOf_0 : List (Nat × List Nat) := [(0, [28]), (48, [42]), (49, [180, 0, 75]), (52, [27]), (53, [46]), (54, [156, 0, 7]), (57, [4]), (58, [167, 0, 4]), (61, [3]), (62, [184, 1, 92]), (65, [172]), (66, [42]), (67, [180, 0, 75]), (70, [27]), (71, [46]), (72, [156, 0, 7]), (75, [3]), (76, [167, 0, 15]), (79, [42]), (80, [180, 0, 75]), (83, [27]), (84, [46]), (85, [28]), (86, [4])]
theorem rcX12_askOf_0 : dgo (lb cX12_askOf) 0 rbX12_askOf_0 = true := by decide +kernel
theorem dX12_askOf_0 : decode cX12_askOf 0 = .ok (.iload_n 2, 1) := dk_28 (dw rcX12_askOf_0 0 rfl)
theorem dX12_askOf_48 : decode cX12_askOf 48 = .ok (.aload_n 0, 1) := dk_42 (dw rcX12_askOf_0 1 rfl)
theorem dX12_askOf_49 : decode cX12_askOf 49 = .ok (.getfield 75, 3) := dk_180 (dw rcX12_askOf_0 2 rfl) rfl
theorem dX12_askOf_52 : decode cX12_askOf 52 = .ok (.iload_n 1, 1) := dk_27 (dw rcX12_askOf_0 3 rfl)
theorem dX12_askOf_53 : decode cX12_askOf 53 = .ok (.iaload, 1) := dk_46 (dw rcX12_askOf_0 4 rfl)
theorem dX12_askOf_54 : decode cX12_askOf 54 = .ok (.ifCond .ge 7, 3) := dk_156 (dw rcX12_askOf_0 5 rfl) rfl
theorem dX12_askOf_57 : decode cX12_askOf 57 = .ok (.iconst 1, 1) := dk_4 (dw rcX12_askOf_0 6 rfl)
theorem dX12_askOf_58 : decode cX12_askOf 58 = .ok (.goto 4, 3) := dk_167 (dw rcX12_askOf_0 7 rfl) rfl
theorem dX12_askOf_61 : decode cX12_askOf 61 = .ok (.iconst 0, 1) := dk_3 (dw rcX12_askOf_0 8 rfl)
theorem dX12_askOf_62 : decode cX12_askOf 62 = .ok (.invokestatic 348, 3) := dk_184 (dw rcX12_askOf_0 9 rfl) rfl
theorem dX12_askOf_65 : decode cX12_askOf 65 = .ok (.ireturn, 1) := dk_172 (dw rcX12_askOf_0 10 rfl)
theorem dX12_askOf_66 : decode cX12_askOf 66 = .ok (.aload_n 0, 1) := dk_42 (dw rcX12_askOf_0 11 rfl)
theorem dX12_askOf_67 : decode cX12_askOf 67 = .ok (.getfield 75, 3) := dk_180 (dw rcX12_askOf_0 12 rfl) rfl
theorem dX12_askOf_70 : decode cX12_askOf 70 = .ok (.iload_n 1, 1) := dk_27 (dw rcX12_askOf_0 13 rfl)
theorem dX12_askOf_71 : decode cX12_askOf 71 = .ok (.iaload, 1) := dk_46 (dw rcX12_askOf_0 14 rfl)
theorem dX12_askOf_72 : decode cX12_askOf 72 = .ok (.ifCond .ge 7, 3) := dk_156 (dw rcX12_askOf_0 15 rfl) rfl
theorem dX12_askOf_75 : decode cX12_askOf 75 = .ok (.iconst 0, 1) := dk_3 (dw rcX12_askOf_0 16 rfl)
theorem dX12_askOf_76 : decode cX12_askOf 76 = .ok (.goto 15, 3) := dk_167 (dw rcX12_askOf_0 17 rfl) rfl
theorem dX12_askOf_79 : decode cX12_askOf 79 = .ok (.aload_n 0, 1) := dk_42 (dw rcX12_askOf_0 18 rfl)
theorem dX12_askOf_80 : decode cX12_askOf 80 = .ok (.getfield 75, 3) := dk_180 (dw rcX12_askOf_0 19 rfl) rfl
theorem dX12_askOf_83 : decode cX12_askOf 83 = .ok (.iload_n 1, 1) := dk_27 (dw rcX12_askOf_0 20 rfl)
theorem dX12_askOf_84 : decode cX12_askOf 84 = .ok (.iaload, 1) := dk_46 (dw rcX12_askOf_0 21 rfl)
theorem dX12_askOf_85 : decode cX12_askOf 85 = .ok (.iload_n 2, 1) := dk_28 (dw rcX12_askOf_0 22 rfl)
theorem dX12_askOf_86 : decode cX12_askOf 86 = .ok (.iconst 1, 1) := dk_4 (dw rcX12_askOf_0 23 rfl)
noncomputable def rbX12_askOf_87 : List (Nat × List Nat) := [(87, [100]), (88, [122]), (89, [4]), (90, [126]), (91, [172]), (92, [42]), (93, [180, 0, 84]), (96, [27]), (97, [46]), (98, [172]), (99, [42]), (100, [180, 0, 78]), (103, [27]), (104, [46]), (105, [172]), (106, [42]), (107, [180, 0, 81]), (110, [27]), (111, [46]), (112, [172]), (113, [42]), (114, [180, 0, 151]), (117, [16, 6]), (119, [46])]
theorem rcX12_askOf_87 : dgo (lb cX12_askOf) 0 rbX12_askOf_87 = true := by decide +kernel
theorem dX12_askOf_87 : decode cX12_askOf 87 = .ok (.isub, 1) := dk_100 (dw rcX12_askOf_87 0 rfl)
theorem dX12_askOf_88 : decode cX12_askOf 88 = .ok (.ishr, 1) := dk_122 (dw rcX12_askOf_87 1 rfl)
theorem dX12_askOf_89 : decode cX12_askOf 89 = .ok (.iconst 1, 1) := dk_4 (dw rcX12_askOf_87 2 rfl)
theorem dX12_askOf_90 : decode cX12_askOf 90 = .ok (.iand, 1) := dk_126 (dw rcX12_askOf_87 3 rfl)
theorem dX12_askOf_91 : decode cX12_askOf 91 = .ok (.ireturn, 1) := dk_172 (dw rcX12_askOf_87 4 rfl)
theorem dX12_askOf_92 : decode cX12_askOf 92 = .ok (.aload_n 0, 1) := dk_42 (dw rcX12_askOf_87 5 rfl)
theorem dX12_askOf_93 : decode cX12_askOf 93 = .ok (.getfield 84, 3) := dk_180 (dw rcX12_askOf_87 6 rfl) rfl
theorem dX12_askOf_96 : decode cX12_askOf 96 = .ok (.iload_n 1, 1) := dk_27 (dw rcX12_askOf_87 7 rfl)
theorem dX12_askOf_97 : decode cX12_askOf 97 = .ok (.iaload, 1) := dk_46 (dw rcX12_askOf_87 8 rfl)
theorem dX12_askOf_98 : decode cX12_askOf 98 = .ok (.ireturn, 1) := dk_172 (dw rcX12_askOf_87 9 rfl)
theorem dX12_askOf_99 : decode cX12_askOf 99 = .ok (.aload_n 0, 1) := dk_42 (dw rcX12_askOf_87 10 rfl)
theorem dX12_askOf_100 : decode cX12_askOf 100 = .ok (.getfield 78, 3) := dk_180 (dw rcX12_askOf_87 11 rfl) rfl
theorem dX12_askOf_103 : decode cX12_askOf 103 = .ok (.iload_n 1, 1) := dk_27 (dw rcX12_askOf_87 12 rfl)
theorem dX12_askOf_104 : decode cX12_askOf 104 = .ok (.iaload, 1) := dk_46 (dw rcX12_askOf_87 13 rfl)
theorem dX12_askOf_105 : decode cX12_askOf 105 = .ok (.ireturn, 1) := dk_172 (dw rcX12_askOf_87 14 rfl)
theorem dX12_askOf_106 : decode cX12_askOf 106 = .ok (.aload_n 0, 1) := dk_42 (dw rcX12_askOf_87 15 rfl)
theorem dX12_askOf_107 : decode cX12_askOf 107 = .ok (.getfield 81, 3) := dk_180 (dw rcX12_askOf_87 16 rfl) rfl
theorem dX12_askOf_110 : decode cX12_askOf 110 = .ok (.iload_n 1, 1) := dk_27 (dw rcX12_askOf_87 17 rfl)
theorem dX12_askOf_111 : decode cX12_askOf 111 = .ok (.iaload, 1) := dk_46 (dw rcX12_askOf_87 18 rfl)
theorem dX12_askOf_112 : decode cX12_askOf 112 = .ok (.ireturn, 1) := dk_172 (dw rcX12_askOf_87 19 rfl)
theorem dX12_askOf_113 : decode cX12_askOf 113 = .ok (.aload_n 0, 1) := dk_42 (dw rcX12_askOf_87 20 rfl)
theorem dX12_askOf_114 : decode cX12_askOf 114 = .ok (.getfield 151, 3) := dk_180 (dw rcX12_askOf_87 21 rfl) rfl
theorem dX12_askOf_117 : decode cX12_askOf 117 = .ok (.bipush 6, 2) := dk_16 (dw rcX12_askOf_87 22 rfl) rfl
theorem dX12_askOf_119 : decode cX12_askOf 119 = .ok (.iaload, 1) := dk_46 (dw rcX12_askOf_87 23 rfl)
theorem dX12_askOf_120 : decode cX12_askOf 120 = .ok (.ireturn, 1) := dq_of (by decide +kernel)
noncomputable def rbX12_worked_0 : List (Nat × List Nat) := [(0, [3]), (1, [62]), (2, [17, 1, 64]), (5, [27]), (6, [104]), (7, [54, 4]), (9, [21, 4]), (11, [17, 1, 64]), (14, [27]), (15, [104]), (16, [42]), (17, [180, 0, 36]), (20, [27]), (21, [46]), (22, [96]), (23, [162, 0, 150]), (26, [42]), (27, [180, 0, 30]), (30, [21, 4]), (32, [46]), (33, [153, 0, 14]), (36, [42]), (37, [180, 0, 30]), (40, [21, 4])]
theorem rcX12_worked_0 : dgo (lb cX12_worked) 0 rbX12_worked_0 = true := by decide +kernel
theorem dX12_worked_0 : decode cX12_worked 0 = .ok (.iconst 0, 1) := dk_3 (dw rcX12_worked_0 0 rfl)
theorem dX12_worked_1 : decode cX12_worked 1 = .ok (.istore_n 3, 1) := dk_62 (dw rcX12_worked_0 1 rfl)
theorem dX12_worked_2 : decode cX12_worked 2 = .ok (.sipush 320, 3) := dk_17 (dw rcX12_worked_0 2 rfl) rfl
theorem dX12_worked_5 : decode cX12_worked 5 = .ok (.iload_n 1, 1) := dk_27 (dw rcX12_worked_0 3 rfl)
theorem dX12_worked_6 : decode cX12_worked 6 = .ok (.imul, 1) := dk_104 (dw rcX12_worked_0 4 rfl)
theorem dX12_worked_7 : decode cX12_worked 7 = .ok (.istore 4, 2) := dk_54 (dw rcX12_worked_0 5 rfl)
theorem dX12_worked_9 : decode cX12_worked 9 = .ok (.iload 4, 2) := dk_21 (dw rcX12_worked_0 6 rfl)
theorem dX12_worked_11 : decode cX12_worked 11 = .ok (.sipush 320, 3) := dk_17 (dw rcX12_worked_0 7 rfl) rfl
theorem dX12_worked_14 : decode cX12_worked 14 = .ok (.iload_n 1, 1) := dk_27 (dw rcX12_worked_0 8 rfl)
theorem dX12_worked_15 : decode cX12_worked 15 = .ok (.imul, 1) := dk_104 (dw rcX12_worked_0 9 rfl)
theorem dX12_worked_16 : decode cX12_worked 16 = .ok (.aload_n 0, 1) := dk_42 (dw rcX12_worked_0 10 rfl)
theorem dX12_worked_17 : decode cX12_worked 17 = .ok (.getfield 36, 3) := dk_180 (dw rcX12_worked_0 11 rfl) rfl
theorem dX12_worked_20 : decode cX12_worked 20 = .ok (.iload_n 1, 1) := dk_27 (dw rcX12_worked_0 12 rfl)
theorem dX12_worked_21 : decode cX12_worked 21 = .ok (.iaload, 1) := dk_46 (dw rcX12_worked_0 13 rfl)
theorem dX12_worked_22 : decode cX12_worked 22 = .ok (.iadd, 1) := dk_96 (dw rcX12_worked_0 14 rfl)
theorem dX12_worked_23 : decode cX12_worked 23 = .ok (.if_icmp .ge 150, 3) := dk_162 (dw rcX12_worked_0 15 rfl) rfl
theorem dX12_worked_26 : decode cX12_worked 26 = .ok (.aload_n 0, 1) := dk_42 (dw rcX12_worked_0 16 rfl)
theorem dX12_worked_27 : decode cX12_worked 27 = .ok (.getfield 30, 3) := dk_180 (dw rcX12_worked_0 17 rfl) rfl
theorem dX12_worked_30 : decode cX12_worked 30 = .ok (.iload 4, 2) := dk_21 (dw rcX12_worked_0 18 rfl)
theorem dX12_worked_32 : decode cX12_worked 32 = .ok (.iaload, 1) := dk_46 (dw rcX12_worked_0 19 rfl)
theorem dX12_worked_33 : decode cX12_worked 33 = .ok (.ifCond .eq 14, 3) := dk_153 (dw rcX12_worked_0 20 rfl) rfl
theorem dX12_worked_36 : decode cX12_worked 36 = .ok (.aload_n 0, 1) := dk_42 (dw rcX12_worked_0 21 rfl)
theorem dX12_worked_37 : decode cX12_worked 37 = .ok (.getfield 30, 3) := dk_180 (dw rcX12_worked_0 22 rfl) rfl
theorem dX12_worked_40 : decode cX12_worked 40 = .ok (.iload 4, 2) := dk_21 (dw rcX12_worked_0 23 rfl)
noncomputable def rbX12_worked_42 : List (Nat × List Nat) := [(42, [46]), (43, [4]), (44, [160, 0, 47]), (47, [42]), (48, [180, 0, 42]), (51, [29]), (52, [42]), (53, [180, 0, 30]), (56, [21, 4]), (58, [46]), (59, [154, 0, 13]), (62, [42]), (63, [180, 0, 33]), (66, [21, 4]), (68, [46]), (69, [167, 0, 15]), (72, [42]), (73, [28]), (74, [42]), (75, [180, 0, 33]), (78, [21, 4]), (80, [46]), (81, [182, 1, 96]), (84, [79])]
theorem rcX12_worked_42 : dgo (lb cX12_worked) 0 rbX12_worked_42 = true := by decide +kernel
theorem dX12_worked_42 : decode cX12_worked 42 = .ok (.iaload, 1) := dk_46 (dw rcX12_worked_42 0 rfl)
theorem dX12_worked_43 : decode cX12_worked 43 = .ok (.iconst 1, 1) := dk_4 (dw rcX12_worked_42 1 rfl)
theorem dX12_worked_44 : decode cX12_worked 44 = .ok (.if_icmp .ne 47, 3) := dk_160 (dw rcX12_worked_42 2 rfl) rfl
theorem dX12_worked_47 : decode cX12_worked 47 = .ok (.aload_n 0, 1) := dk_42 (dw rcX12_worked_42 3 rfl)
theorem dX12_worked_48 : decode cX12_worked 48 = .ok (.getfield 42, 3) := dk_180 (dw rcX12_worked_42 4 rfl) rfl
theorem dX12_worked_51 : decode cX12_worked 51 = .ok (.iload_n 3, 1) := dk_29 (dw rcX12_worked_42 5 rfl)
theorem dX12_worked_52 : decode cX12_worked 52 = .ok (.aload_n 0, 1) := dk_42 (dw rcX12_worked_42 6 rfl)
theorem dX12_worked_53 : decode cX12_worked 53 = .ok (.getfield 30, 3) := dk_180 (dw rcX12_worked_42 7 rfl) rfl
theorem dX12_worked_56 : decode cX12_worked 56 = .ok (.iload 4, 2) := dk_21 (dw rcX12_worked_42 8 rfl)
theorem dX12_worked_58 : decode cX12_worked 58 = .ok (.iaload, 1) := dk_46 (dw rcX12_worked_42 9 rfl)
theorem dX12_worked_59 : decode cX12_worked 59 = .ok (.ifCond .ne 13, 3) := dk_154 (dw rcX12_worked_42 10 rfl) rfl
theorem dX12_worked_62 : decode cX12_worked 62 = .ok (.aload_n 0, 1) := dk_42 (dw rcX12_worked_42 11 rfl)
theorem dX12_worked_63 : decode cX12_worked 63 = .ok (.getfield 33, 3) := dk_180 (dw rcX12_worked_42 12 rfl) rfl
theorem dX12_worked_66 : decode cX12_worked 66 = .ok (.iload 4, 2) := dk_21 (dw rcX12_worked_42 13 rfl)
theorem dX12_worked_68 : decode cX12_worked 68 = .ok (.iaload, 1) := dk_46 (dw rcX12_worked_42 14 rfl)
theorem dX12_worked_69 : decode cX12_worked 69 = .ok (.goto 15, 3) := dk_167 (dw rcX12_worked_42 15 rfl) rfl
theorem dX12_worked_72 : decode cX12_worked 72 = .ok (.aload_n 0, 1) := dk_42 (dw rcX12_worked_42 16 rfl)
theorem dX12_worked_73 : decode cX12_worked 73 = .ok (.iload_n 2, 1) := dk_28 (dw rcX12_worked_42 17 rfl)
theorem dX12_worked_74 : decode cX12_worked 74 = .ok (.aload_n 0, 1) := dk_42 (dw rcX12_worked_42 18 rfl)
theorem dX12_worked_75 : decode cX12_worked 75 = .ok (.getfield 33, 3) := dk_180 (dw rcX12_worked_42 19 rfl) rfl
theorem dX12_worked_78 : decode cX12_worked 78 = .ok (.iload 4, 2) := dk_21 (dw rcX12_worked_42 20 rfl)
theorem dX12_worked_80 : decode cX12_worked 80 = .ok (.iaload, 1) := dk_46 (dw rcX12_worked_42 21 rfl)
theorem dX12_worked_81 : decode cX12_worked 81 = .ok (.invokevirtual 352, 3) := dk_182 (dw rcX12_worked_42 22 rfl) rfl
theorem dX12_worked_84 : decode cX12_worked 84 = .ok (.iastore, 1) := dk_79 (dw rcX12_worked_42 23 rfl)
noncomputable def rbX12_worked_85 : List (Nat × List Nat) := [(85, [132, 3, 1]), (88, [167, 0, 79]), (91, [42]), (92, [180, 0, 30]), (95, [21, 4]), (97, [46]), (98, [5]), (99, [160, 0, 33]), (102, [42]), (103, [180, 0, 42]), (106, [29]), (107, [4]), (108, [100]), (109, [42]), (110, [180, 0, 42]), (113, [29]), (114, [4]), (115, [100]), (116, [46]), (117, [154, 0, 7]), (120, [4]), (121, [167, 0, 4]), (124, [3]), (125, [184, 1, 92])]
theorem rcX12_worked_85 : dgo (lb cX12_worked) 0 rbX12_worked_85 = true := by decide +kernel
theorem dX12_worked_85 : decode cX12_worked 85 = .ok (.iinc 3 1, 3) := dk_132 (dw rcX12_worked_85 0 rfl) rfl
theorem dX12_worked_88 : decode cX12_worked 88 = .ok (.goto 79, 3) := dk_167 (dw rcX12_worked_85 1 rfl) rfl
theorem dX12_worked_91 : decode cX12_worked 91 = .ok (.aload_n 0, 1) := dk_42 (dw rcX12_worked_85 2 rfl)
theorem dX12_worked_92 : decode cX12_worked 92 = .ok (.getfield 30, 3) := dk_180 (dw rcX12_worked_85 3 rfl) rfl
theorem dX12_worked_95 : decode cX12_worked 95 = .ok (.iload 4, 2) := dk_21 (dw rcX12_worked_85 4 rfl)
theorem dX12_worked_97 : decode cX12_worked 97 = .ok (.iaload, 1) := dk_46 (dw rcX12_worked_85 5 rfl)
theorem dX12_worked_98 : decode cX12_worked 98 = .ok (.iconst 2, 1) := dk_5 (dw rcX12_worked_85 6 rfl)
theorem dX12_worked_99 : decode cX12_worked 99 = .ok (.if_icmp .ne 33, 3) := dk_160 (dw rcX12_worked_85 7 rfl) rfl
theorem dX12_worked_102 : decode cX12_worked 102 = .ok (.aload_n 0, 1) := dk_42 (dw rcX12_worked_85 8 rfl)
theorem dX12_worked_103 : decode cX12_worked 103 = .ok (.getfield 42, 3) := dk_180 (dw rcX12_worked_85 9 rfl) rfl
theorem dX12_worked_106 : decode cX12_worked 106 = .ok (.iload_n 3, 1) := dk_29 (dw rcX12_worked_85 10 rfl)
theorem dX12_worked_107 : decode cX12_worked 107 = .ok (.iconst 1, 1) := dk_4 (dw rcX12_worked_85 11 rfl)
theorem dX12_worked_108 : decode cX12_worked 108 = .ok (.isub, 1) := dk_100 (dw rcX12_worked_85 12 rfl)
theorem dX12_worked_109 : decode cX12_worked 109 = .ok (.aload_n 0, 1) := dk_42 (dw rcX12_worked_85 13 rfl)
theorem dX12_worked_110 : decode cX12_worked 110 = .ok (.getfield 42, 3) := dk_180 (dw rcX12_worked_85 14 rfl) rfl
theorem dX12_worked_113 : decode cX12_worked 113 = .ok (.iload_n 3, 1) := dk_29 (dw rcX12_worked_85 15 rfl)
theorem dX12_worked_114 : decode cX12_worked 114 = .ok (.iconst 1, 1) := dk_4 (dw rcX12_worked_85 16 rfl)
theorem dX12_worked_115 : decode cX12_worked 115 = .ok (.isub, 1) := dk_100 (dw rcX12_worked_85 17 rfl)
theorem dX12_worked_116 : decode cX12_worked 116 = .ok (.iaload, 1) := dk_46 (dw rcX12_worked_85 18 rfl)
theorem dX12_worked_117 : decode cX12_worked 117 = .ok (.ifCond .ne 7, 3) := dk_154 (dw rcX12_worked_85 19 rfl) rfl
theorem dX12_worked_120 : decode cX12_worked 120 = .ok (.iconst 1, 1) := dk_4 (dw rcX12_worked_85 20 rfl)
theorem dX12_worked_121 : decode cX12_worked 121 = .ok (.goto 4, 3) := dk_167 (dw rcX12_worked_85 21 rfl) rfl
theorem dX12_worked_124 : decode cX12_worked 124 = .ok (.iconst 0, 1) := dk_3 (dw rcX12_worked_85 22 rfl)
theorem dX12_worked_125 : decode cX12_worked 125 = .ok (.invokestatic 348, 3) := dk_184 (dw rcX12_worked_85 23 rfl) rfl
noncomputable def rbX12_worked_128 : List (Nat × List Nat) := [(128, [79]), (129, [167, 0, 38]), (132, [132, 3, 255]), (135, [42]), (136, [180, 0, 42]), (139, [29]), (140, [4]), (141, [100]), (142, [42]), (143, [180, 0, 33]), (146, [21, 4]), (148, [46]), (149, [42]), (150, [180, 0, 42]), (153, [29]), (154, [4]), (155, [100]), (156, [46]), (157, [42]), (158, [180, 0, 42]), (161, [29]), (162, [46]), (163, [184, 1, 99]), (166, [79])]
theorem rcX12_worked_128 : dgo (lb cX12_worked) 0 rbX12_worked_128 = true := by decide +kernel
theorem dX12_worked_128 : decode cX12_worked 128 = .ok (.iastore, 1) := dk_79 (dw rcX12_worked_128 0 rfl)
theorem dX12_worked_129 : decode cX12_worked 129 = .ok (.goto 38, 3) := dk_167 (dw rcX12_worked_128 1 rfl) rfl
theorem dX12_worked_132 : decode cX12_worked 132 = .ok (.iinc 3 (-1), 3) := dk_132 (dw rcX12_worked_128 2 rfl) rfl
theorem dX12_worked_135 : decode cX12_worked 135 = .ok (.aload_n 0, 1) := dk_42 (dw rcX12_worked_128 3 rfl)
theorem dX12_worked_136 : decode cX12_worked 136 = .ok (.getfield 42, 3) := dk_180 (dw rcX12_worked_128 4 rfl) rfl
theorem dX12_worked_139 : decode cX12_worked 139 = .ok (.iload_n 3, 1) := dk_29 (dw rcX12_worked_128 5 rfl)
theorem dX12_worked_140 : decode cX12_worked 140 = .ok (.iconst 1, 1) := dk_4 (dw rcX12_worked_128 6 rfl)
theorem dX12_worked_141 : decode cX12_worked 141 = .ok (.isub, 1) := dk_100 (dw rcX12_worked_128 7 rfl)
theorem dX12_worked_142 : decode cX12_worked 142 = .ok (.aload_n 0, 1) := dk_42 (dw rcX12_worked_128 8 rfl)
theorem dX12_worked_143 : decode cX12_worked 143 = .ok (.getfield 33, 3) := dk_180 (dw rcX12_worked_128 9 rfl) rfl
theorem dX12_worked_146 : decode cX12_worked 146 = .ok (.iload 4, 2) := dk_21 (dw rcX12_worked_128 10 rfl)
theorem dX12_worked_148 : decode cX12_worked 148 = .ok (.iaload, 1) := dk_46 (dw rcX12_worked_128 11 rfl)
theorem dX12_worked_149 : decode cX12_worked 149 = .ok (.aload_n 0, 1) := dk_42 (dw rcX12_worked_128 12 rfl)
theorem dX12_worked_150 : decode cX12_worked 150 = .ok (.getfield 42, 3) := dk_180 (dw rcX12_worked_128 13 rfl) rfl
theorem dX12_worked_153 : decode cX12_worked 153 = .ok (.iload_n 3, 1) := dk_29 (dw rcX12_worked_128 14 rfl)
theorem dX12_worked_154 : decode cX12_worked 154 = .ok (.iconst 1, 1) := dk_4 (dw rcX12_worked_128 15 rfl)
theorem dX12_worked_155 : decode cX12_worked 155 = .ok (.isub, 1) := dk_100 (dw rcX12_worked_128 16 rfl)
theorem dX12_worked_156 : decode cX12_worked 156 = .ok (.iaload, 1) := dk_46 (dw rcX12_worked_128 17 rfl)
theorem dX12_worked_157 : decode cX12_worked 157 = .ok (.aload_n 0, 1) := dk_42 (dw rcX12_worked_128 18 rfl)
theorem dX12_worked_158 : decode cX12_worked 158 = .ok (.getfield 42, 3) := dk_180 (dw rcX12_worked_128 19 rfl) rfl
theorem dX12_worked_161 : decode cX12_worked 161 = .ok (.iload_n 3, 1) := dk_29 (dw rcX12_worked_128 20 rfl)
theorem dX12_worked_162 : decode cX12_worked 162 = .ok (.iaload, 1) := dk_46 (dw rcX12_worked_128 21 rfl)
theorem dX12_worked_163 : decode cX12_worked 163 = .ok (.invokestatic 355, 3) := dk_184 (dw rcX12_worked_128 22 rfl) rfl
theorem dX12_worked_166 : decode cX12_worked 166 = .ok (.iastore, 1) := dk_79 (dw rcX12_worked_128 23 rfl)
noncomputable def rbX12_worked_167 : List (Nat × List Nat) := [(167, [132, 4, 1]), (170, [167, 255, 95]), (173, [42]), (174, [180, 0, 42]), (177, [3]), (178, [46]), (179, [172])]
theorem rcX12_worked_167 : dgo (lb cX12_worked) 0 rbX12_worked_167 = true := by decide +kernel
theorem dX12_worked_167 : decode cX12_worked 167 = .ok (.iinc 4 1, 3) := dk_132 (dw rcX12_worked_167 0 rfl) rfl
theorem dX12_worked_170 : decode cX12_worked 170 = .ok (.goto (-161), 3) := dk_167 (dw rcX12_worked_167 1 rfl) rfl
theorem dX12_worked_173 : decode cX12_worked 173 = .ok (.aload_n 0, 1) := dk_42 (dw rcX12_worked_167 2 rfl)
theorem dX12_worked_174 : decode cX12_worked 174 = .ok (.getfield 42, 3) := dk_180 (dw rcX12_worked_167 3 rfl) rfl
theorem dX12_worked_177 : decode cX12_worked 177 = .ok (.iconst 0, 1) := dk_3 (dw rcX12_worked_167 4 rfl)
theorem dX12_worked_178 : decode cX12_worked 178 = .ok (.iaload, 1) := dk_46 (dw rcX12_worked_167 5 rfl)
theorem dX12_worked_179 : decode cX12_worked 179 = .ok (.ireturn, 1) := dk_172 (dw rcX12_worked_167 6 rfl)
set_option maxHeartbeats 4000000 in
set_option maxRecDepth 100000 in
theorem n_askOf (l : Launch) (D : va_G) (k : KT) (A : Nat → Prop) (a : Nat → Nat) (z : SK) (G : GS) (p0 : Int32) (p1 : Int32) (ha_p0 : 0 ≤ p0.toInt ∧ p0.toInt ≤ 1199) : Met l yX12_askOf (WS yX12_askOf cX12_askOf 3 (some .int)) ({ frames := 1, cells := 0, slots := 0, locals := 20 }) (va_Pc [.ref (a 66), .int p0, .int p1] (cW D k A a z G)) (va_Qi (fun (r : Int32) (G1 : GS) => Q_askOf p0 p1 G r G1) (fun (G1 : GS) t => Wd D k A a G1 t.heap) A) 0 0 A := by
  refine Met.ofW (cc := cX12_askOf) (maxL := 3) (ret := (some .int)) (by decide) rfl ?_
  intro p e s m args below meth c s₁ B hml hv
  obtain ⟨rfl, hW, hB_G, hK, hZ⟩ := hv
  have hx := B.exec
  have hb := B.bytes
  have hr := B.returns
  have hts := atoms_spec (ws := WS yX12_askOf cX12_askOf 3 (some .int)) B.pre
  have hgd : ∀ w ∈ gd, w ∈ WS yX12_askOf cX12_askOf 3 (some .int) := fun w h => List.mem_cons_of_mem _ h
  have hg : ∀ w ∈ gd, w.before _ s = true := fun w h => hts w (hgd w h)
  have hown : s.vm.findClass RX12 = some m.cls := findClass_of_methodNamed B.named
  have hS : va_S A s.heap s.heap [] := va_S.rf
  have hF : Fr [] [] G G := Fr.rf
  have hl := lv_entry ([.ref (a 66), .int p0, .int p1]) (n := 3) (Nat.le_of_ble_eq_true rfl)
  rw [lg_entry_eq]
  generalize (lg_sl ([.ref (a 66), .int p0, .int p1]) ++ List.replicate (3 - (lg_sl ([.ref (a 66), .int p0, .int p1])).length) Slot.unset).toArray = ls at hl ⊢
  have hl : lv_has ls 3 [(0, .ref (a 66)), (1, .int p0), (2, .int p1)] := hl
  refine lv_iload_n hx hb dX12_askOf_0 rfl (lv_at hl 2 rfl) ?_
  by_cases c_1 : p1 = 0
  · refine lv_tableIn (tgt := 48) hx hb dX12_askOf_1 (by rw [c_1]; decide) (by rw [c_1]; decide) (off := 47) (by rw [c_1]; decide) (by decide) ?_
    have c_1 : p1.toInt = 0 := xI_eq rfl rfl c_1
    refine lv_aload_n hx hb dX12_askOf_48 rfl (lv_at hl 0 rfl) ?_
    refine S_getR (n := 87) (C := RX12) (T := TX12) (N := 89) hx hb hg iX12 hown hK hW kd_66 rfl 35 (lt_b rfl) (hg (Cond.fieldLink RX12 75 "SlabWalkModel" "marks" "[I") m1349) (fun _ h9 => h9) rfl dX12_askOf_49 ?_
    refine lv_iload_n hx hb dX12_askOf_52 rfl (lv_at hl 1 rfl) ?_
    refine S_iald hx hb hK hW kd_87 (vin ((by first | exact ha_p0.1 | omega)) ((by first | exact ok_1035 ha_p0.2 | omega))) dX12_askOf_53 (fun y_2 ey_2 => ?_)
    refine lv_if_ge (tgt := 61) hx hb dX12_askOf_54 rfl (fun c_3 => ?_) (fun c_3 => ?_)
    · have c_3 : 0 ≤ y_2.toInt := xI_le rfl rfl c_3
      refine ic_0 hx hb dX12_askOf_61 ?_
      have qc_4 : (0 : Int32).toInt = 0 := rfl
      refine S_calli (va_runS (As := [.int 0]) (rest := []) ⟨hx, hb, hml, hown, hts⟩ (n_truth l D k A a z G 0 ⟨by decide, by decide⟩) (va_cwS 1 hts (gd_S hgd m1788 m1789 m131 m1790) rfl rfl rfl hd_X12_truth.2 ⟨Nat.le_of_ble_eq_true rfl, Nat.le_of_ble_eq_true rfl⟩) (pre_S hW hB_G hK hZ hS) rfl rfl hl.1 rfl (lv_room (Nat.le_of_ble_eq_true rfl)) dX12_askOf_62 ⟨Nat.le_of_ble_eq_true rfl, Nat.le_of_ble_eq_true rfl⟩) hS (fun r_5 G_6 H locs hpo hW hS => ?_)
      have hX_9 : Q_truth 0 G r_5 G_6 := hpo
      obtain ⟨hB_G_6, hq_7, f_10, hp_8, -⟩ := hpo
      have hF := hF.call9 hq_7 rfl rfl
      exact W.iret (v := r_5) hx hb hr (fun t ht _ => ⟨⟨r_5, G_6, rfl, (Q_askOf_mk ⟨hB_G_6, hF, (Or.inl ⟨c_1, ⟨y_2, ey_2, (Or.inl ⟨c_3, ⟨r_5, G_6, hX_9, ⟨rfl, rfl⟩⟩⟩)⟩⟩)⟩), wd_t ht hW⟩, hS.F ht⟩) hS.2.2 dX12_askOf_65
    · have c_3 : y_2.toInt < 0 := xI_nle rfl rfl c_3
      refine ic_1 hx hb dX12_askOf_57 ?_
      refine lv_goto (tgt := 62) hx hb dX12_askOf_58 rfl ?_
      have qc_11 : (1 : Int32).toInt = 1 := rfl
      refine S_calli (va_runS (As := [.int 1]) (rest := []) ⟨hx, hb, hml, hown, hts⟩ (n_truth l D k A a z G 1 ⟨by decide, by decide⟩) (va_cwS 1 hts (gd_S hgd m1788 m1789 m131 m1790) rfl rfl rfl hd_X12_truth.2 ⟨Nat.le_of_ble_eq_true rfl, Nat.le_of_ble_eq_true rfl⟩) (pre_S hW hB_G hK hZ hS) rfl rfl hl.1 rfl (lv_room (Nat.le_of_ble_eq_true rfl)) dX12_askOf_62 ⟨Nat.le_of_ble_eq_true rfl, Nat.le_of_ble_eq_true rfl⟩) hS (fun r_12 G_13 H locs hpo hW hS => ?_)
      have hX_16 : Q_truth 1 G r_12 G_13 := hpo
      obtain ⟨hB_G_13, hq_14, f_17, hp_15, -⟩ := hpo
      have hF := hF.call9 hq_14 rfl rfl
      exact W.iret (v := r_12) hx hb hr (fun t ht _ => ⟨⟨r_12, G_13, rfl, (Q_askOf_mk ⟨hB_G_13, hF, (Or.inl ⟨c_1, ⟨y_2, ey_2, (Or.inr ⟨c_3, ⟨r_12, G_13, hX_16, ⟨rfl, rfl⟩⟩⟩)⟩⟩)⟩), wd_t ht hW⟩, hS.F ht⟩) hS.2.2 dX12_askOf_65
  by_cases c_18 : p1 = 1
  · refine lv_tableIn (tgt := 66) hx hb dX12_askOf_1 (by rw [c_18]; decide) (by rw [c_18]; decide) (off := 65) (by rw [c_18]; decide) (by decide) ?_
    have c_18 : p1.toInt = 1 := xI_eq rfl rfl c_18
    refine lv_aload_n hx hb dX12_askOf_66 rfl (lv_at hl 0 rfl) ?_
    refine S_getR (n := 87) (C := RX12) (T := TX12) (N := 89) hx hb hg iX12 hown hK hW kd_66 rfl 35 (lt_b rfl) (hg (Cond.fieldLink RX12 75 "SlabWalkModel" "marks" "[I") m1349) (fun _ h9 => h9) rfl dX12_askOf_67 ?_
    refine lv_iload_n hx hb dX12_askOf_70 rfl (lv_at hl 1 rfl) ?_
    refine S_iald hx hb hK hW kd_87 (vin ((by first | exact ha_p0.1 | omega)) ((by first | exact ok_1035 ha_p0.2 | omega))) dX12_askOf_71 (fun y_19 ey_19 => ?_)
    refine lv_if_ge (tgt := 79) hx hb dX12_askOf_72 rfl (fun c_20 => ?_) (fun c_20 => ?_)
    · have c_20 : 0 ≤ y_19.toInt := xI_le rfl rfl c_20
      refine lv_aload_n hx hb dX12_askOf_79 rfl (lv_at hl 0 rfl) ?_
      refine S_getR (n := 87) (C := RX12) (T := TX12) (N := 89) hx hb hg iX12 hown hK hW kd_66 rfl 35 (lt_b rfl) (hg (Cond.fieldLink RX12 75 "SlabWalkModel" "marks" "[I") m1349) (fun _ h9 => h9) rfl dX12_askOf_80 ?_
      refine lv_iload_n hx hb dX12_askOf_83 rfl (lv_at hl 1 rfl) ?_
      refine S_iald hx hb hK hW kd_87 (vin ((by first | exact ha_p0.1 | omega)) ((by first | exact ok_1035 ha_p0.2 | omega))) dX12_askOf_84 (fun y_21 ey_21 => ?_)
      refine lv_iload_n hx hb dX12_askOf_85 rfl (lv_at hl 2 rfl) ?_
      refine ic_1 hx hb dX12_askOf_86 ?_
      refine lv_isub hx hb dX12_askOf_87 ?_
      refine lv_topi (fun y_22 ey_22 => ?_)
      have ty_22 : y_22.toInt = p1.toInt - 1 := xI_sub rfl rfl ey_22 ((by first | exact ok_1036 c_18 | omega)) ((by first | exact ok_1037 c_18 | omega))
      refine lv_ishr hx hb dX12_askOf_88 ?_
      refine lv_topi (fun y_23 ey_23 => ?_)
      refine ic_1 hx hb dX12_askOf_89 ?_
      refine lv_iand hx hb dX12_askOf_90 ?_
      refine lv_topi (fun y_24 ey_24 => ?_)
      have ty_24 := xI_and (Y := 1) rfl ey_24 (by decide)
      exact W.iret (v := y_24) hx hb hr (fun t ht _ => ⟨⟨y_24, G, rfl, (Q_askOf_mk ⟨hB_G, hF, (Or.inr ⟨(xI_ne (Y := 0) rfl rfl c_1), (Or.inl ⟨c_18, ⟨y_19, ey_19, (Or.inl ⟨c_20, ⟨y_21, ey_21, ⟨y_22, ty_22, ⟨y_23, ey_23, ⟨y_24, ey_24, ⟨rfl, rfl⟩⟩⟩⟩⟩⟩)⟩⟩)⟩)⟩), wd_t ht hW⟩, hS.F ht⟩) hS.2.2 dX12_askOf_91
    · have c_20 : y_19.toInt < 0 := xI_nle rfl rfl c_20
      refine ic_0 hx hb dX12_askOf_75 ?_
      refine lv_goto (tgt := 91) hx hb dX12_askOf_76 rfl ?_
      exact W.iret (v := 0) hx hb hr (fun t ht _ => ⟨⟨0, G, rfl, (Q_askOf_mk ⟨hB_G, hF, (Or.inr ⟨(xI_ne (Y := 0) rfl rfl c_1), (Or.inl ⟨c_18, ⟨y_19, ey_19, (Or.inr ⟨c_20, ⟨rfl, rfl⟩⟩)⟩⟩)⟩)⟩), wd_t ht hW⟩, hS.F ht⟩) hS.2.2 dX12_askOf_91
  by_cases c_25 : p1 = 2
  · refine lv_tableIn (tgt := 66) hx hb dX12_askOf_1 (by rw [c_25]; decide) (by rw [c_25]; decide) (off := 65) (by rw [c_25]; decide) (by decide) ?_
    have c_25 : p1.toInt = 2 := xI_eq rfl rfl c_25
    refine lv_aload_n hx hb dX12_askOf_66 rfl (lv_at hl 0 rfl) ?_
    refine S_getR (n := 87) (C := RX12) (T := TX12) (N := 89) hx hb hg iX12 hown hK hW kd_66 rfl 35 (lt_b rfl) (hg (Cond.fieldLink RX12 75 "SlabWalkModel" "marks" "[I") m1349) (fun _ h9 => h9) rfl dX12_askOf_67 ?_
    refine lv_iload_n hx hb dX12_askOf_70 rfl (lv_at hl 1 rfl) ?_
    refine S_iald hx hb hK hW kd_87 (vin ((by first | exact ha_p0.1 | omega)) ((by first | exact ok_1035 ha_p0.2 | omega))) dX12_askOf_71 (fun y_26 ey_26 => ?_)
    refine lv_if_ge (tgt := 79) hx hb dX12_askOf_72 rfl (fun c_27 => ?_) (fun c_27 => ?_)
    · have c_27 : 0 ≤ y_26.toInt := xI_le rfl rfl c_27
      refine lv_aload_n hx hb dX12_askOf_79 rfl (lv_at hl 0 rfl) ?_
      refine S_getR (n := 87) (C := RX12) (T := TX12) (N := 89) hx hb hg iX12 hown hK hW kd_66 rfl 35 (lt_b rfl) (hg (Cond.fieldLink RX12 75 "SlabWalkModel" "marks" "[I") m1349) (fun _ h9 => h9) rfl dX12_askOf_80 ?_
      refine lv_iload_n hx hb dX12_askOf_83 rfl (lv_at hl 1 rfl) ?_
      refine S_iald hx hb hK hW kd_87 (vin ((by first | exact ha_p0.1 | omega)) ((by first | exact ok_1035 ha_p0.2 | omega))) dX12_askOf_84 (fun y_28 ey_28 => ?_)
      refine lv_iload_n hx hb dX12_askOf_85 rfl (lv_at hl 2 rfl) ?_
      refine ic_1 hx hb dX12_askOf_86 ?_
      refine lv_isub hx hb dX12_askOf_87 ?_
      refine lv_topi (fun y_29 ey_29 => ?_)
      have ty_29 : y_29.toInt = p1.toInt - 1 := xI_sub rfl rfl ey_29 ((by first | exact ok_1038 c_25 | omega)) ((by first | exact ok_1039 c_25 | omega))
      refine lv_ishr hx hb dX12_askOf_88 ?_
      refine lv_topi (fun y_30 ey_30 => ?_)
      refine ic_1 hx hb dX12_askOf_89 ?_
      refine lv_iand hx hb dX12_askOf_90 ?_
      refine lv_topi (fun y_31 ey_31 => ?_)
      have ty_31 := xI_and (Y := 1) rfl ey_31 (by decide)
      exact W.iret (v := y_31) hx hb hr (fun t ht _ => ⟨⟨y_31, G, rfl, (Q_askOf_mk ⟨hB_G, hF, (Or.inr ⟨(xI_ne (Y := 0) rfl rfl c_1), (Or.inr ⟨(xI_ne (Y := 1) rfl rfl c_18), (Or.inl ⟨c_25, ⟨y_26, ey_26, (Or.inl ⟨c_27, ⟨y_28, ey_28, ⟨y_29, ty_29, ⟨y_30, ey_30, ⟨y_31, ey_31, ⟨rfl, rfl⟩⟩⟩⟩⟩⟩)⟩⟩)⟩)⟩)⟩), wd_t ht hW⟩, hS.F ht⟩) hS.2.2 dX12_askOf_91
    · have c_27 : y_26.toInt < 0 := xI_nle rfl rfl c_27
      refine ic_0 hx hb dX12_askOf_75 ?_
      refine lv_goto (tgt := 91) hx hb dX12_askOf_76 rfl ?_
      exact W.iret (v := 0) hx hb hr (fun t ht _ => ⟨⟨0, G, rfl, (Q_askOf_mk ⟨hB_G, hF, (Or.inr ⟨(xI_ne (Y := 0) rfl rfl c_1), (Or.inr ⟨(xI_ne (Y := 1) rfl rfl c_18), (Or.inl ⟨c_25, ⟨y_26, ey_26, (Or.inr ⟨c_27, ⟨rfl, rfl⟩⟩)⟩⟩)⟩)⟩)⟩), wd_t ht hW⟩, hS.F ht⟩) hS.2.2 dX12_askOf_91
  by_cases c_32 : p1 = 3
  · refine lv_tableIn (tgt := 66) hx hb dX12_askOf_1 (by rw [c_32]; decide) (by rw [c_32]; decide) (off := 65) (by rw [c_32]; decide) (by decide) ?_
    have c_32 : p1.toInt = 3 := xI_eq rfl rfl c_32
    refine lv_aload_n hx hb dX12_askOf_66 rfl (lv_at hl 0 rfl) ?_
    refine S_getR (n := 87) (C := RX12) (T := TX12) (N := 89) hx hb hg iX12 hown hK hW kd_66 rfl 35 (lt_b rfl) (hg (Cond.fieldLink RX12 75 "SlabWalkModel" "marks" "[I") m1349) (fun _ h9 => h9) rfl dX12_askOf_67 ?_
    refine lv_iload_n hx hb dX12_askOf_70 rfl (lv_at hl 1 rfl) ?_
    refine S_iald hx hb hK hW kd_87 (vin ((by first | exact ha_p0.1 | omega)) ((by first | exact ok_1035 ha_p0.2 | omega))) dX12_askOf_71 (fun y_33 ey_33 => ?_)
    refine lv_if_ge (tgt := 79) hx hb dX12_askOf_72 rfl (fun c_34 => ?_) (fun c_34 => ?_)
    · have c_34 : 0 ≤ y_33.toInt := xI_le rfl rfl c_34
      refine lv_aload_n hx hb dX12_askOf_79 rfl (lv_at hl 0 rfl) ?_
      refine S_getR (n := 87) (C := RX12) (T := TX12) (N := 89) hx hb hg iX12 hown hK hW kd_66 rfl 35 (lt_b rfl) (hg (Cond.fieldLink RX12 75 "SlabWalkModel" "marks" "[I") m1349) (fun _ h9 => h9) rfl dX12_askOf_80 ?_
      refine lv_iload_n hx hb dX12_askOf_83 rfl (lv_at hl 1 rfl) ?_
      refine S_iald hx hb hK hW kd_87 (vin ((by first | exact ha_p0.1 | omega)) ((by first | exact ok_1035 ha_p0.2 | omega))) dX12_askOf_84 (fun y_35 ey_35 => ?_)
      refine lv_iload_n hx hb dX12_askOf_85 rfl (lv_at hl 2 rfl) ?_
      refine ic_1 hx hb dX12_askOf_86 ?_
      refine lv_isub hx hb dX12_askOf_87 ?_
      refine lv_topi (fun y_36 ey_36 => ?_)
      have ty_36 : y_36.toInt = p1.toInt - 1 := xI_sub rfl rfl ey_36 ((by first | exact ok_1040 c_32 | omega)) ((by first | exact ok_1041 c_32 | omega))
      refine lv_ishr hx hb dX12_askOf_88 ?_
      refine lv_topi (fun y_37 ey_37 => ?_)
      refine ic_1 hx hb dX12_askOf_89 ?_
      refine lv_iand hx hb dX12_askOf_90 ?_
      refine lv_topi (fun y_38 ey_38 => ?_)
      have ty_38 := xI_and (Y := 1) rfl ey_38 (by decide)
      exact W.iret (v := y_38) hx hb hr (fun t ht _ => ⟨⟨y_38, G, rfl, (Q_askOf_mk ⟨hB_G, hF, (Or.inr ⟨(xI_ne (Y := 0) rfl rfl c_1), (Or.inr ⟨(xI_ne (Y := 1) rfl rfl c_18), (Or.inr ⟨(xI_ne (Y := 2) rfl rfl c_25), (Or.inl ⟨c_32, ⟨y_33, ey_33, (Or.inl ⟨c_34, ⟨y_35, ey_35, ⟨y_36, ty_36, ⟨y_37, ey_37, ⟨y_38, ey_38, ⟨rfl, rfl⟩⟩⟩⟩⟩⟩)⟩⟩)⟩)⟩)⟩)⟩), wd_t ht hW⟩, hS.F ht⟩) hS.2.2 dX12_askOf_91
    · have c_34 : y_33.toInt < 0 := xI_nle rfl rfl c_34
      refine ic_0 hx hb dX12_askOf_75 ?_
      refine lv_goto (tgt := 91) hx hb dX12_askOf_76 rfl ?_
      exact W.iret (v := 0) hx hb hr (fun t ht _ => ⟨⟨0, G, rfl, (Q_askOf_mk ⟨hB_G, hF, (Or.inr ⟨(xI_ne (Y := 0) rfl rfl c_1), (Or.inr ⟨(xI_ne (Y := 1) rfl rfl c_18), (Or.inr ⟨(xI_ne (Y := 2) rfl rfl c_25), (Or.inl ⟨c_32, ⟨y_33, ey_33, (Or.inr ⟨c_34, ⟨rfl, rfl⟩⟩)⟩⟩)⟩)⟩)⟩)⟩), wd_t ht hW⟩, hS.F ht⟩) hS.2.2 dX12_askOf_91
  by_cases c_39 : p1 = 4
  · refine lv_tableIn (tgt := 66) hx hb dX12_askOf_1 (by rw [c_39]; decide) (by rw [c_39]; decide) (off := 65) (by rw [c_39]; decide) (by decide) ?_
    have c_39 : p1.toInt = 4 := xI_eq rfl rfl c_39
    refine lv_aload_n hx hb dX12_askOf_66 rfl (lv_at hl 0 rfl) ?_
    refine S_getR (n := 87) (C := RX12) (T := TX12) (N := 89) hx hb hg iX12 hown hK hW kd_66 rfl 35 (lt_b rfl) (hg (Cond.fieldLink RX12 75 "SlabWalkModel" "marks" "[I") m1349) (fun _ h9 => h9) rfl dX12_askOf_67 ?_
    refine lv_iload_n hx hb dX12_askOf_70 rfl (lv_at hl 1 rfl) ?_
    refine S_iald hx hb hK hW kd_87 (vin ((by first | exact ha_p0.1 | omega)) ((by first | exact ok_1035 ha_p0.2 | omega))) dX12_askOf_71 (fun y_40 ey_40 => ?_)
    refine lv_if_ge (tgt := 79) hx hb dX12_askOf_72 rfl (fun c_41 => ?_) (fun c_41 => ?_)
    · have c_41 : 0 ≤ y_40.toInt := xI_le rfl rfl c_41
      refine lv_aload_n hx hb dX12_askOf_79 rfl (lv_at hl 0 rfl) ?_
      refine S_getR (n := 87) (C := RX12) (T := TX12) (N := 89) hx hb hg iX12 hown hK hW kd_66 rfl 35 (lt_b rfl) (hg (Cond.fieldLink RX12 75 "SlabWalkModel" "marks" "[I") m1349) (fun _ h9 => h9) rfl dX12_askOf_80 ?_
      refine lv_iload_n hx hb dX12_askOf_83 rfl (lv_at hl 1 rfl) ?_
      refine S_iald hx hb hK hW kd_87 (vin ((by first | exact ha_p0.1 | omega)) ((by first | exact ok_1035 ha_p0.2 | omega))) dX12_askOf_84 (fun y_42 ey_42 => ?_)
      refine lv_iload_n hx hb dX12_askOf_85 rfl (lv_at hl 2 rfl) ?_
      refine ic_1 hx hb dX12_askOf_86 ?_
      refine lv_isub hx hb dX12_askOf_87 ?_
      refine lv_topi (fun y_43 ey_43 => ?_)
      have ty_43 : y_43.toInt = p1.toInt - 1 := xI_sub rfl rfl ey_43 ((by first | exact ok_1042 c_39 | omega)) ((by first | exact ok_1043 c_39 | omega))
      refine lv_ishr hx hb dX12_askOf_88 ?_
      refine lv_topi (fun y_44 ey_44 => ?_)
      refine ic_1 hx hb dX12_askOf_89 ?_
      refine lv_iand hx hb dX12_askOf_90 ?_
      refine lv_topi (fun y_45 ey_45 => ?_)
      have ty_45 := xI_and (Y := 1) rfl ey_45 (by decide)
      exact W.iret (v := y_45) hx hb hr (fun t ht _ => ⟨⟨y_45, G, rfl, (Q_askOf_mk ⟨hB_G, hF, (Or.inr ⟨(xI_ne (Y := 0) rfl rfl c_1), (Or.inr ⟨(xI_ne (Y := 1) rfl rfl c_18), (Or.inr ⟨(xI_ne (Y := 2) rfl rfl c_25), (Or.inr ⟨(xI_ne (Y := 3) rfl rfl c_32), (Or.inl ⟨c_39, ⟨y_40, ey_40, (Or.inl ⟨c_41, ⟨y_42, ey_42, ⟨y_43, ty_43, ⟨y_44, ey_44, ⟨y_45, ey_45, ⟨rfl, rfl⟩⟩⟩⟩⟩⟩)⟩⟩)⟩)⟩)⟩)⟩)⟩), wd_t ht hW⟩, hS.F ht⟩) hS.2.2 dX12_askOf_91
    · have c_41 : y_40.toInt < 0 := xI_nle rfl rfl c_41
      refine ic_0 hx hb dX12_askOf_75 ?_
      refine lv_goto (tgt := 91) hx hb dX12_askOf_76 rfl ?_
      exact W.iret (v := 0) hx hb hr (fun t ht _ => ⟨⟨0, G, rfl, (Q_askOf_mk ⟨hB_G, hF, (Or.inr ⟨(xI_ne (Y := 0) rfl rfl c_1), (Or.inr ⟨(xI_ne (Y := 1) rfl rfl c_18), (Or.inr ⟨(xI_ne (Y := 2) rfl rfl c_25), (Or.inr ⟨(xI_ne (Y := 3) rfl rfl c_32), (Or.inl ⟨c_39, ⟨y_40, ey_40, (Or.inr ⟨c_41, ⟨rfl, rfl⟩⟩)⟩⟩)⟩)⟩)⟩)⟩)⟩), wd_t ht hW⟩, hS.F ht⟩) hS.2.2 dX12_askOf_91
  by_cases c_46 : p1 = 5
  · refine lv_tableIn (tgt := 92) hx hb dX12_askOf_1 (by rw [c_46]; decide) (by rw [c_46]; decide) (off := 91) (by rw [c_46]; decide) (by decide) ?_
    have c_46 : p1.toInt = 5 := xI_eq rfl rfl c_46
    refine lv_aload_n hx hb dX12_askOf_92 rfl (lv_at hl 0 rfl) ?_
    refine S_getR (n := 90) (C := RX12) (T := TX12) (N := 89) hx hb hg iX12 hown hK hW kd_66 rfl 38 (lt_b rfl) (hg (Cond.fieldLink RX12 84 "SlabWalkModel" "longs" "[I") m1352) (fun _ h9 => h9) rfl dX12_askOf_93 ?_
    refine lv_iload_n hx hb dX12_askOf_96 rfl (lv_at hl 1 rfl) ?_
    refine S_iald hx hb hK hW kd_90 (vin ((by first | exact ha_p0.1 | omega)) ((by first | exact ok_1035 ha_p0.2 | omega))) dX12_askOf_97 (fun y_47 ey_47 => ?_)
    exact W.iret (v := y_47) hx hb hr (fun t ht _ => ⟨⟨y_47, G, rfl, (Q_askOf_mk ⟨hB_G, hF, (Or.inr ⟨(xI_ne (Y := 0) rfl rfl c_1), (Or.inr ⟨(xI_ne (Y := 1) rfl rfl c_18), (Or.inr ⟨(xI_ne (Y := 2) rfl rfl c_25), (Or.inr ⟨(xI_ne (Y := 3) rfl rfl c_32), (Or.inr ⟨(xI_ne (Y := 4) rfl rfl c_39), (Or.inl ⟨c_46, ⟨y_47, ey_47, ⟨rfl, rfl⟩⟩⟩)⟩)⟩)⟩)⟩)⟩)⟩), wd_t ht hW⟩, hS.F ht⟩) hS.2.2 dX12_askOf_98
  by_cases c_48 : p1 = 6
  · refine lv_tableIn (tgt := 99) hx hb dX12_askOf_1 (by rw [c_48]; decide) (by rw [c_48]; decide) (off := 98) (by rw [c_48]; decide) (by decide) ?_
    have c_48 : p1.toInt = 6 := xI_eq rfl rfl c_48
    refine lv_aload_n hx hb dX12_askOf_99 rfl (lv_at hl 0 rfl) ?_
    refine S_getR (n := 88) (C := RX12) (T := TX12) (N := 89) hx hb hg iX12 hown hK hW kd_66 rfl 36 (lt_b rfl) (hg (Cond.fieldLink RX12 78 "SlabWalkModel" "nths" "[I") m1350) (fun _ h9 => h9) rfl dX12_askOf_100 ?_
    refine lv_iload_n hx hb dX12_askOf_103 rfl (lv_at hl 1 rfl) ?_
    refine S_iald hx hb hK hW kd_88 (vin ((by first | exact ha_p0.1 | omega)) ((by first | exact ok_1035 ha_p0.2 | omega))) dX12_askOf_104 (fun y_49 ey_49 => ?_)
    exact W.iret (v := y_49) hx hb hr (fun t ht _ => ⟨⟨y_49, G, rfl, (Q_askOf_mk ⟨hB_G, hF, (Or.inr ⟨(xI_ne (Y := 0) rfl rfl c_1), (Or.inr ⟨(xI_ne (Y := 1) rfl rfl c_18), (Or.inr ⟨(xI_ne (Y := 2) rfl rfl c_25), (Or.inr ⟨(xI_ne (Y := 3) rfl rfl c_32), (Or.inr ⟨(xI_ne (Y := 4) rfl rfl c_39), (Or.inr ⟨(xI_ne (Y := 5) rfl rfl c_46), (Or.inl ⟨c_48, ⟨y_49, ey_49, ⟨rfl, rfl⟩⟩⟩)⟩)⟩)⟩)⟩)⟩)⟩)⟩), wd_t ht hW⟩, hS.F ht⟩) hS.2.2 dX12_askOf_105
  by_cases c_50 : p1 = 7
  · refine lv_tableIn (tgt := 106) hx hb dX12_askOf_1 (by rw [c_50]; decide) (by rw [c_50]; decide) (off := 105) (by rw [c_50]; decide) (by decide) ?_
    have c_50 : p1.toInt = 7 := xI_eq rfl rfl c_50
    refine lv_aload_n hx hb dX12_askOf_106 rfl (lv_at hl 0 rfl) ?_
    refine S_getR (n := 89) (C := RX12) (T := TX12) (N := 89) hx hb hg iX12 hown hK hW kd_66 rfl 37 (lt_b rfl) (hg (Cond.fieldLink RX12 81 "SlabWalkModel" "inches" "[I") m1351) (fun _ h9 => h9) rfl dX12_askOf_107 ?_
    refine lv_iload_n hx hb dX12_askOf_110 rfl (lv_at hl 1 rfl) ?_
    refine S_iald hx hb hK hW kd_89 (vin ((by first | exact ha_p0.1 | omega)) ((by first | exact ok_1035 ha_p0.2 | omega))) dX12_askOf_111 (fun y_51 ey_51 => ?_)
    exact W.iret (v := y_51) hx hb hr (fun t ht _ => ⟨⟨y_51, G, rfl, (Q_askOf_mk ⟨hB_G, hF, (Or.inr ⟨(xI_ne (Y := 0) rfl rfl c_1), (Or.inr ⟨(xI_ne (Y := 1) rfl rfl c_18), (Or.inr ⟨(xI_ne (Y := 2) rfl rfl c_25), (Or.inr ⟨(xI_ne (Y := 3) rfl rfl c_32), (Or.inr ⟨(xI_ne (Y := 4) rfl rfl c_39), (Or.inr ⟨(xI_ne (Y := 5) rfl rfl c_46), (Or.inr ⟨(xI_ne (Y := 6) rfl rfl c_48), (Or.inl ⟨c_50, ⟨y_51, ey_51, ⟨rfl, rfl⟩⟩⟩)⟩)⟩)⟩)⟩)⟩)⟩)⟩)⟩), wd_t ht hW⟩, hS.F ht⟩) hS.2.2 dX12_askOf_112
  refine lv_tableOut (tgt := 113) hx hb dX12_askOf_1 (tb_out (lo := 0) (hi := 7) (by have c_1 := xI_ne (Y := 0) rfl rfl c_1; have c_18 := xI_ne (Y := 1) rfl rfl c_18; have c_25 := xI_ne (Y := 2) rfl rfl c_25; have c_32 := xI_ne (Y := 3) rfl rfl c_32; have c_39 := xI_ne (Y := 4) rfl rfl c_39; have c_46 := xI_ne (Y := 5) rfl rfl c_46; have c_48 := xI_ne (Y := 6) rfl rfl c_48; have c_50 := xI_ne (Y := 7) rfl rfl c_50; omega)) (by decide) ?_
  have c_1 := xI_ne (Y := 0) rfl rfl c_1
  have c_18 := xI_ne (Y := 1) rfl rfl c_18
  have c_25 := xI_ne (Y := 2) rfl rfl c_25
  have c_32 := xI_ne (Y := 3) rfl rfl c_32
  have c_39 := xI_ne (Y := 4) rfl rfl c_39
  have c_46 := xI_ne (Y := 5) rfl rfl c_46
  have c_48 := xI_ne (Y := 6) rfl rfl c_48
  have c_50 := xI_ne (Y := 7) rfl rfl c_50
  refine lv_aload_n hx hb dX12_askOf_113 rfl (lv_at hl 0 rfl) ?_
  refine S_getR (n := 110) (C := RX12) (T := TX12) (N := 89) hx hb hg iX12 hown hK hW kd_66 rfl 76 (lt_b rfl) (hg (Cond.fieldLink RX12 151 "SlabWalkModel" "now" "[I") m1390) (fun _ h9 => h9) rfl dX12_askOf_114 ?_
  refine lv_bipush (v := 6) hx hb dX12_askOf_117 (by decide) ?_
  refine S_iald hx hb hK hW kd_110 (vin (by decide) (by decide)) dX12_askOf_119 (fun y_52 ey_52 => ?_)
  exact W.iret (v := y_52) hx hb hr (fun t ht _ => ⟨⟨y_52, G, rfl, (Q_askOf_mk ⟨hB_G, hF, (Or.inr ⟨c_1, (Or.inr ⟨c_18, (Or.inr ⟨c_25, (Or.inr ⟨c_32, (Or.inr ⟨c_39, (Or.inr ⟨c_46, (Or.inr ⟨c_48, (Or.inr ⟨c_50, ⟨y_52, ey_52, ⟨rfl, rfl⟩⟩⟩)⟩)⟩)⟩)⟩)⟩)⟩)⟩)⟩), wd_t ht hW⟩, hS.F ht⟩) hS.2.2 dX12_askOf_120

set_option maxHeartbeats 4000000 in
set_option maxRecDepth 100000 in
theorem n_worked (l : Launch) (D : va_G) (k : KT) (A : Nat → Prop) (a : Nat → Nat) (z : SK) (G : GS) (p0 : Int32) (p1 : Int32) (ha_p0 : 0 ≤ p0.toInt ∧ p0.toInt ≤ 5) (ha_p1 : 0 ≤ p1.toInt ∧ p1.toInt ≤ 1199) (hP9 : gP G = 1) (hpr : p0.toInt < (G.1 66 54).toInt) : Met l yX12_worked (WS yX12_worked cX12_worked 5 (some .int)) ({ frames := 2, cells := 0, slots := 0, locals := 42 }) (va_Pc [.ref (a 66), .int p0, .int p1] (cW D k A a z G)) (va_Qi (fun (r : Int32) (G1 : GS) => Q_worked p0 p1 G r G1) (fun (G1 : GS) t => Wd D k A a G1 t.heap) A) 0 0 A := by
  refine Met.ofW (cc := cX12_worked) (maxL := 5) (ret := (some .int)) (by decide) rfl ?_
  intro p e s m args below meth c s₁ B hml hv
  obtain ⟨rfl, hW, hB_G, hK, hZ⟩ := hv
  have hx := B.exec
  have hb := B.bytes
  have hr := B.returns
  have hts := atoms_spec (ws := WS yX12_worked cX12_worked 5 (some .int)) B.pre
  have hgd : ∀ w ∈ gd, w ∈ WS yX12_worked cX12_worked 5 (some .int) := fun w h => List.mem_cons_of_mem _ h
  have hg : ∀ w ∈ gd, w.before _ s = true := fun w h => hts w (hgd w h)
  have hown : s.vm.findClass RX12 = some m.cls := findClass_of_methodNamed B.named
  have hS : va_S A s.heap s.heap [] := va_S.rf
  have hF : Fr [76] [] G G := Fr.rf
  have hl := lv_entry ([.ref (a 66), .int p0, .int p1]) (n := 5) (Nat.le_of_ble_eq_true rfl)
  rw [lg_entry_eq]
  generalize (lg_sl ([.ref (a 66), .int p0, .int p1]) ++ List.replicate (5 - (lg_sl ([.ref (a 66), .int p0, .int p1])).length) Slot.unset).toArray = ls at hl ⊢
  have hl : lv_has ls 5 [(0, .ref (a 66)), (1, .int p0), (2, .int p1)] := hl
  refine ic_0 hx hb dX12_worked_0 ?_
  refine lv_istore_n (lv' := [(3, .int 0), (0, .ref (a 66)), (1, .int p0), (2, .int p1)]) hx hb dX12_worked_1 rfl hl (lt_b rfl) rfl (fun ls hl => ?_)
  refine lv_sipush (v := 320) hx hb dX12_worked_2 (by decide) ?_
  refine lv_iload_n hx hb dX12_worked_5 rfl (lv_at hl 2 rfl) ?_
  refine lv_imul hx hb dX12_worked_6 ?_
  refine lv_topi (fun y_1 ey_1 => ?_)
  have ty_1 : y_1.toInt = 320 * p0.toInt := xI_mul rfl rfl ey_1 ((by first | exact ok_782 ha_p0.1 | omega)) ((by first | exact ok_783 ha_p0.2 | omega))
  have u_2 : dpK (G.1 72) (320 * p0.toInt) y_1.toInt = 0 := by rw [ty_1]; exact dpK_0 _ _
  have u_3 : 0 ≤ (G.1 74 p0.toNatClampNeg).toInt ∧ (G.1 74 p0.toNatClampNeg).toInt ≤ 320 := hB_G.i 74 _ rfl rfl
  refine lv_istore (lv' := [(4, .int y_1), (3, .int 0), (0, .ref (a 66)), (1, .int p0), (2, .int p1)]) hx hb dX12_worked_7 hl (lt_b rfl) rfl (fun ls hl => ?_)
  have qc_11 : (0 : Int32).toInt = 0 := rfl
  refine loop_N (Inv := fun n H locs ls => ∃ (G_4 : GS) (x_8 : Int32) (x_9 : Int32), (n : Int) = 1920 - x_8.toInt ∧ (0 ≤ x_8.toInt ∧ x_8.toInt ≤ 1920) ∧ (0 ≤ x_9.toInt ∧ x_9.toInt ≤ 41) ∧ (x_9.toInt = dpK (G.1 72) (320 * p0.toInt) x_8.toInt) ∧ (320 * p0.toInt ≤ x_8.toInt) ∧ (x_8.toInt ≤ 320 * p0.toInt + (G.1 74 p0.toNatClampNeg).toInt) ∧ Rc (St_n_worked_1 p0 p1 G) (y_1, 0, G) (x_8, x_9, G_4) ∧ Wd D k A a G_4 H ∧ Bd G_4 ∧ Fr [76] [] G G_4 ∧ Fr [76] [] G G_4 ∧ va_S A s.heap H locs ∧ lv_has ls 5 [(4, .int x_8), (3, .int x_9), (0, .ref (a 66)), (1, .int p0), (2, .int p1)]) (fun n_7 H locs ls ih_6 hI => ?_) (1920 - y_1.toInt : Int).toNat ⟨G, y_1, 0, (Int.toNat_of_nonneg ((by first | exact ok_1044 ha_p0.2 ty_1 | omega))), ⟨(by first | exact ok_1045 ha_p0.1 ty_1 | omega), (by first | exact ok_1046 ha_p0.2 ty_1 | omega)⟩, ⟨(by decide), (by decide)⟩, ((by first | exact ok_1047 u_2 | omega)), ((by first | exact ok_1048 ty_1 | omega)), ((by first | exact ok_1049 ty_1 u_3.1 | omega)), Rc.rf, hW, hB_G, hF, Fr.rf, hS, lv_sub hl [0, 1, 2, 3, 4] rfl⟩
  obtain ⟨G_4, x_8, x_9, hn_17, f_12, f_13, f_14, f_15, f_16, hX_10, hW, hB_G_4, hF, hq_5, hS, hl⟩ := hI
  refine lv_iload hx hb dX12_worked_9 (lv_at hl 0 rfl) ?_
  refine lv_sipush (v := 320) hx hb dX12_worked_11 (by decide) ?_
  refine lv_iload_n hx hb dX12_worked_14 rfl (lv_at hl 3 rfl) ?_
  refine lv_imul hx hb dX12_worked_15 ?_
  refine lv_topi (fun y_18 ey_18 => ?_)
  have ty_18 : y_18.toInt = 320 * p0.toInt := xI_mul rfl rfl ey_18 ((by first | exact ok_1050 u_3.2 f_12.1 f_16 | omega)) ((by first | exact ok_1051 f_12.2 f_15 | omega))
  refine lv_aload_n hx hb dX12_worked_16 rfl (lv_at hl 2 rfl) ?_
  refine S_getR (n := 74) (C := RX12) (T := TX12) (N := 89) hx hb hg iX12 hown hK hW kd_66 rfl 16 (lt_b rfl) (hg (Cond.fieldLink RX12 36 "SlabWalkModel" "many" "[I") m1330) (fun _ h9 => h9) rfl dX12_worked_17 ?_
  refine lv_iload_n hx hb dX12_worked_20 rfl (lv_at hl 3 rfl) ?_
  refine S_iald hx hb hK hW kd_74 (vin ((by first | exact ha_p0.1 | omega)) ((by first | (clear ha_p1 hP9 hn_17; omega) | omega))) dX12_worked_21 (fun y_19 ey_19 => ?_)
  have ty_19 : 0 ≤ y_19.toInt ∧ y_19.toInt ≤ 320 := bv_74 hB_G_4 ey_19
  have u_20 : y_19.toInt = (G.1 74 p0.toNatClampNeg).toInt := congrArg Int32.toInt (ey_19.trans ((hq_5.ri9 74 rfl p0.toNatClampNeg)))
  refine lv_iadd hx hb dX12_worked_22 ?_
  refine lv_topi (fun y_21 ey_21 => ?_)
  have ty_21 : y_21.toInt = y_18.toInt + y_19.toInt := xI_add rfl rfl ey_21 ((by first | exact ok_1052 f_12.1 f_16 ty_18 u_20 | omega)) ((by first | exact ok_1053 f_12.2 f_15 ty_18 ty_19.2 | omega))
  refine lv_icmp_ge (tgt := 173) hx hb dX12_worked_23 rfl (fun c_22 => ?_) (fun c_22 => ?_)
  · have c_22 : y_21.toInt ≤ x_8.toInt := xI_le rfl rfl c_22
    refine lv_aload_n hx hb dX12_worked_173 rfl (lv_at hl 2 rfl) ?_
    refine S_getR (n := 76) (C := RX12) (T := TX12) (N := 89) hx hb hg iX12 hown hK hW kd_66 rfl 18 (lt_b rfl) (hg (Cond.fieldLink RX12 42 "SlabWalkModel" "values" "[I") m1332) (fun _ h9 => h9) rfl dX12_worked_174 ?_
    refine ic_0 hx hb dX12_worked_177 ?_
    refine S_iald hx hb hK hW kd_76 (vin (by decide) (by decide)) dX12_worked_178 (fun y_23 ey_23 => ?_)
    exact W.iret (v := y_23) hx hb hr (fun t ht _ => ⟨⟨y_23, G_4, rfl, (Q_worked_mk ⟨hB_G_4, hF, ⟨y_1, ty_1, ⟨x_8, x_9, G_4, hX_10, f_12, f_13, f_14, f_15, f_16, hB_G_4, hq_5, ⟨y_18, ty_18, ⟨y_19, ey_19, ⟨y_21, ty_21, ⟨c_22, ⟨y_23, ey_23, ⟨rfl, rfl⟩⟩⟩⟩⟩⟩⟩⟩⟩), wd_t ht hW⟩, hS.F ht⟩) hS.2.2 dX12_worked_179
  · have c_22 : x_8.toInt < y_21.toInt := xI_nle rfl rfl c_22
    refine lv_aload_n hx hb dX12_worked_26 rfl (lv_at hl 2 rfl) ?_
    refine S_getR (n := 72) (C := RX12) (T := TX12) (N := 89) hx hb hg iX12 hown hK hW kd_66 rfl 14 (lt_b rfl) (hg (Cond.fieldLink RX12 30 "SlabWalkModel" "step" "[I") m1328) (fun _ h9 => h9) rfl dX12_worked_27 ?_
    refine lv_iload hx hb dX12_worked_30 (lv_at hl 0 rfl) ?_
    refine S_iald hx hb hK hW kd_72 (vin ((by first | exact f_12.1 | omega)) ((by first | exact ok_1054 ha_p0.2 f_12.2 ty_18 ty_19.2 ty_21 c_22 | omega))) dX12_worked_32 (fun y_24 ey_24 => ?_)
    have u_25 : y_24.toInt = (G.1 72 x_8.toNatClampNeg).toInt := congrArg Int32.toInt (ey_24.trans ((hq_5.ri9 72 rfl x_8.toNatClampNeg)))
    have u_26 := wk_step (ind_p hP9) (p := p0) (k := x_8) (y := y_24) (by first | (clear ha_p1 hP9 hn_17; omega) | omega) (by rw [tN (by first | (clear ha_p1 hP9 hn_17; omega) | omega)]; omega) (by first | (clear ha_p1 hP9 hn_17; omega) | omega) (by first | (clear ha_p1 hP9 hn_17; omega) | omega) (by first | (clear ha_p1 hP9 hn_17; omega) | omega)
    refine lv_if_eq (tgt := 47) hx hb dX12_worked_33 rfl (fun c_27 => ?_) (fun c_27 => ?_)
    · have c_27 : y_24.toInt = 0 := xI_eq rfl rfl c_27
      refine lv_aload_n hx hb dX12_worked_47 rfl (lv_at hl 2 rfl) ?_
      refine S_getR (n := 76) (C := RX12) (T := TX12) (N := 89) hx hb hg iX12 hown hK hW kd_66 rfl 18 (lt_b rfl) (hg (Cond.fieldLink RX12 42 "SlabWalkModel" "values" "[I") m1332) (fun _ h9 => h9) rfl dX12_worked_48 ?_
      refine lv_iload_n hx hb dX12_worked_51 rfl (lv_at hl 1 rfl) ?_
      refine lv_aload_n hx hb dX12_worked_52 rfl (lv_at hl 2 rfl) ?_
      refine S_getR (n := 72) (C := RX12) (T := TX12) (N := 89) hx hb hg iX12 hown hK hW kd_66 rfl 14 (lt_b rfl) (hg (Cond.fieldLink RX12 30 "SlabWalkModel" "step" "[I") m1328) (fun _ h9 => h9) rfl dX12_worked_53 ?_
      refine lv_iload hx hb dX12_worked_56 (lv_at hl 0 rfl) ?_
      refine S_iald hx hb hK hW kd_72 (vin ((by first | exact f_12.1 | omega)) ((by first | exact ok_1054 ha_p0.2 f_12.2 ty_18 ty_19.2 ty_21 c_22 | omega))) dX12_worked_58 (fun y_28 ey_28 => ?_)
      have u_29 : y_28.toInt = y_24.toInt := congrArg Int32.toInt (ey_28.trans (ey_24.symm))
      refine lv_if_ne (tgt := 72) hx hb dX12_worked_59 rfl (fun c_30 => ?_) (fun c_30 => ?_)
      · have c_30 : y_28.toInt ≠ 0 := xI_ne rfl rfl c_30
        refine lv_aload_n hx hb dX12_worked_72 rfl (lv_at hl 2 rfl) ?_
        refine lv_iload_n hx hb dX12_worked_73 rfl (lv_at hl 4 rfl) ?_
        refine lv_aload_n hx hb dX12_worked_74 rfl (lv_at hl 2 rfl) ?_
        refine S_getR (n := 73) (C := RX12) (T := TX12) (N := 89) hx hb hg iX12 hown hK hW kd_66 rfl 15 (lt_b rfl) (hg (Cond.fieldLink RX12 33 "SlabWalkModel" "arg" "[I") m1329) (fun _ h9 => h9) rfl dX12_worked_75 ?_
        refine lv_iload hx hb dX12_worked_78 (lv_at hl 0 rfl) ?_
        refine S_iald hx hb hK hW kd_73 (vin ((by first | exact f_12.1 | omega)) ((by first | exact ok_1054 ha_p0.2 f_12.2 ty_18 ty_19.2 ty_21 c_22 | omega))) dX12_worked_80 (fun y_31 ey_31 => ?_)
        have u_32 : y_31.toInt = (G.1 73 x_8.toNatClampNeg).toInt := congrArg Int32.toInt (ey_31.trans ((hq_5.ri9 73 rfl x_8.toNatClampNeg)))
        refine S_calli (va_runV (As := [.int p1, .int y_31]) (rest := [.int x_9, .ref (a 76)]) ⟨hx, hb, hml, hown, hts⟩ (n_askOf l D k A a z G_4 p1 y_31 ⟨(by first | exact ha_p1.1 | omega), (by first | exact ha_p1.2 | omega)⟩) (cwV 2 hts (gd_V hgd m1811 m1813 m88 m131 m1814) rfl rfl rfl hd_X12_askOf ⟨Nat.le_of_ble_eq_true rfl, Nat.le_of_ble_eq_true rfl⟩) (pre_W hW hB_G_4 hK hZ hS kd_66 rfl) rfl rfl hl.1 rfl (lv_room (Nat.le_of_ble_eq_true rfl)) dX12_worked_81 ⟨Nat.le_of_ble_eq_true rfl, Nat.le_of_ble_eq_true rfl⟩) hS (fun r_33 G_34 H locs hpo hW hS => ?_)
        have hX_37 : Q_askOf p1 y_31 G_4 r_33 G_34 := hpo
        obtain ⟨hB_G_34, hq_35, -⟩ := hpo
        have hF := hF.call9 hq_35 rfl rfl
        refine S_iast hx hb hK hW hS kd_76 (vin ((by first | exact f_13.1 | omega)) ((by first | exact ok_1055 f_13.2 | omega))) dX12_worked_84 (fun G_38 H locs eG_38 hW hS => ?_)
        have hB_G_38 : Bd G_38 := hB_G_34.put (lo := (-2147483648)) (hi := 2147483647) eG_38 rfl rfl rfl (tI_rng _).1 (tI_rng _).2 (hB_G_34.2.put eG_38 rfl)
        have hF := hF.put eG_38 (Or.inl (by decide))
        obtain ⟨y_39, ey_39⟩ : ∃ q, q = x_9 + 1 := ⟨_, rfl⟩
        have ty_39 : y_39.toInt = x_9.toInt + 1 := xI_add rfl rfl ey_39 ((by first | exact ok_21 f_13.1 | omega)) ((by first | exact ok_1056 f_13.2 | omega))
        refine lv_iinc (v := y_39) (lv' := [(3, .int y_39), (4, .int x_8), (0, .ref (a 66)), (1, .int p0), (2, .int p1)]) hx hb dX12_worked_85 hl (k := 1) rfl (by rw [ey_39]; rfl) (lt_b rfl) rfl (fun ls hl => ?_)
        refine lv_goto (tgt := 167) hx hb dX12_worked_88 rfl ?_
        obtain ⟨y_40, ey_40⟩ : ∃ q, q = x_8 + 1 := ⟨_, rfl⟩
        have ty_40 : y_40.toInt = x_8.toInt + 1 := xI_add rfl rfl ey_40 ((by first | exact ok_21 f_12.1 | omega)) ((by first | exact ok_1057 f_12.2 | omega))
        refine lv_iinc (v := y_40) (lv' := [(4, .int y_40), (3, .int y_39), (0, .ref (a 66)), (1, .int p0), (2, .int p1)]) hx hb dX12_worked_167 hl (k := 1) rfl (by rw [ey_40]; rfl) (lt_b rfl) rfl (fun ls hl => ?_)
        have u_41 : dpK (G.1 72) (320 * p0.toInt) y_40.toInt = dpK (G.1 72) (320 * p0.toInt) (x_8.toInt + 1) := by rw [ty_40]
        refine lv_goto (tgt := 9) hx hb dX12_worked_170 rfl ?_
        exact ih_6 (1920 - y_40.toInt : Int).toNat (by omega) _ _ _ ⟨G_38, y_40, y_39, (Int.toNat_of_nonneg ((by first | exact ok_1058 ha_p0.2 f_12.2 ty_18 ty_19.2 ty_21 c_22 ty_40 | omega))), ⟨(by first | exact ok_23 f_12.1 ty_40 | omega), (by first | exact ok_1059 ha_p0.2 f_12.2 ty_18 ty_19.2 ty_21 c_22 ty_40 | omega)⟩, ⟨(by first | exact ok_23 f_13.1 ty_39 | omega), (by first | (clear ha_p1 hP9 hn_17; omega) | omega)⟩, ((by first | (clear ha_p1 hP9 hn_17; omega) | omega)), ((by first | exact ok_1060 f_15 ty_40 | omega)), ((by first | exact ok_1061 f_16 ty_18 u_20 ty_21 c_22 ty_40 | omega)), (hX_10.st (St_n_worked_1_mk ⟨x_8, x_9, G_4, y_40, y_39, G_38, rfl, rfl, f_12, f_13, f_14, f_15, f_16, hB_G_4, ⟨y_18, ty_18, ⟨y_19, ey_19, ⟨y_21, ty_21, ⟨c_22, ⟨y_24, ey_24, (Or.inl ⟨c_27, ⟨y_28, ey_28, (Or.inr ⟨c_30, ⟨y_31, ey_31, ⟨r_33, G_34, hX_37, ⟨y_39, ty_39, ⟨y_40, ty_40, ⟨rfl, rfl, (Fr.put (rs := [76]) (fs := []) Fr.rf eG_38 (Or.inl (by decide))), rw_ast eG_38⟩⟩⟩⟩⟩⟩)⟩⟩)⟩⟩⟩⟩⟩⟩)), hW, hB_G_38, hF, (Fr.put (rs := [76]) (fs := []) (Fr.call9 (rs := [76]) (fs := []) (Fr.call9 (rs := [76]) (fs := []) Fr.rf hq_5 rfl rfl) hq_35 rfl rfl) eG_38 (Or.inl (by decide))), hS, lv_sub hl [0, 1, 2, 3, 4] rfl⟩
      · have c_30 : y_28.toInt = 0 := xI_eq rfl rfl c_30
        refine lv_aload_n hx hb dX12_worked_62 rfl (lv_at hl 2 rfl) ?_
        refine S_getR (n := 73) (C := RX12) (T := TX12) (N := 89) hx hb hg iX12 hown hK hW kd_66 rfl 15 (lt_b rfl) (hg (Cond.fieldLink RX12 33 "SlabWalkModel" "arg" "[I") m1329) (fun _ h9 => h9) rfl dX12_worked_63 ?_
        refine lv_iload hx hb dX12_worked_66 (lv_at hl 0 rfl) ?_
        refine S_iald hx hb hK hW kd_73 (vin ((by first | exact f_12.1 | omega)) ((by first | exact ok_1054 ha_p0.2 f_12.2 ty_18 ty_19.2 ty_21 c_22 | omega))) dX12_worked_68 (fun y_42 ey_42 => ?_)
        have u_43 : y_42.toInt = (G.1 73 x_8.toNatClampNeg).toInt := congrArg Int32.toInt (ey_42.trans ((hq_5.ri9 73 rfl x_8.toNatClampNeg)))
        refine lv_goto (tgt := 84) hx hb dX12_worked_69 rfl ?_
        refine S_iast hx hb hK hW hS kd_76 (vin ((by first | exact f_13.1 | omega)) ((by first | exact ok_1055 f_13.2 | omega))) dX12_worked_84 (fun G_44 H locs eG_44 hW hS => ?_)
        have hB_G_44 : Bd G_44 := hB_G_4.put (lo := (-2147483648)) (hi := 2147483647) eG_44 rfl rfl rfl (tI_rng _).1 (tI_rng _).2 (hB_G_4.2.put eG_44 rfl)
        have hF := hF.put eG_44 (Or.inl (by decide))
        obtain ⟨y_45, ey_45⟩ : ∃ q, q = x_9 + 1 := ⟨_, rfl⟩
        have ty_45 : y_45.toInt = x_9.toInt + 1 := xI_add rfl rfl ey_45 ((by first | exact ok_21 f_13.1 | omega)) ((by first | exact ok_1056 f_13.2 | omega))
        refine lv_iinc (v := y_45) (lv' := [(3, .int y_45), (4, .int x_8), (0, .ref (a 66)), (1, .int p0), (2, .int p1)]) hx hb dX12_worked_85 hl (k := 1) rfl (by rw [ey_45]; rfl) (lt_b rfl) rfl (fun ls hl => ?_)
        refine lv_goto (tgt := 167) hx hb dX12_worked_88 rfl ?_
        obtain ⟨y_46, ey_46⟩ : ∃ q, q = x_8 + 1 := ⟨_, rfl⟩
        have ty_46 : y_46.toInt = x_8.toInt + 1 := xI_add rfl rfl ey_46 ((by first | exact ok_21 f_12.1 | omega)) ((by first | exact ok_1057 f_12.2 | omega))
        refine lv_iinc (v := y_46) (lv' := [(4, .int y_46), (3, .int y_45), (0, .ref (a 66)), (1, .int p0), (2, .int p1)]) hx hb dX12_worked_167 hl (k := 1) rfl (by rw [ey_46]; rfl) (lt_b rfl) rfl (fun ls hl => ?_)
        have u_47 : dpK (G.1 72) (320 * p0.toInt) y_46.toInt = dpK (G.1 72) (320 * p0.toInt) (x_8.toInt + 1) := by rw [ty_46]
        refine lv_goto (tgt := 9) hx hb dX12_worked_170 rfl ?_
        exact ih_6 (1920 - y_46.toInt : Int).toNat (by omega) _ _ _ ⟨G_44, y_46, y_45, (Int.toNat_of_nonneg ((by first | exact ok_1058 ha_p0.2 f_12.2 ty_18 ty_19.2 ty_21 c_22 ty_46 | omega))), ⟨(by first | exact ok_23 f_12.1 ty_46 | omega), (by first | exact ok_1059 ha_p0.2 f_12.2 ty_18 ty_19.2 ty_21 c_22 ty_46 | omega)⟩, ⟨(by first | exact ok_23 f_13.1 ty_45 | omega), (by first | (clear ha_p1 hP9 hn_17; omega) | omega)⟩, ((by first | (clear ha_p1 hP9 hn_17; omega) | omega)), ((by first | exact ok_1060 f_15 ty_46 | omega)), ((by first | exact ok_1061 f_16 ty_18 u_20 ty_21 c_22 ty_46 | omega)), (hX_10.st (St_n_worked_1_mk ⟨x_8, x_9, G_4, y_46, y_45, G_44, rfl, rfl, f_12, f_13, f_14, f_15, f_16, hB_G_4, ⟨y_18, ty_18, ⟨y_19, ey_19, ⟨y_21, ty_21, ⟨c_22, ⟨y_24, ey_24, (Or.inl ⟨c_27, ⟨y_28, ey_28, (Or.inl ⟨c_30, ⟨y_42, ey_42, ⟨y_45, ty_45, ⟨y_46, ty_46, ⟨rfl, rfl, (Fr.put (rs := [76]) (fs := []) Fr.rf eG_44 (Or.inl (by decide))), rw_ast eG_44⟩⟩⟩⟩⟩)⟩⟩)⟩⟩⟩⟩⟩⟩)), hW, hB_G_44, hF, (Fr.put (rs := [76]) (fs := []) (Fr.call9 (rs := [76]) (fs := []) Fr.rf hq_5 rfl rfl) eG_44 (Or.inl (by decide))), hS, lv_sub hl [0, 1, 2, 3, 4] rfl⟩
    · have c_27 : y_24.toInt ≠ 0 := xI_ne rfl rfl c_27
      refine lv_aload_n hx hb dX12_worked_36 rfl (lv_at hl 2 rfl) ?_
      refine S_getR (n := 72) (C := RX12) (T := TX12) (N := 89) hx hb hg iX12 hown hK hW kd_66 rfl 14 (lt_b rfl) (hg (Cond.fieldLink RX12 30 "SlabWalkModel" "step" "[I") m1328) (fun _ h9 => h9) rfl dX12_worked_37 ?_
      refine lv_iload hx hb dX12_worked_40 (lv_at hl 0 rfl) ?_
      refine S_iald hx hb hK hW kd_72 (vin ((by first | exact f_12.1 | omega)) ((by first | exact ok_1054 ha_p0.2 f_12.2 ty_18 ty_19.2 ty_21 c_22 | omega))) dX12_worked_42 (fun y_48 ey_48 => ?_)
      have u_49 : y_48.toInt = y_24.toInt := congrArg Int32.toInt (ey_48.trans (ey_24.symm))
      refine ic_1 hx hb dX12_worked_43 ?_
      refine lv_icmp_ne (tgt := 91) hx hb dX12_worked_44 rfl (fun c_50 => ?_) (fun c_50 => ?_)
      · have c_50 : y_48.toInt ≠ 1 := xI_ne rfl rfl c_50
        refine lv_aload_n hx hb dX12_worked_91 rfl (lv_at hl 2 rfl) ?_
        refine S_getR (n := 72) (C := RX12) (T := TX12) (N := 89) hx hb hg iX12 hown hK hW kd_66 rfl 14 (lt_b rfl) (hg (Cond.fieldLink RX12 30 "SlabWalkModel" "step" "[I") m1328) (fun _ h9 => h9) rfl dX12_worked_92 ?_
        refine lv_iload hx hb dX12_worked_95 (lv_at hl 0 rfl) ?_
        refine S_iald hx hb hK hW kd_72 (vin ((by first | exact f_12.1 | omega)) ((by first | exact ok_1054 ha_p0.2 f_12.2 ty_18 ty_19.2 ty_21 c_22 | omega))) dX12_worked_97 (fun y_51 ey_51 => ?_)
        have u_52 : y_51.toInt = y_48.toInt := congrArg Int32.toInt (ey_51.trans (ey_48.symm))
        refine ic_2 hx hb dX12_worked_98 ?_
        refine lv_icmp_ne (tgt := 132) hx hb dX12_worked_99 rfl (fun c_53 => ?_) (fun c_53 => ?_)
        · have c_53 : y_51.toInt ≠ 2 := xI_ne rfl rfl c_53
          obtain ⟨y_54, ey_54⟩ : ∃ q, q = x_9 + (-1) := ⟨_, rfl⟩
          have ty_54 : y_54.toInt = x_9.toInt + (-1) := xI_add rfl rfl ey_54 ((by first | exact ok_190 f_13.1 | omega)) ((by first | exact ok_1062 f_13.2 | omega))
          refine lv_iinc (v := y_54) (lv' := [(3, .int y_54), (4, .int x_8), (0, .ref (a 66)), (1, .int p0), (2, .int p1)]) hx hb dX12_worked_132 hl (k := 1) rfl (by rw [ey_54]; rfl) (lt_b rfl) rfl (fun ls hl => ?_)
          refine lv_aload_n hx hb dX12_worked_135 rfl (lv_at hl 2 rfl) ?_
          refine S_getR (n := 76) (C := RX12) (T := TX12) (N := 89) hx hb hg iX12 hown hK hW kd_66 rfl 18 (lt_b rfl) (hg (Cond.fieldLink RX12 42 "SlabWalkModel" "values" "[I") m1332) (fun _ h9 => h9) rfl dX12_worked_136 ?_
          refine lv_iload_n hx hb dX12_worked_139 rfl (lv_at hl 0 rfl) ?_
          refine ic_1 hx hb dX12_worked_140 ?_
          refine lv_isub hx hb dX12_worked_141 ?_
          refine lv_topi (fun y_55 ey_55 => ?_)
          have ty_55 : y_55.toInt = y_54.toInt - 1 := xI_sub rfl rfl ey_55 ((by first | exact ok_1063 f_13.1 ty_54 | omega)) ((by first | exact ok_1064 f_13.2 ty_54 | omega))
          refine lv_aload_n hx hb dX12_worked_142 rfl (lv_at hl 2 rfl) ?_
          refine S_getR (n := 73) (C := RX12) (T := TX12) (N := 89) hx hb hg iX12 hown hK hW kd_66 rfl 15 (lt_b rfl) (hg (Cond.fieldLink RX12 33 "SlabWalkModel" "arg" "[I") m1329) (fun _ h9 => h9) rfl dX12_worked_143 ?_
          refine lv_iload hx hb dX12_worked_146 (lv_at hl 1 rfl) ?_
          refine S_iald hx hb hK hW kd_73 (vin ((by first | exact f_12.1 | omega)) ((by first | exact ok_1054 ha_p0.2 f_12.2 ty_18 ty_19.2 ty_21 c_22 | omega))) dX12_worked_148 (fun y_56 ey_56 => ?_)
          have u_57 : y_56.toInt = (G.1 73 x_8.toNatClampNeg).toInt := congrArg Int32.toInt (ey_56.trans ((hq_5.ri9 73 rfl x_8.toNatClampNeg)))
          refine lv_aload_n hx hb dX12_worked_149 rfl (lv_at hl 2 rfl) ?_
          refine S_getR (n := 76) (C := RX12) (T := TX12) (N := 89) hx hb hg iX12 hown hK hW kd_66 rfl 18 (lt_b rfl) (hg (Cond.fieldLink RX12 42 "SlabWalkModel" "values" "[I") m1332) (fun _ h9 => h9) rfl dX12_worked_150 ?_
          refine lv_iload_n hx hb dX12_worked_153 rfl (lv_at hl 0 rfl) ?_
          refine ic_1 hx hb dX12_worked_154 ?_
          refine lv_isub hx hb dX12_worked_155 ?_
          refine lv_topi (fun y_58 ey_58 => ?_)
          have ty_58 : y_58.toInt = y_54.toInt - 1 := xI_sub rfl rfl ey_58 ((by first | exact ok_1063 f_13.1 ty_54 | omega)) ((by first | exact ok_1064 f_13.2 ty_54 | omega))
          refine S_iald hx hb hK hW kd_76 (vin ((by first | (clear ha_p1 hP9 hn_17; omega) | omega)) ((by first | exact ok_1065 f_13.2 ty_54 ty_58 | omega))) dX12_worked_156 (fun y_59 ey_59 => ?_)
          have u_60 : y_59.toInt = (G_4.1 76 y_58.toNatClampNeg).toInt := congrArg Int32.toInt (ey_59)
          refine lv_aload_n hx hb dX12_worked_157 rfl (lv_at hl 2 rfl) ?_
          refine S_getR (n := 76) (C := RX12) (T := TX12) (N := 89) hx hb hg iX12 hown hK hW kd_66 rfl 18 (lt_b rfl) (hg (Cond.fieldLink RX12 42 "SlabWalkModel" "values" "[I") m1332) (fun _ h9 => h9) rfl dX12_worked_158 ?_
          refine lv_iload_n hx hb dX12_worked_161 rfl (lv_at hl 0 rfl) ?_
          refine S_iald hx hb hK hW kd_76 (vin ((by first | (clear ha_p1 hP9 hn_17; omega) | omega)) ((by first | exact ok_1066 f_13.2 ty_54 | omega))) dX12_worked_162 (fun y_61 ey_61 => ?_)
          have u_62 : y_61.toInt = (G_4.1 76 y_54.toNatClampNeg).toInt := congrArg Int32.toInt (ey_61)
          refine S_calli (va_runS (As := [.int y_56, .int y_59, .int y_61]) (rest := [.int y_55, .ref (a 76)]) ⟨hx, hb, hml, hown, hts⟩ (n_done l D k A a z G_4 y_56 y_59 y_61 ) (va_cwS 3 hts (gd_S hgd m1815 m1816 m131 m1817) rfl rfl rfl hd_X12_done.2 ⟨Nat.le_of_ble_eq_true rfl, Nat.le_of_ble_eq_true rfl⟩) (pre_S hW hB_G_4 hK hZ hS) rfl rfl hl.1 rfl (lv_room (Nat.le_of_ble_eq_true rfl)) dX12_worked_163 ⟨Nat.le_of_ble_eq_true rfl, Nat.le_of_ble_eq_true rfl⟩) hS (fun r_63 G_64 H locs hpo hW hS => ?_)
          have hX_67 : Q_done y_56 y_59 y_61 G_4 r_63 G_64 := hpo
          obtain ⟨hB_G_64, hq_65, -⟩ := hpo
          have hF := hF.call9 hq_65 rfl rfl
          refine S_iast hx hb hK hW hS kd_76 (vin ((by first | (clear ha_p1 hP9 hn_17; omega) | omega)) ((by first | exact ok_1065 f_13.2 ty_54 ty_55 | omega))) dX12_worked_166 (fun G_68 H locs eG_68 hW hS => ?_)
          have hB_G_68 : Bd G_68 := hB_G_64.put (lo := (-2147483648)) (hi := 2147483647) eG_68 rfl rfl rfl (tI_rng _).1 (tI_rng _).2 (hB_G_64.2.put eG_68 rfl)
          have hF := hF.put eG_68 (Or.inl (by decide))
          obtain ⟨y_69, ey_69⟩ : ∃ q, q = x_8 + 1 := ⟨_, rfl⟩
          have ty_69 : y_69.toInt = x_8.toInt + 1 := xI_add rfl rfl ey_69 ((by first | exact ok_21 f_12.1 | omega)) ((by first | exact ok_1057 f_12.2 | omega))
          refine lv_iinc (v := y_69) (lv' := [(4, .int y_69), (3, .int y_54), (0, .ref (a 66)), (1, .int p0), (2, .int p1)]) hx hb dX12_worked_167 hl (k := 1) rfl (by rw [ey_69]; rfl) (lt_b rfl) rfl (fun ls hl => ?_)
          have u_70 : dpK (G.1 72) (320 * p0.toInt) y_69.toInt = dpK (G.1 72) (320 * p0.toInt) (x_8.toInt + 1) := by rw [ty_69]
          refine lv_goto (tgt := 9) hx hb dX12_worked_170 rfl ?_
          exact ih_6 (1920 - y_69.toInt : Int).toNat (by omega) _ _ _ ⟨G_68, y_69, y_54, (Int.toNat_of_nonneg ((by first | exact ok_1058 ha_p0.2 f_12.2 ty_18 ty_19.2 ty_21 c_22 ty_69 | omega))), ⟨(by first | exact ok_23 f_12.1 ty_69 | omega), (by first | exact ok_1059 ha_p0.2 f_12.2 ty_18 ty_19.2 ty_21 c_22 ty_69 | omega)⟩, ⟨(by first | (clear ha_p1 hP9 hn_17; omega) | omega), (by first | exact ok_1067 f_13.2 ty_54 | omega)⟩, ((by first | (clear ha_p1 hP9 hn_17; omega) | omega)), ((by first | exact ok_1060 f_15 ty_69 | omega)), ((by first | exact ok_1061 f_16 ty_18 u_20 ty_21 c_22 ty_69 | omega)), (hX_10.st (St_n_worked_1_mk ⟨x_8, x_9, G_4, y_69, y_54, G_68, rfl, rfl, f_12, f_13, f_14, f_15, f_16, hB_G_4, ⟨y_18, ty_18, ⟨y_19, ey_19, ⟨y_21, ty_21, ⟨c_22, ⟨y_24, ey_24, (Or.inr ⟨c_27, ⟨y_48, ey_48, (Or.inr ⟨c_50, ⟨y_51, ey_51, (Or.inr ⟨c_53, ⟨y_54, ty_54, ⟨y_55, ty_55, ⟨y_56, ey_56, ⟨y_58, ty_58, ⟨y_59, ey_59, ⟨y_61, ey_61, ⟨r_63, G_64, hX_67, ⟨y_69, ty_69, ⟨rfl, rfl, (Fr.put (rs := [76]) (fs := []) Fr.rf eG_68 (Or.inl (by decide))), rw_ast eG_68⟩⟩⟩⟩⟩⟩⟩⟩⟩⟩)⟩⟩)⟩⟩)⟩⟩⟩⟩⟩⟩)), hW, hB_G_68, hF, (Fr.put (rs := [76]) (fs := []) (Fr.call9 (rs := [76]) (fs := []) (Fr.call9 (rs := [76]) (fs := []) Fr.rf hq_5 rfl rfl) hq_65 rfl rfl) eG_68 (Or.inl (by decide))), hS, lv_sub hl [0, 1, 2, 3, 4] rfl⟩
        · have c_53 : y_51.toInt = 2 := xI_eq rfl rfl c_53
          refine lv_aload_n hx hb dX12_worked_102 rfl (lv_at hl 2 rfl) ?_
          refine S_getR (n := 76) (C := RX12) (T := TX12) (N := 89) hx hb hg iX12 hown hK hW kd_66 rfl 18 (lt_b rfl) (hg (Cond.fieldLink RX12 42 "SlabWalkModel" "values" "[I") m1332) (fun _ h9 => h9) rfl dX12_worked_103 ?_
          refine lv_iload_n hx hb dX12_worked_106 rfl (lv_at hl 1 rfl) ?_
          refine ic_1 hx hb dX12_worked_107 ?_
          refine lv_isub hx hb dX12_worked_108 ?_
          refine lv_topi (fun y_71 ey_71 => ?_)
          have ty_71 : y_71.toInt = x_9.toInt - 1 := xI_sub rfl rfl ey_71 ((by first | exact ok_56 f_13.1 | omega)) ((by first | exact ok_1068 f_13.2 | omega))
          refine lv_aload_n hx hb dX12_worked_109 rfl (lv_at hl 2 rfl) ?_
          refine S_getR (n := 76) (C := RX12) (T := TX12) (N := 89) hx hb hg iX12 hown hK hW kd_66 rfl 18 (lt_b rfl) (hg (Cond.fieldLink RX12 42 "SlabWalkModel" "values" "[I") m1332) (fun _ h9 => h9) rfl dX12_worked_110 ?_
          refine lv_iload_n hx hb dX12_worked_113 rfl (lv_at hl 1 rfl) ?_
          refine ic_1 hx hb dX12_worked_114 ?_
          refine lv_isub hx hb dX12_worked_115 ?_
          refine lv_topi (fun y_72 ey_72 => ?_)
          have ty_72 : y_72.toInt = x_9.toInt - 1 := xI_sub rfl rfl ey_72 ((by first | exact ok_56 f_13.1 | omega)) ((by first | exact ok_1068 f_13.2 | omega))
          refine S_iald hx hb hK hW kd_76 (vin ((by first | (clear ha_p1 hP9 hn_17; omega) | omega)) ((by first | exact ok_1069 f_13.2 ty_72 | omega))) dX12_worked_116 (fun y_73 ey_73 => ?_)
          have u_74 : y_73.toInt = (G_4.1 76 y_72.toNatClampNeg).toInt := congrArg Int32.toInt (ey_73)
          refine lv_if_ne (tgt := 124) hx hb dX12_worked_117 rfl (fun c_75 => ?_) (fun c_75 => ?_)
          · have c_75 : y_73.toInt ≠ 0 := xI_ne rfl rfl c_75
            refine ic_0 hx hb dX12_worked_124 ?_
            have qc_76 : (0 : Int32).toInt = 0 := rfl
            refine S_calli (va_runS (As := [.int 0]) (rest := [.int y_71, .ref (a 76)]) ⟨hx, hb, hml, hown, hts⟩ (n_truth l D k A a z G_4 0 ⟨by decide, by decide⟩) (va_cwS 1 hts (gd_S hgd m1788 m1789 m131 m1790) rfl rfl rfl hd_X12_truth.2 ⟨Nat.le_of_ble_eq_true rfl, Nat.le_of_ble_eq_true rfl⟩) (pre_S hW hB_G_4 hK hZ hS) rfl rfl hl.1 rfl (lv_room (Nat.le_of_ble_eq_true rfl)) dX12_worked_125 ⟨Nat.le_of_ble_eq_true rfl, Nat.le_of_ble_eq_true rfl⟩) hS (fun r_77 G_78 H locs hpo hW hS => ?_)
            have hX_81 : Q_truth 0 G_4 r_77 G_78 := hpo
            obtain ⟨hB_G_78, hq_79, f_82, hp_80, -⟩ := hpo
            have hF := hF.call9 hq_79 rfl rfl
            refine S_iast hx hb hK hW hS kd_76 (vin ((by first | (clear ha_p1 hP9 hn_17 f_82 hp_80; omega) | omega)) ((by first | exact ok_1069 f_13.2 ty_71 | omega))) dX12_worked_128 (fun G_83 H locs eG_83 hW hS => ?_)
            have hB_G_83 : Bd G_83 := hB_G_78.put (lo := (-2147483648)) (hi := 2147483647) eG_83 rfl rfl rfl (tI_rng _).1 (tI_rng _).2 (hB_G_78.2.put eG_83 rfl)
            have hF := hF.put eG_83 (Or.inl (by decide))
            refine lv_goto (tgt := 167) hx hb dX12_worked_129 rfl ?_
            obtain ⟨y_84, ey_84⟩ : ∃ q, q = x_8 + 1 := ⟨_, rfl⟩
            have ty_84 : y_84.toInt = x_8.toInt + 1 := xI_add rfl rfl ey_84 ((by first | exact ok_21 f_12.1 | omega)) ((by first | exact ok_1057 f_12.2 | omega))
            refine lv_iinc (v := y_84) (lv' := [(4, .int y_84), (3, .int x_9), (0, .ref (a 66)), (1, .int p0), (2, .int p1)]) hx hb dX12_worked_167 hl (k := 0) rfl (by rw [ey_84]; rfl) (lt_b rfl) rfl (fun ls hl => ?_)
            have u_85 : dpK (G.1 72) (320 * p0.toInt) y_84.toInt = dpK (G.1 72) (320 * p0.toInt) (x_8.toInt + 1) := by rw [ty_84]
            refine lv_goto (tgt := 9) hx hb dX12_worked_170 rfl ?_
            exact ih_6 (1920 - y_84.toInt : Int).toNat ((by first | (clear ha_p1 hP9 f_82 hp_80; omega) | omega)) _ _ _ ⟨G_83, y_84, x_9, (Int.toNat_of_nonneg ((by first | exact ok_1058 ha_p0.2 f_12.2 ty_18 ty_19.2 ty_21 c_22 ty_84 | omega))), ⟨(by first | exact ok_23 f_12.1 ty_84 | omega), (by first | exact ok_1059 ha_p0.2 f_12.2 ty_18 ty_19.2 ty_21 c_22 ty_84 | omega)⟩, ⟨(by first | exact f_13.1 | omega), (by first | exact f_13.2 | omega)⟩, ((by first | (clear ha_p1 hP9 hn_17 f_82 hp_80; omega) | omega)), ((by first | exact ok_1060 f_15 ty_84 | omega)), ((by first | exact ok_1061 f_16 ty_18 u_20 ty_21 c_22 ty_84 | omega)), (hX_10.st (St_n_worked_1_mk ⟨x_8, x_9, G_4, y_84, x_9, G_83, rfl, rfl, f_12, f_13, f_14, f_15, f_16, hB_G_4, ⟨y_18, ty_18, ⟨y_19, ey_19, ⟨y_21, ty_21, ⟨c_22, ⟨y_24, ey_24, (Or.inr ⟨c_27, ⟨y_48, ey_48, (Or.inr ⟨c_50, ⟨y_51, ey_51, (Or.inl ⟨c_53, ⟨y_71, ty_71, ⟨y_72, ty_72, ⟨y_73, ey_73, (Or.inr ⟨c_75, ⟨r_77, G_78, hX_81, ⟨y_84, ty_84, ⟨rfl, rfl, (Fr.put (rs := [76]) (fs := []) Fr.rf eG_83 (Or.inl (by decide))), rw_ast eG_83⟩⟩⟩⟩)⟩⟩⟩⟩)⟩⟩)⟩⟩)⟩⟩⟩⟩⟩⟩)), hW, hB_G_83, hF, (Fr.put (rs := [76]) (fs := []) (Fr.call9 (rs := [76]) (fs := []) (Fr.call9 (rs := [76]) (fs := []) Fr.rf hq_5 rfl rfl) hq_79 rfl rfl) eG_83 (Or.inl (by decide))), hS, lv_sub hl [0, 1, 2, 3, 4] rfl⟩
          · have c_75 : y_73.toInt = 0 := xI_eq rfl rfl c_75
            refine ic_1 hx hb dX12_worked_120 ?_
            refine lv_goto (tgt := 125) hx hb dX12_worked_121 rfl ?_
            have qc_86 : (1 : Int32).toInt = 1 := rfl
            refine S_calli (va_runS (As := [.int 1]) (rest := [.int y_71, .ref (a 76)]) ⟨hx, hb, hml, hown, hts⟩ (n_truth l D k A a z G_4 1 ⟨by decide, by decide⟩) (va_cwS 1 hts (gd_S hgd m1788 m1789 m131 m1790) rfl rfl rfl hd_X12_truth.2 ⟨Nat.le_of_ble_eq_true rfl, Nat.le_of_ble_eq_true rfl⟩) (pre_S hW hB_G_4 hK hZ hS) rfl rfl hl.1 rfl (lv_room (Nat.le_of_ble_eq_true rfl)) dX12_worked_125 ⟨Nat.le_of_ble_eq_true rfl, Nat.le_of_ble_eq_true rfl⟩) hS (fun r_87 G_88 H locs hpo hW hS => ?_)
            have hX_91 : Q_truth 1 G_4 r_87 G_88 := hpo
            obtain ⟨hB_G_88, hq_89, f_92, hp_90, -⟩ := hpo
            have hF := hF.call9 hq_89 rfl rfl
            refine S_iast hx hb hK hW hS kd_76 (vin ((by first | (clear ha_p1 hP9 hn_17 f_92 hp_90; omega) | omega)) ((by first | exact ok_1069 f_13.2 ty_71 | omega))) dX12_worked_128 (fun G_93 H locs eG_93 hW hS => ?_)
            have hB_G_93 : Bd G_93 := hB_G_88.put (lo := (-2147483648)) (hi := 2147483647) eG_93 rfl rfl rfl (tI_rng _).1 (tI_rng _).2 (hB_G_88.2.put eG_93 rfl)
            have hF := hF.put eG_93 (Or.inl (by decide))
            refine lv_goto (tgt := 167) hx hb dX12_worked_129 rfl ?_
            obtain ⟨y_94, ey_94⟩ : ∃ q, q = x_8 + 1 := ⟨_, rfl⟩
            have ty_94 : y_94.toInt = x_8.toInt + 1 := xI_add rfl rfl ey_94 ((by first | exact ok_21 f_12.1 | omega)) ((by first | exact ok_1057 f_12.2 | omega))
            refine lv_iinc (v := y_94) (lv' := [(4, .int y_94), (3, .int x_9), (0, .ref (a 66)), (1, .int p0), (2, .int p1)]) hx hb dX12_worked_167 hl (k := 0) rfl (by rw [ey_94]; rfl) (lt_b rfl) rfl (fun ls hl => ?_)
            have u_95 : dpK (G.1 72) (320 * p0.toInt) y_94.toInt = dpK (G.1 72) (320 * p0.toInt) (x_8.toInt + 1) := by rw [ty_94]
            refine lv_goto (tgt := 9) hx hb dX12_worked_170 rfl ?_
            exact ih_6 (1920 - y_94.toInt : Int).toNat ((by first | (clear ha_p1 hP9 f_92 hp_90; omega) | omega)) _ _ _ ⟨G_93, y_94, x_9, (Int.toNat_of_nonneg ((by first | exact ok_1058 ha_p0.2 f_12.2 ty_18 ty_19.2 ty_21 c_22 ty_94 | omega))), ⟨(by first | exact ok_23 f_12.1 ty_94 | omega), (by first | exact ok_1059 ha_p0.2 f_12.2 ty_18 ty_19.2 ty_21 c_22 ty_94 | omega)⟩, ⟨(by first | exact f_13.1 | omega), (by first | exact f_13.2 | omega)⟩, ((by first | (clear ha_p1 hP9 hn_17 f_92 hp_90; omega) | omega)), ((by first | exact ok_1060 f_15 ty_94 | omega)), ((by first | exact ok_1061 f_16 ty_18 u_20 ty_21 c_22 ty_94 | omega)), (hX_10.st (St_n_worked_1_mk ⟨x_8, x_9, G_4, y_94, x_9, G_93, rfl, rfl, f_12, f_13, f_14, f_15, f_16, hB_G_4, ⟨y_18, ty_18, ⟨y_19, ey_19, ⟨y_21, ty_21, ⟨c_22, ⟨y_24, ey_24, (Or.inr ⟨c_27, ⟨y_48, ey_48, (Or.inr ⟨c_50, ⟨y_51, ey_51, (Or.inl ⟨c_53, ⟨y_71, ty_71, ⟨y_72, ty_72, ⟨y_73, ey_73, (Or.inl ⟨c_75, ⟨r_87, G_88, hX_91, ⟨y_94, ty_94, ⟨rfl, rfl, (Fr.put (rs := [76]) (fs := []) Fr.rf eG_93 (Or.inl (by decide))), rw_ast eG_93⟩⟩⟩⟩)⟩⟩⟩⟩)⟩⟩)⟩⟩)⟩⟩⟩⟩⟩⟩)), hW, hB_G_93, hF, (Fr.put (rs := [76]) (fs := []) (Fr.call9 (rs := [76]) (fs := []) (Fr.call9 (rs := [76]) (fs := []) Fr.rf hq_5 rfl rfl) hq_89 rfl rfl) eG_93 (Or.inl (by decide))), hS, lv_sub hl [0, 1, 2, 3, 4] rfl⟩
      · have c_50 : y_48.toInt = 1 := xI_eq rfl rfl c_50
        refine lv_aload_n hx hb dX12_worked_47 rfl (lv_at hl 2 rfl) ?_
        refine S_getR (n := 76) (C := RX12) (T := TX12) (N := 89) hx hb hg iX12 hown hK hW kd_66 rfl 18 (lt_b rfl) (hg (Cond.fieldLink RX12 42 "SlabWalkModel" "values" "[I") m1332) (fun _ h9 => h9) rfl dX12_worked_48 ?_
        refine lv_iload_n hx hb dX12_worked_51 rfl (lv_at hl 1 rfl) ?_
        refine lv_aload_n hx hb dX12_worked_52 rfl (lv_at hl 2 rfl) ?_
        refine S_getR (n := 72) (C := RX12) (T := TX12) (N := 89) hx hb hg iX12 hown hK hW kd_66 rfl 14 (lt_b rfl) (hg (Cond.fieldLink RX12 30 "SlabWalkModel" "step" "[I") m1328) (fun _ h9 => h9) rfl dX12_worked_53 ?_
        refine lv_iload hx hb dX12_worked_56 (lv_at hl 0 rfl) ?_
        refine S_iald hx hb hK hW kd_72 (vin ((by first | exact f_12.1 | omega)) ((by first | exact ok_1054 ha_p0.2 f_12.2 ty_18 ty_19.2 ty_21 c_22 | omega))) dX12_worked_58 (fun y_96 ey_96 => ?_)
        have u_97 : y_96.toInt = y_48.toInt := congrArg Int32.toInt (ey_96.trans (ey_48.symm))
        refine lv_if_ne (tgt := 72) hx hb dX12_worked_59 rfl (fun c_98 => ?_) (fun c_98 => ?_)
        · have c_98 : y_96.toInt ≠ 0 := xI_ne rfl rfl c_98
          refine lv_aload_n hx hb dX12_worked_72 rfl (lv_at hl 2 rfl) ?_
          refine lv_iload_n hx hb dX12_worked_73 rfl (lv_at hl 4 rfl) ?_
          refine lv_aload_n hx hb dX12_worked_74 rfl (lv_at hl 2 rfl) ?_
          refine S_getR (n := 73) (C := RX12) (T := TX12) (N := 89) hx hb hg iX12 hown hK hW kd_66 rfl 15 (lt_b rfl) (hg (Cond.fieldLink RX12 33 "SlabWalkModel" "arg" "[I") m1329) (fun _ h9 => h9) rfl dX12_worked_75 ?_
          refine lv_iload hx hb dX12_worked_78 (lv_at hl 0 rfl) ?_
          refine S_iald hx hb hK hW kd_73 (vin ((by first | exact f_12.1 | omega)) ((by first | exact ok_1054 ha_p0.2 f_12.2 ty_18 ty_19.2 ty_21 c_22 | omega))) dX12_worked_80 (fun y_99 ey_99 => ?_)
          have u_100 : y_99.toInt = (G.1 73 x_8.toNatClampNeg).toInt := congrArg Int32.toInt (ey_99.trans ((hq_5.ri9 73 rfl x_8.toNatClampNeg)))
          refine S_calli (va_runV (As := [.int p1, .int y_99]) (rest := [.int x_9, .ref (a 76)]) ⟨hx, hb, hml, hown, hts⟩ (n_askOf l D k A a z G_4 p1 y_99 ⟨(by first | exact ha_p1.1 | omega), (by first | exact ha_p1.2 | omega)⟩) (cwV 2 hts (gd_V hgd m1811 m1813 m88 m131 m1814) rfl rfl rfl hd_X12_askOf ⟨Nat.le_of_ble_eq_true rfl, Nat.le_of_ble_eq_true rfl⟩) (pre_W hW hB_G_4 hK hZ hS kd_66 rfl) rfl rfl hl.1 rfl (lv_room (Nat.le_of_ble_eq_true rfl)) dX12_worked_81 ⟨Nat.le_of_ble_eq_true rfl, Nat.le_of_ble_eq_true rfl⟩) hS (fun r_101 G_102 H locs hpo hW hS => ?_)
          have hX_105 : Q_askOf p1 y_99 G_4 r_101 G_102 := hpo
          obtain ⟨hB_G_102, hq_103, -⟩ := hpo
          have hF := hF.call9 hq_103 rfl rfl
          refine S_iast hx hb hK hW hS kd_76 (vin ((by first | exact f_13.1 | omega)) ((by first | exact ok_1055 f_13.2 | omega))) dX12_worked_84 (fun G_106 H locs eG_106 hW hS => ?_)
          have hB_G_106 : Bd G_106 := hB_G_102.put (lo := (-2147483648)) (hi := 2147483647) eG_106 rfl rfl rfl (tI_rng _).1 (tI_rng _).2 (hB_G_102.2.put eG_106 rfl)
          have hF := hF.put eG_106 (Or.inl (by decide))
          obtain ⟨y_107, ey_107⟩ : ∃ q, q = x_9 + 1 := ⟨_, rfl⟩
          have ty_107 : y_107.toInt = x_9.toInt + 1 := xI_add rfl rfl ey_107 ((by first | exact ok_21 f_13.1 | omega)) ((by first | exact ok_1056 f_13.2 | omega))
          refine lv_iinc (v := y_107) (lv' := [(3, .int y_107), (4, .int x_8), (0, .ref (a 66)), (1, .int p0), (2, .int p1)]) hx hb dX12_worked_85 hl (k := 1) rfl (by rw [ey_107]; rfl) (lt_b rfl) rfl (fun ls hl => ?_)
          refine lv_goto (tgt := 167) hx hb dX12_worked_88 rfl ?_
          obtain ⟨y_108, ey_108⟩ : ∃ q, q = x_8 + 1 := ⟨_, rfl⟩
          have ty_108 : y_108.toInt = x_8.toInt + 1 := xI_add rfl rfl ey_108 ((by first | exact ok_21 f_12.1 | omega)) ((by first | exact ok_1057 f_12.2 | omega))
          refine lv_iinc (v := y_108) (lv' := [(4, .int y_108), (3, .int y_107), (0, .ref (a 66)), (1, .int p0), (2, .int p1)]) hx hb dX12_worked_167 hl (k := 1) rfl (by rw [ey_108]; rfl) (lt_b rfl) rfl (fun ls hl => ?_)
          have u_109 : dpK (G.1 72) (320 * p0.toInt) y_108.toInt = dpK (G.1 72) (320 * p0.toInt) (x_8.toInt + 1) := by rw [ty_108]
          refine lv_goto (tgt := 9) hx hb dX12_worked_170 rfl ?_
          exact ih_6 (1920 - y_108.toInt : Int).toNat (by omega) _ _ _ ⟨G_106, y_108, y_107, (Int.toNat_of_nonneg ((by first | exact ok_1058 ha_p0.2 f_12.2 ty_18 ty_19.2 ty_21 c_22 ty_108 | omega))), ⟨(by first | exact ok_23 f_12.1 ty_108 | omega), (by first | exact ok_1059 ha_p0.2 f_12.2 ty_18 ty_19.2 ty_21 c_22 ty_108 | omega)⟩, ⟨(by first | exact ok_23 f_13.1 ty_107 | omega), (by first | (clear ha_p1 hP9 hn_17; omega) | omega)⟩, ((by first | (clear ha_p1 hP9 hn_17; omega) | omega)), ((by first | exact ok_1060 f_15 ty_108 | omega)), ((by first | exact ok_1061 f_16 ty_18 u_20 ty_21 c_22 ty_108 | omega)), (hX_10.st (St_n_worked_1_mk ⟨x_8, x_9, G_4, y_108, y_107, G_106, rfl, rfl, f_12, f_13, f_14, f_15, f_16, hB_G_4, ⟨y_18, ty_18, ⟨y_19, ey_19, ⟨y_21, ty_21, ⟨c_22, ⟨y_24, ey_24, (Or.inr ⟨c_27, ⟨y_48, ey_48, (Or.inl ⟨c_50, ⟨y_96, ey_96, (Or.inr ⟨c_98, ⟨y_99, ey_99, ⟨r_101, G_102, hX_105, ⟨y_107, ty_107, ⟨y_108, ty_108, ⟨rfl, rfl, (Fr.put (rs := [76]) (fs := []) Fr.rf eG_106 (Or.inl (by decide))), rw_ast eG_106⟩⟩⟩⟩⟩⟩)⟩⟩)⟩⟩)⟩⟩⟩⟩⟩⟩)), hW, hB_G_106, hF, (Fr.put (rs := [76]) (fs := []) (Fr.call9 (rs := [76]) (fs := []) (Fr.call9 (rs := [76]) (fs := []) Fr.rf hq_5 rfl rfl) hq_103 rfl rfl) eG_106 (Or.inl (by decide))), hS, lv_sub hl [0, 1, 2, 3, 4] rfl⟩
        · have c_98 : y_96.toInt = 0 := xI_eq rfl rfl c_98
          refine lv_aload_n hx hb dX12_worked_62 rfl (lv_at hl 2 rfl) ?_
          refine S_getR (n := 73) (C := RX12) (T := TX12) (N := 89) hx hb hg iX12 hown hK hW kd_66 rfl 15 (lt_b rfl) (hg (Cond.fieldLink RX12 33 "SlabWalkModel" "arg" "[I") m1329) (fun _ h9 => h9) rfl dX12_worked_63 ?_
          refine lv_iload hx hb dX12_worked_66 (lv_at hl 0 rfl) ?_
          refine S_iald hx hb hK hW kd_73 (vin ((by first | exact f_12.1 | omega)) ((by first | exact ok_1054 ha_p0.2 f_12.2 ty_18 ty_19.2 ty_21 c_22 | omega))) dX12_worked_68 (fun y_110 ey_110 => ?_)
          have u_111 : y_110.toInt = (G.1 73 x_8.toNatClampNeg).toInt := congrArg Int32.toInt (ey_110.trans ((hq_5.ri9 73 rfl x_8.toNatClampNeg)))
          refine lv_goto (tgt := 84) hx hb dX12_worked_69 rfl ?_
          refine S_iast hx hb hK hW hS kd_76 (vin ((by first | exact f_13.1 | omega)) ((by first | exact ok_1055 f_13.2 | omega))) dX12_worked_84 (fun G_112 H locs eG_112 hW hS => ?_)
          have hB_G_112 : Bd G_112 := hB_G_4.put (lo := (-2147483648)) (hi := 2147483647) eG_112 rfl rfl rfl (tI_rng _).1 (tI_rng _).2 (hB_G_4.2.put eG_112 rfl)
          have hF := hF.put eG_112 (Or.inl (by decide))
          obtain ⟨y_113, ey_113⟩ : ∃ q, q = x_9 + 1 := ⟨_, rfl⟩
          have ty_113 : y_113.toInt = x_9.toInt + 1 := xI_add rfl rfl ey_113 ((by first | exact ok_21 f_13.1 | omega)) ((by first | exact ok_1056 f_13.2 | omega))
          refine lv_iinc (v := y_113) (lv' := [(3, .int y_113), (4, .int x_8), (0, .ref (a 66)), (1, .int p0), (2, .int p1)]) hx hb dX12_worked_85 hl (k := 1) rfl (by rw [ey_113]; rfl) (lt_b rfl) rfl (fun ls hl => ?_)
          refine lv_goto (tgt := 167) hx hb dX12_worked_88 rfl ?_
          obtain ⟨y_114, ey_114⟩ : ∃ q, q = x_8 + 1 := ⟨_, rfl⟩
          have ty_114 : y_114.toInt = x_8.toInt + 1 := xI_add rfl rfl ey_114 ((by first | exact ok_21 f_12.1 | omega)) ((by first | exact ok_1057 f_12.2 | omega))
          refine lv_iinc (v := y_114) (lv' := [(4, .int y_114), (3, .int y_113), (0, .ref (a 66)), (1, .int p0), (2, .int p1)]) hx hb dX12_worked_167 hl (k := 1) rfl (by rw [ey_114]; rfl) (lt_b rfl) rfl (fun ls hl => ?_)
          have u_115 : dpK (G.1 72) (320 * p0.toInt) y_114.toInt = dpK (G.1 72) (320 * p0.toInt) (x_8.toInt + 1) := by rw [ty_114]
          refine lv_goto (tgt := 9) hx hb dX12_worked_170 rfl ?_
          exact ih_6 (1920 - y_114.toInt : Int).toNat (by omega) _ _ _ ⟨G_112, y_114, y_113, (Int.toNat_of_nonneg ((by first | exact ok_1058 ha_p0.2 f_12.2 ty_18 ty_19.2 ty_21 c_22 ty_114 | omega))), ⟨(by first | exact ok_23 f_12.1 ty_114 | omega), (by first | exact ok_1059 ha_p0.2 f_12.2 ty_18 ty_19.2 ty_21 c_22 ty_114 | omega)⟩, ⟨(by first | exact ok_23 f_13.1 ty_113 | omega), (by first | (clear ha_p1 hP9 hn_17; omega) | omega)⟩, ((by first | (clear ha_p1 hP9 hn_17; omega) | omega)), ((by first | exact ok_1060 f_15 ty_114 | omega)), ((by first | exact ok_1061 f_16 ty_18 u_20 ty_21 c_22 ty_114 | omega)), (hX_10.st (St_n_worked_1_mk ⟨x_8, x_9, G_4, y_114, y_113, G_112, rfl, rfl, f_12, f_13, f_14, f_15, f_16, hB_G_4, ⟨y_18, ty_18, ⟨y_19, ey_19, ⟨y_21, ty_21, ⟨c_22, ⟨y_24, ey_24, (Or.inr ⟨c_27, ⟨y_48, ey_48, (Or.inl ⟨c_50, ⟨y_96, ey_96, (Or.inl ⟨c_98, ⟨y_110, ey_110, ⟨y_113, ty_113, ⟨y_114, ty_114, ⟨rfl, rfl, (Fr.put (rs := [76]) (fs := []) Fr.rf eG_112 (Or.inl (by decide))), rw_ast eG_112⟩⟩⟩⟩⟩)⟩⟩)⟩⟩)⟩⟩⟩⟩⟩⟩)), hW, hB_G_112, hF, (Fr.put (rs := [76]) (fs := []) (Fr.call9 (rs := [76]) (fs := []) Fr.rf hq_5 rfl rfl) eG_112 (Or.inl (by decide))), hS, lv_sub hl [0, 1, 2, 3, 4] rfl⟩

theorem m86 : Cond.selects RX12 yX12_isLine yX12_isLine ∈ gd := gds_6 6 rfl
theorem m87 : Cond.selects RX12 yX12_worked yX12_worked ∈ gd := gds_6 7 rfl
theorem m1354 : Cond.fieldLink RX12 90 "SlabWalkModel" "foots" "[I" ∈ gd := gdc_6_2 6 rfl gw_fieldLink
theorem m1355 : Cond.fieldLink RX12 93 "SlabWalkModel" "leasts" "[I" ∈ gd := gdc_6_2 7 rfl gw_fieldLink
theorem m1356 : Cond.fieldLink RX12 96 "SlabWalkModel" "mosts" "[I" ∈ gd := gdc_6_2 8 rfl gw_fieldLink
theorem m1357 : Cond.fieldLink RX12 99 "SlabWalkModel" "leaps" "[I" ∈ gd := gdc_6_2 9 rfl gw_fieldLink
theorem m1371 : Cond.fieldLink RX12 111 "SlabWalkModel" "lines" "[Z" ∈ gd := gdc_6_3 7 rfl gw_fieldLink
theorem m1803 : Cond.methodLink RX12 466 yX12_isLine ∈ gd := gdc_8_0 7 rfl gw_methodLink
theorem m1805 : Cond.instanceMethod yX12_isLine ∈ gd := gdc_8_0 9 rfl gw_instanceMethod
theorem m1806 : Cond.code yX12_isLine cX12_isLine 7 (some .boolean) ∈ gd := gdc_8_0 10 rfl gw_code
theorem m1807 : Cond.methodLink RX12 460 yX12_worked ∈ gd := gdc_8_0 11 rfl gw_methodLink
theorem m1809 : Cond.instanceMethod yX12_worked ∈ gd := gdc_8_0 13 rfl gw_instanceMethod
theorem m1810 : Cond.code yX12_worked cX12_worked 5 (some .int) ∈ gd := gdc_8_0 14 rfl gw_code
noncomputable def rbX12_isLine_0 : List (Nat × List Nat) := [(0, [17, 1, 144]), (3, [27]), (4, [104]), (5, [29]), (6, [96]), (7, [54, 4]), (9, [28]), (10, [154, 0, 32]), (13, [42]), (14, [180, 0, 75]), (17, [21, 4]), (19, [46]), (20, [155, 0, 16]), (23, [42]), (24, [180, 0, 75]), (27, [21, 4]), (29, [46]), (30, [16, 6]), (32, [126]), (33, [153, 0, 7]), (36, [4]), (37, [167, 0, 4]), (40, [3]), (41, [172])]
theorem rcX12_isLine_0 : dgo (lb cX12_isLine) 0 rbX12_isLine_0 = true := by decide +kernel
theorem dX12_isLine_0 : decode cX12_isLine 0 = .ok (.sipush 400, 3) := dk_17 (dw rcX12_isLine_0 0 rfl) rfl
theorem dX12_isLine_3 : decode cX12_isLine 3 = .ok (.iload_n 1, 1) := dk_27 (dw rcX12_isLine_0 1 rfl)
theorem dX12_isLine_4 : decode cX12_isLine 4 = .ok (.imul, 1) := dk_104 (dw rcX12_isLine_0 2 rfl)
theorem dX12_isLine_5 : decode cX12_isLine 5 = .ok (.iload_n 3, 1) := dk_29 (dw rcX12_isLine_0 3 rfl)
theorem dX12_isLine_6 : decode cX12_isLine 6 = .ok (.iadd, 1) := dk_96 (dw rcX12_isLine_0 4 rfl)
theorem dX12_isLine_7 : decode cX12_isLine 7 = .ok (.istore 4, 2) := dk_54 (dw rcX12_isLine_0 5 rfl)
theorem dX12_isLine_9 : decode cX12_isLine 9 = .ok (.iload_n 2, 1) := dk_28 (dw rcX12_isLine_0 6 rfl)
theorem dX12_isLine_10 : decode cX12_isLine 10 = .ok (.ifCond .ne 32, 3) := dk_154 (dw rcX12_isLine_0 7 rfl) rfl
theorem dX12_isLine_13 : decode cX12_isLine 13 = .ok (.aload_n 0, 1) := dk_42 (dw rcX12_isLine_0 8 rfl)
theorem dX12_isLine_14 : decode cX12_isLine 14 = .ok (.getfield 75, 3) := dk_180 (dw rcX12_isLine_0 9 rfl) rfl
theorem dX12_isLine_17 : decode cX12_isLine 17 = .ok (.iload 4, 2) := dk_21 (dw rcX12_isLine_0 10 rfl)
theorem dX12_isLine_19 : decode cX12_isLine 19 = .ok (.iaload, 1) := dk_46 (dw rcX12_isLine_0 11 rfl)
theorem dX12_isLine_20 : decode cX12_isLine 20 = .ok (.ifCond .lt 16, 3) := dk_155 (dw rcX12_isLine_0 12 rfl) rfl
theorem dX12_isLine_23 : decode cX12_isLine 23 = .ok (.aload_n 0, 1) := dk_42 (dw rcX12_isLine_0 13 rfl)
theorem dX12_isLine_24 : decode cX12_isLine 24 = .ok (.getfield 75, 3) := dk_180 (dw rcX12_isLine_0 14 rfl) rfl
theorem dX12_isLine_27 : decode cX12_isLine 27 = .ok (.iload 4, 2) := dk_21 (dw rcX12_isLine_0 15 rfl)
theorem dX12_isLine_29 : decode cX12_isLine 29 = .ok (.iaload, 1) := dk_46 (dw rcX12_isLine_0 16 rfl)
theorem dX12_isLine_30 : decode cX12_isLine 30 = .ok (.bipush 6, 2) := dk_16 (dw rcX12_isLine_0 17 rfl) rfl
theorem dX12_isLine_32 : decode cX12_isLine 32 = .ok (.iand, 1) := dk_126 (dw rcX12_isLine_0 18 rfl)
theorem dX12_isLine_33 : decode cX12_isLine 33 = .ok (.ifCond .eq 7, 3) := dk_153 (dw rcX12_isLine_0 19 rfl) rfl
theorem dX12_isLine_36 : decode cX12_isLine 36 = .ok (.iconst 1, 1) := dk_4 (dw rcX12_isLine_0 20 rfl)
theorem dX12_isLine_37 : decode cX12_isLine 37 = .ok (.goto 4, 3) := dk_167 (dw rcX12_isLine_0 21 rfl) rfl
theorem dX12_isLine_40 : decode cX12_isLine 40 = .ok (.iconst 0, 1) := dk_3 (dw rcX12_isLine_0 22 rfl)
theorem dX12_isLine_41 : decode cX12_isLine 41 = .ok (.ireturn, 1) := dk_172 (dw rcX12_isLine_0 23 rfl)
noncomputable def rbX12_isLine_42 : List (Nat × List Nat) := [(42, [3]), (43, [54, 5]), (45, [3]), (46, [54, 6]), (48, [21, 6]), (50, [42]), (51, [180, 1, 175]), (54, [162, 0, 42]), (57, [21, 5]), (59, [154, 0, 37]), (62, [28]), (63, [21, 6]), (65, [122]), (66, [4]), (67, [126]), (68, [4]), (69, [160, 0, 18]), (72, [42]), (73, [21, 6]), (75, [21, 4]), (77, [182, 1, 204]), (80, [153, 0, 7]), (83, [4]), (84, [167, 0, 4])]
theorem rcX12_isLine_42 : dgo (lb cX12_isLine) 0 rbX12_isLine_42 = true := by decide +kernel
theorem dX12_isLine_42 : decode cX12_isLine 42 = .ok (.iconst 0, 1) := dk_3 (dw rcX12_isLine_42 0 rfl)
theorem dX12_isLine_43 : decode cX12_isLine 43 = .ok (.istore 5, 2) := dk_54 (dw rcX12_isLine_42 1 rfl)
theorem dX12_isLine_45 : decode cX12_isLine 45 = .ok (.iconst 0, 1) := dk_3 (dw rcX12_isLine_42 2 rfl)
theorem dX12_isLine_46 : decode cX12_isLine 46 = .ok (.istore 6, 2) := dk_54 (dw rcX12_isLine_42 3 rfl)
theorem dX12_isLine_48 : decode cX12_isLine 48 = .ok (.iload 6, 2) := dk_21 (dw rcX12_isLine_42 4 rfl)
theorem dX12_isLine_50 : decode cX12_isLine 50 = .ok (.aload_n 0, 1) := dk_42 (dw rcX12_isLine_42 5 rfl)
theorem dX12_isLine_51 : decode cX12_isLine 51 = .ok (.getfield 431, 3) := dk_180 (dw rcX12_isLine_42 6 rfl) rfl
theorem dX12_isLine_54 : decode cX12_isLine 54 = .ok (.if_icmp .ge 42, 3) := dk_162 (dw rcX12_isLine_42 7 rfl) rfl
theorem dX12_isLine_57 : decode cX12_isLine 57 = .ok (.iload 5, 2) := dk_21 (dw rcX12_isLine_42 8 rfl)
theorem dX12_isLine_59 : decode cX12_isLine 59 = .ok (.ifCond .ne 37, 3) := dk_154 (dw rcX12_isLine_42 9 rfl) rfl
theorem dX12_isLine_62 : decode cX12_isLine 62 = .ok (.iload_n 2, 1) := dk_28 (dw rcX12_isLine_42 10 rfl)
theorem dX12_isLine_63 : decode cX12_isLine 63 = .ok (.iload 6, 2) := dk_21 (dw rcX12_isLine_42 11 rfl)
theorem dX12_isLine_65 : decode cX12_isLine 65 = .ok (.ishr, 1) := dk_122 (dw rcX12_isLine_42 12 rfl)
theorem dX12_isLine_66 : decode cX12_isLine 66 = .ok (.iconst 1, 1) := dk_4 (dw rcX12_isLine_42 13 rfl)
theorem dX12_isLine_67 : decode cX12_isLine 67 = .ok (.iand, 1) := dk_126 (dw rcX12_isLine_42 14 rfl)
theorem dX12_isLine_68 : decode cX12_isLine 68 = .ok (.iconst 1, 1) := dk_4 (dw rcX12_isLine_42 15 rfl)
theorem dX12_isLine_69 : decode cX12_isLine 69 = .ok (.if_icmp .ne 18, 3) := dk_160 (dw rcX12_isLine_42 16 rfl) rfl
theorem dX12_isLine_72 : decode cX12_isLine 72 = .ok (.aload_n 0, 1) := dk_42 (dw rcX12_isLine_42 17 rfl)
theorem dX12_isLine_73 : decode cX12_isLine 73 = .ok (.iload 6, 2) := dk_21 (dw rcX12_isLine_42 18 rfl)
theorem dX12_isLine_75 : decode cX12_isLine 75 = .ok (.iload 4, 2) := dk_21 (dw rcX12_isLine_42 19 rfl)
theorem dX12_isLine_77 : decode cX12_isLine 77 = .ok (.invokevirtual 460, 3) := dk_182 (dw rcX12_isLine_42 20 rfl) rfl
theorem dX12_isLine_80 : decode cX12_isLine 80 = .ok (.ifCond .eq 7, 3) := dk_153 (dw rcX12_isLine_42 21 rfl) rfl
theorem dX12_isLine_83 : decode cX12_isLine 83 = .ok (.iconst 1, 1) := dk_4 (dw rcX12_isLine_42 22 rfl)
theorem dX12_isLine_84 : decode cX12_isLine 84 = .ok (.goto 4, 3) := dk_167 (dw rcX12_isLine_42 23 rfl) rfl
noncomputable def rbX12_isLine_87 : List (Nat × List Nat) := [(87, [3]), (88, [54, 5]), (90, [132, 6, 1]), (93, [167, 255, 211]), (96, [21, 5]), (98, [172])]
theorem rcX12_isLine_87 : dgo (lb cX12_isLine) 0 rbX12_isLine_87 = true := by decide +kernel
theorem dX12_isLine_87 : decode cX12_isLine 87 = .ok (.iconst 0, 1) := dk_3 (dw rcX12_isLine_87 0 rfl)
theorem dX12_isLine_88 : decode cX12_isLine 88 = .ok (.istore 5, 2) := dk_54 (dw rcX12_isLine_87 1 rfl)
theorem dX12_isLine_90 : decode cX12_isLine 90 = .ok (.iinc 6 1, 3) := dk_132 (dw rcX12_isLine_87 2 rfl) rfl
theorem dX12_isLine_93 : decode cX12_isLine 93 = .ok (.goto (-45), 3) := dk_167 (dw rcX12_isLine_87 3 rfl) rfl
theorem dX12_isLine_96 : decode cX12_isLine 96 = .ok (.iload 5, 2) := dk_21 (dw rcX12_isLine_87 4 rfl)
theorem dX12_isLine_98 : decode cX12_isLine 98 = .ok (.ireturn, 1) := dk_172 (dw rcX12_isLine_87 5 rfl)
noncomputable def rbX12_layStreet_0 : List (Nat × List Nat) := [(0, [42]), (1, [42]), (2, [180, 0, 87]), (5, [28]), (6, [46]), (7, [181, 1, 213]), (10, [42]), (11, [42]), (12, [180, 0, 90]), (15, [27]), (16, [46]), (17, [181, 1, 216]), (20, [42]), (21, [42]), (22, [180, 0, 93]), (25, [27]), (26, [46]), (27, [181, 1, 219]), (30, [42]), (31, [42]), (32, [180, 0, 96]), (35, [27]), (36, [46]), (37, [181, 1, 222])]
theorem rcX12_layStreet_0 : dgo (lb cX12_layStreet) 0 rbX12_layStreet_0 = true := by decide +kernel
theorem dX12_layStreet_0 : decode cX12_layStreet 0 = .ok (.aload_n 0, 1) := dk_42 (dw rcX12_layStreet_0 0 rfl)
theorem dX12_layStreet_1 : decode cX12_layStreet 1 = .ok (.aload_n 0, 1) := dk_42 (dw rcX12_layStreet_0 1 rfl)
theorem dX12_layStreet_2 : decode cX12_layStreet 2 = .ok (.getfield 87, 3) := dk_180 (dw rcX12_layStreet_0 2 rfl) rfl
theorem dX12_layStreet_5 : decode cX12_layStreet 5 = .ok (.iload_n 2, 1) := dk_28 (dw rcX12_layStreet_0 3 rfl)
theorem dX12_layStreet_6 : decode cX12_layStreet 6 = .ok (.iaload, 1) := dk_46 (dw rcX12_layStreet_0 4 rfl)
theorem dX12_layStreet_7 : decode cX12_layStreet 7 = .ok (.putfield 469, 3) := dk_181 (dw rcX12_layStreet_0 5 rfl) rfl
theorem dX12_layStreet_10 : decode cX12_layStreet 10 = .ok (.aload_n 0, 1) := dk_42 (dw rcX12_layStreet_0 6 rfl)
theorem dX12_layStreet_11 : decode cX12_layStreet 11 = .ok (.aload_n 0, 1) := dk_42 (dw rcX12_layStreet_0 7 rfl)
theorem dX12_layStreet_12 : decode cX12_layStreet 12 = .ok (.getfield 90, 3) := dk_180 (dw rcX12_layStreet_0 8 rfl) rfl
theorem dX12_layStreet_15 : decode cX12_layStreet 15 = .ok (.iload_n 1, 1) := dk_27 (dw rcX12_layStreet_0 9 rfl)
theorem dX12_layStreet_16 : decode cX12_layStreet 16 = .ok (.iaload, 1) := dk_46 (dw rcX12_layStreet_0 10 rfl)
theorem dX12_layStreet_17 : decode cX12_layStreet 17 = .ok (.putfield 472, 3) := dk_181 (dw rcX12_layStreet_0 11 rfl) rfl
theorem dX12_layStreet_20 : decode cX12_layStreet 20 = .ok (.aload_n 0, 1) := dk_42 (dw rcX12_layStreet_0 12 rfl)
theorem dX12_layStreet_21 : decode cX12_layStreet 21 = .ok (.aload_n 0, 1) := dk_42 (dw rcX12_layStreet_0 13 rfl)
theorem dX12_layStreet_22 : decode cX12_layStreet 22 = .ok (.getfield 93, 3) := dk_180 (dw rcX12_layStreet_0 14 rfl) rfl
theorem dX12_layStreet_25 : decode cX12_layStreet 25 = .ok (.iload_n 1, 1) := dk_27 (dw rcX12_layStreet_0 15 rfl)
theorem dX12_layStreet_26 : decode cX12_layStreet 26 = .ok (.iaload, 1) := dk_46 (dw rcX12_layStreet_0 16 rfl)
theorem dX12_layStreet_27 : decode cX12_layStreet 27 = .ok (.putfield 475, 3) := dk_181 (dw rcX12_layStreet_0 17 rfl) rfl
theorem dX12_layStreet_30 : decode cX12_layStreet 30 = .ok (.aload_n 0, 1) := dk_42 (dw rcX12_layStreet_0 18 rfl)
theorem dX12_layStreet_31 : decode cX12_layStreet 31 = .ok (.aload_n 0, 1) := dk_42 (dw rcX12_layStreet_0 19 rfl)
theorem dX12_layStreet_32 : decode cX12_layStreet 32 = .ok (.getfield 96, 3) := dk_180 (dw rcX12_layStreet_0 20 rfl) rfl
theorem dX12_layStreet_35 : decode cX12_layStreet 35 = .ok (.iload_n 1, 1) := dk_27 (dw rcX12_layStreet_0 21 rfl)
theorem dX12_layStreet_36 : decode cX12_layStreet 36 = .ok (.iaload, 1) := dk_46 (dw rcX12_layStreet_0 22 rfl)
theorem dX12_layStreet_37 : decode cX12_layStreet 37 = .ok (.putfield 478, 3) := dk_181 (dw rcX12_layStreet_0 23 rfl) rfl
noncomputable def rbX12_layStreet_40 : List (Nat × List Nat) := [(40, [42]), (41, [42]), (42, [180, 0, 99]), (45, [27]), (46, [46]), (47, [181, 1, 225]), (50, [3]), (51, [54, 4]), (53, [21, 4]), (55, [42]), (56, [180, 1, 213]), (59, [162, 0, 24]), (62, [42]), (63, [180, 0, 111]), (66, [21, 4]), (68, [42]), (69, [28]), (70, [29]), (71, [21, 4]), (73, [182, 1, 210]), (76, [84]), (77, [132, 4, 1]), (80, [167, 255, 229]), (83, [3])]
theorem rcX12_layStreet_40 : dgo (lb cX12_layStreet) 0 rbX12_layStreet_40 = true := by decide +kernel
theorem dX12_layStreet_40 : decode cX12_layStreet 40 = .ok (.aload_n 0, 1) := dk_42 (dw rcX12_layStreet_40 0 rfl)
theorem dX12_layStreet_41 : decode cX12_layStreet 41 = .ok (.aload_n 0, 1) := dk_42 (dw rcX12_layStreet_40 1 rfl)
theorem dX12_layStreet_42 : decode cX12_layStreet 42 = .ok (.getfield 99, 3) := dk_180 (dw rcX12_layStreet_40 2 rfl) rfl
theorem dX12_layStreet_45 : decode cX12_layStreet 45 = .ok (.iload_n 1, 1) := dk_27 (dw rcX12_layStreet_40 3 rfl)
theorem dX12_layStreet_46 : decode cX12_layStreet 46 = .ok (.iaload, 1) := dk_46 (dw rcX12_layStreet_40 4 rfl)
theorem dX12_layStreet_47 : decode cX12_layStreet 47 = .ok (.putfield 481, 3) := dk_181 (dw rcX12_layStreet_40 5 rfl) rfl
theorem dX12_layStreet_50 : decode cX12_layStreet 50 = .ok (.iconst 0, 1) := dk_3 (dw rcX12_layStreet_40 6 rfl)
theorem dX12_layStreet_51 : decode cX12_layStreet 51 = .ok (.istore 4, 2) := dk_54 (dw rcX12_layStreet_40 7 rfl)
theorem dX12_layStreet_53 : decode cX12_layStreet 53 = .ok (.iload 4, 2) := dk_21 (dw rcX12_layStreet_40 8 rfl)
theorem dX12_layStreet_55 : decode cX12_layStreet 55 = .ok (.aload_n 0, 1) := dk_42 (dw rcX12_layStreet_40 9 rfl)
theorem dX12_layStreet_56 : decode cX12_layStreet 56 = .ok (.getfield 469, 3) := dk_180 (dw rcX12_layStreet_40 10 rfl) rfl
theorem dX12_layStreet_59 : decode cX12_layStreet 59 = .ok (.if_icmp .ge 24, 3) := dk_162 (dw rcX12_layStreet_40 11 rfl) rfl
theorem dX12_layStreet_62 : decode cX12_layStreet 62 = .ok (.aload_n 0, 1) := dk_42 (dw rcX12_layStreet_40 12 rfl)
theorem dX12_layStreet_63 : decode cX12_layStreet 63 = .ok (.getfield 111, 3) := dk_180 (dw rcX12_layStreet_40 13 rfl) rfl
theorem dX12_layStreet_66 : decode cX12_layStreet 66 = .ok (.iload 4, 2) := dk_21 (dw rcX12_layStreet_40 14 rfl)
theorem dX12_layStreet_68 : decode cX12_layStreet 68 = .ok (.aload_n 0, 1) := dk_42 (dw rcX12_layStreet_40 15 rfl)
theorem dX12_layStreet_69 : decode cX12_layStreet 69 = .ok (.iload_n 2, 1) := dk_28 (dw rcX12_layStreet_40 16 rfl)
theorem dX12_layStreet_70 : decode cX12_layStreet 70 = .ok (.iload_n 3, 1) := dk_29 (dw rcX12_layStreet_40 17 rfl)
theorem dX12_layStreet_71 : decode cX12_layStreet 71 = .ok (.iload 4, 2) := dk_21 (dw rcX12_layStreet_40 18 rfl)
theorem dX12_layStreet_73 : decode cX12_layStreet 73 = .ok (.invokevirtual 466, 3) := dk_182 (dw rcX12_layStreet_40 19 rfl) rfl
theorem dX12_layStreet_76 : decode cX12_layStreet 76 = .ok (.bastore, 1) := dk_84 (dw rcX12_layStreet_40 20 rfl)
theorem dX12_layStreet_77 : decode cX12_layStreet 77 = .ok (.iinc 4 1, 3) := dk_132 (dw rcX12_layStreet_40 21 rfl) rfl
theorem dX12_layStreet_80 : decode cX12_layStreet 80 = .ok (.goto (-27), 3) := dk_167 (dw rcX12_layStreet_40 22 rfl) rfl
theorem dX12_layStreet_83 : decode cX12_layStreet 83 = .ok (.iconst 0, 1) := dk_3 (dw rcX12_layStreet_40 23 rfl)
noncomputable def rbX12_layStreet_84 : List (Nat × List Nat) := [(84, [54, 4]), (86, [21, 4]), (88, [17, 2, 0]), (91, [162, 0, 76]), (94, [42]), (95, [180, 0, 115]), (98, [21, 4]), (100, [42]), (101, [21, 4]), (103, [182, 1, 228]), (106, [84]), (107, [21, 4]), (109, [54, 5]), (111, [21, 5]), (113, [21, 4]), (115, [42]), (116, [180, 1, 216]), (119, [96]), (120, [162, 0, 41]), (123, [42]), (124, [180, 0, 115]), (127, [21, 4]), (129, [51]), (130, [153, 0, 31])]
theorem rcX12_layStreet_84 : dgo (lb cX12_layStreet) 0 rbX12_layStreet_84 = true := by decide +kernel
theorem dX12_layStreet_84 : decode cX12_layStreet 84 = .ok (.istore 4, 2) := dk_54 (dw rcX12_layStreet_84 0 rfl)
theorem dX12_layStreet_86 : decode cX12_layStreet 86 = .ok (.iload 4, 2) := dk_21 (dw rcX12_layStreet_84 1 rfl)
theorem dX12_layStreet_88 : decode cX12_layStreet 88 = .ok (.sipush 512, 3) := dk_17 (dw rcX12_layStreet_84 2 rfl) rfl
theorem dX12_layStreet_91 : decode cX12_layStreet 91 = .ok (.if_icmp .ge 76, 3) := dk_162 (dw rcX12_layStreet_84 3 rfl) rfl
theorem dX12_layStreet_94 : decode cX12_layStreet 94 = .ok (.aload_n 0, 1) := dk_42 (dw rcX12_layStreet_84 4 rfl)
theorem dX12_layStreet_95 : decode cX12_layStreet 95 = .ok (.getfield 115, 3) := dk_180 (dw rcX12_layStreet_84 5 rfl) rfl
theorem dX12_layStreet_98 : decode cX12_layStreet 98 = .ok (.iload 4, 2) := dk_21 (dw rcX12_layStreet_84 6 rfl)
theorem dX12_layStreet_100 : decode cX12_layStreet 100 = .ok (.aload_n 0, 1) := dk_42 (dw rcX12_layStreet_84 7 rfl)
theorem dX12_layStreet_101 : decode cX12_layStreet 101 = .ok (.iload 4, 2) := dk_21 (dw rcX12_layStreet_84 8 rfl)
theorem dX12_layStreet_103 : decode cX12_layStreet 103 = .ok (.invokevirtual 484, 3) := dk_182 (dw rcX12_layStreet_84 9 rfl) rfl
theorem dX12_layStreet_106 : decode cX12_layStreet 106 = .ok (.bastore, 1) := dk_84 (dw rcX12_layStreet_84 10 rfl)
theorem dX12_layStreet_107 : decode cX12_layStreet 107 = .ok (.iload 4, 2) := dk_21 (dw rcX12_layStreet_84 11 rfl)
theorem dX12_layStreet_109 : decode cX12_layStreet 109 = .ok (.istore 5, 2) := dk_54 (dw rcX12_layStreet_84 12 rfl)
theorem dX12_layStreet_111 : decode cX12_layStreet 111 = .ok (.iload 5, 2) := dk_21 (dw rcX12_layStreet_84 13 rfl)
theorem dX12_layStreet_113 : decode cX12_layStreet 113 = .ok (.iload 4, 2) := dk_21 (dw rcX12_layStreet_84 14 rfl)
theorem dX12_layStreet_115 : decode cX12_layStreet 115 = .ok (.aload_n 0, 1) := dk_42 (dw rcX12_layStreet_84 15 rfl)
theorem dX12_layStreet_116 : decode cX12_layStreet 116 = .ok (.getfield 472, 3) := dk_180 (dw rcX12_layStreet_84 16 rfl) rfl
theorem dX12_layStreet_119 : decode cX12_layStreet 119 = .ok (.iadd, 1) := dk_96 (dw rcX12_layStreet_84 17 rfl)
theorem dX12_layStreet_120 : decode cX12_layStreet 120 = .ok (.if_icmp .ge 41, 3) := dk_162 (dw rcX12_layStreet_84 18 rfl) rfl
theorem dX12_layStreet_123 : decode cX12_layStreet 123 = .ok (.aload_n 0, 1) := dk_42 (dw rcX12_layStreet_84 19 rfl)
theorem dX12_layStreet_124 : decode cX12_layStreet 124 = .ok (.getfield 115, 3) := dk_180 (dw rcX12_layStreet_84 20 rfl) rfl
theorem dX12_layStreet_127 : decode cX12_layStreet 127 = .ok (.iload 4, 2) := dk_21 (dw rcX12_layStreet_84 21 rfl)
theorem dX12_layStreet_129 : decode cX12_layStreet 129 = .ok (.baload, 1) := dk_51 (dw rcX12_layStreet_84 22 rfl)
theorem dX12_layStreet_130 : decode cX12_layStreet 130 = .ok (.ifCond .eq 31, 3) := dk_153 (dw rcX12_layStreet_84 23 rfl) rfl
noncomputable def rbX12_layStreet_133 : List (Nat × List Nat) := [(133, [42]), (134, [180, 0, 115]), (137, [21, 4]), (139, [42]), (140, [180, 0, 111]), (143, [21, 5]), (145, [51]), (146, [154, 0, 7]), (149, [4]), (150, [167, 0, 4]), (153, [3]), (154, [84]), (155, [132, 5, 1]), (158, [167, 255, 209]), (161, [132, 4, 1]), (164, [167, 255, 178]), (167, [177])]
theorem rcX12_layStreet_133 : dgo (lb cX12_layStreet) 0 rbX12_layStreet_133 = true := by decide +kernel
theorem dX12_layStreet_133 : decode cX12_layStreet 133 = .ok (.aload_n 0, 1) := dk_42 (dw rcX12_layStreet_133 0 rfl)
theorem dX12_layStreet_134 : decode cX12_layStreet 134 = .ok (.getfield 115, 3) := dk_180 (dw rcX12_layStreet_133 1 rfl) rfl
theorem dX12_layStreet_137 : decode cX12_layStreet 137 = .ok (.iload 4, 2) := dk_21 (dw rcX12_layStreet_133 2 rfl)
theorem dX12_layStreet_139 : decode cX12_layStreet 139 = .ok (.aload_n 0, 1) := dk_42 (dw rcX12_layStreet_133 3 rfl)
theorem dX12_layStreet_140 : decode cX12_layStreet 140 = .ok (.getfield 111, 3) := dk_180 (dw rcX12_layStreet_133 4 rfl) rfl
theorem dX12_layStreet_143 : decode cX12_layStreet 143 = .ok (.iload 5, 2) := dk_21 (dw rcX12_layStreet_133 5 rfl)
theorem dX12_layStreet_145 : decode cX12_layStreet 145 = .ok (.baload, 1) := dk_51 (dw rcX12_layStreet_133 6 rfl)
theorem dX12_layStreet_146 : decode cX12_layStreet 146 = .ok (.ifCond .ne 7, 3) := dk_154 (dw rcX12_layStreet_133 7 rfl) rfl
theorem dX12_layStreet_149 : decode cX12_layStreet 149 = .ok (.iconst 1, 1) := dk_4 (dw rcX12_layStreet_133 8 rfl)
theorem dX12_layStreet_150 : decode cX12_layStreet 150 = .ok (.goto 4, 3) := dk_167 (dw rcX12_layStreet_133 9 rfl) rfl
theorem dX12_layStreet_153 : decode cX12_layStreet 153 = .ok (.iconst 0, 1) := dk_3 (dw rcX12_layStreet_133 10 rfl)
theorem dX12_layStreet_154 : decode cX12_layStreet 154 = .ok (.bastore, 1) := dk_84 (dw rcX12_layStreet_133 11 rfl)
theorem dX12_layStreet_155 : decode cX12_layStreet 155 = .ok (.iinc 5 1, 3) := dk_132 (dw rcX12_layStreet_133 12 rfl) rfl
theorem dX12_layStreet_158 : decode cX12_layStreet 158 = .ok (.goto (-47), 3) := dk_167 (dw rcX12_layStreet_133 13 rfl) rfl
theorem dX12_layStreet_161 : decode cX12_layStreet 161 = .ok (.iinc 4 1, 3) := dk_132 (dw rcX12_layStreet_133 14 rfl) rfl
theorem dX12_layStreet_164 : decode cX12_layStreet 164 = .ok (.goto (-78), 3) := dk_167 (dw rcX12_layStreet_133 15 rfl) rfl
theorem dX12_layStreet_167 : decode cX12_layStreet 167 = .ok (.return_, 1) := dk_177 (dw rcX12_layStreet_133 16 rfl)
noncomputable def rbX12_line_0 : List (Nat × List Nat) := [(0, [42]), (1, [27]), (2, [182, 1, 197]), (5, [153, 0, 33]), (8, [42]), (9, [28]), (10, [182, 1, 207]), (13, [153, 0, 25]), (16, [42]), (17, [27]), (18, [29]), (19, [182, 1, 200]), (22, [153, 0, 16]), (25, [42]), (26, [27]), (27, [28]), (28, [29]), (29, [182, 1, 210]), (32, [184, 1, 92]), (35, [167, 0, 4]), (38, [2]), (39, [172])]
theorem rcX12_line_0 : dgo (lb cX12_line) 0 rbX12_line_0 = true := by decide +kernel
theorem dX12_line_0 : decode cX12_line 0 = .ok (.aload_n 0, 1) := dk_42 (dw rcX12_line_0 0 rfl)
theorem dX12_line_1 : decode cX12_line 1 = .ok (.iload_n 1, 1) := dk_27 (dw rcX12_line_0 1 rfl)
theorem dX12_line_2 : decode cX12_line 2 = .ok (.invokevirtual 453, 3) := dk_182 (dw rcX12_line_0 2 rfl) rfl
theorem dX12_line_5 : decode cX12_line 5 = .ok (.ifCond .eq 33, 3) := dk_153 (dw rcX12_line_0 3 rfl) rfl
theorem dX12_line_8 : decode cX12_line 8 = .ok (.aload_n 0, 1) := dk_42 (dw rcX12_line_0 4 rfl)
theorem dX12_line_9 : decode cX12_line 9 = .ok (.iload_n 2, 1) := dk_28 (dw rcX12_line_0 5 rfl)
theorem dX12_line_10 : decode cX12_line 10 = .ok (.invokevirtual 463, 3) := dk_182 (dw rcX12_line_0 6 rfl) rfl
theorem dX12_line_13 : decode cX12_line 13 = .ok (.ifCond .eq 25, 3) := dk_153 (dw rcX12_line_0 7 rfl) rfl
theorem dX12_line_16 : decode cX12_line 16 = .ok (.aload_n 0, 1) := dk_42 (dw rcX12_line_0 8 rfl)
theorem dX12_line_17 : decode cX12_line 17 = .ok (.iload_n 1, 1) := dk_27 (dw rcX12_line_0 9 rfl)
theorem dX12_line_18 : decode cX12_line 18 = .ok (.iload_n 3, 1) := dk_29 (dw rcX12_line_0 10 rfl)
theorem dX12_line_19 : decode cX12_line 19 = .ok (.invokevirtual 456, 3) := dk_182 (dw rcX12_line_0 11 rfl) rfl
theorem dX12_line_22 : decode cX12_line 22 = .ok (.ifCond .eq 16, 3) := dk_153 (dw rcX12_line_0 12 rfl) rfl
theorem dX12_line_25 : decode cX12_line 25 = .ok (.aload_n 0, 1) := dk_42 (dw rcX12_line_0 13 rfl)
theorem dX12_line_26 : decode cX12_line 26 = .ok (.iload_n 1, 1) := dk_27 (dw rcX12_line_0 14 rfl)
theorem dX12_line_27 : decode cX12_line 27 = .ok (.iload_n 2, 1) := dk_28 (dw rcX12_line_0 15 rfl)
theorem dX12_line_28 : decode cX12_line 28 = .ok (.iload_n 3, 1) := dk_29 (dw rcX12_line_0 16 rfl)
theorem dX12_line_29 : decode cX12_line 29 = .ok (.invokevirtual 466, 3) := dk_182 (dw rcX12_line_0 17 rfl) rfl
theorem dX12_line_32 : decode cX12_line 32 = .ok (.invokestatic 348, 3) := dk_184 (dw rcX12_line_0 18 rfl) rfl
theorem dX12_line_35 : decode cX12_line 35 = .ok (.goto 4, 3) := dk_167 (dw rcX12_line_0 19 rfl) rfl
theorem dX12_line_38 : decode cX12_line 38 = .ok (.iconst (-1), 1) := dk_2 (dw rcX12_line_0 20 rfl)
theorem dX12_line_39 : decode cX12_line 39 = .ok (.ireturn, 1) := dk_172 (dw rcX12_line_0 21 rfl)
set_option maxHeartbeats 4000000 in
set_option maxRecDepth 100000 in
theorem n_isLine (l : Launch) (D : va_G) (k : KT) (A : Nat → Prop) (a : Nat → Nat) (z : SK) (G : GS) (p0 : Int32) (p1 : Int32) (p2 : Int32) (ha_p0 : 0 ≤ p0.toInt ∧ p0.toInt ≤ 2) (ha_p2 : 0 ≤ p2.toInt ∧ p2.toInt ≤ 399) (hP9 : gP G = 1) : Met l yX12_isLine (WS yX12_isLine cX12_isLine 7 (some .boolean)) ({ frames := 3, cells := 0, slots := 0, locals := 66 }) (va_Pc [.ref (a 66), .int p0, .int p1, .int p2] (cW D k A a z G)) (va_Qi (fun (r : Int32) (G1 : GS) => Q_isLine p0 p1 p2 G r G1) (fun (G1 : GS) t => Wd D k A a G1 t.heap) A) 0 0 A := by
  refine Met.ofW (cc := cX12_isLine) (maxL := 7) (ret := (some .boolean)) (by decide) rfl ?_
  intro p e s m args below meth c s₁ B hml hv
  obtain ⟨rfl, hW, hB_G, hK, hZ⟩ := hv
  have hx := B.exec
  have hb := B.bytes
  have hr := B.returns
  have hts := atoms_spec (ws := WS yX12_isLine cX12_isLine 7 (some .boolean)) B.pre
  have hgd : ∀ w ∈ gd, w ∈ WS yX12_isLine cX12_isLine 7 (some .boolean) := fun w h => List.mem_cons_of_mem _ h
  have hg : ∀ w ∈ gd, w.before _ s = true := fun w h => hts w (hgd w h)
  have hown : s.vm.findClass RX12 = some m.cls := findClass_of_methodNamed B.named
  have hS : va_S A s.heap s.heap [] := va_S.rf
  have hF : Fr [76] [] G G := Fr.rf
  have hl := lv_entry ([.ref (a 66), .int p0, .int p1, .int p2]) (n := 7) (Nat.le_of_ble_eq_true rfl)
  rw [lg_entry_eq]
  generalize (lg_sl ([.ref (a 66), .int p0, .int p1, .int p2]) ++ List.replicate (7 - (lg_sl ([.ref (a 66), .int p0, .int p1, .int p2])).length) Slot.unset).toArray = ls at hl ⊢
  have hl : lv_has ls 7 [(0, .ref (a 66)), (1, .int p0), (2, .int p1), (3, .int p2)] := hl
  refine lv_sipush (v := 400) hx hb dX12_isLine_0 (by decide) ?_
  refine lv_iload_n hx hb dX12_isLine_3 rfl (lv_at hl 1 rfl) ?_
  refine lv_imul hx hb dX12_isLine_4 ?_
  refine lv_topi (fun y_1 ey_1 => ?_)
  have ty_1 : y_1.toInt = 400 * p0.toInt := xI_mul rfl rfl ey_1 ((by first | exact ok_732 ha_p0.1 | omega)) ((by first | exact ok_1070 ha_p0.2 | omega))
  refine lv_iload_n hx hb dX12_isLine_5 rfl (lv_at hl 3 rfl) ?_
  refine lv_iadd hx hb dX12_isLine_6 ?_
  refine lv_topi (fun y_2 ey_2 => ?_)
  have ty_2 : y_2.toInt = y_1.toInt + p2.toInt := xI_add rfl rfl ey_2 ((by first | exact ok_1071 ha_p0.1 ha_p2.1 ty_1 | omega)) ((by first | exact ok_1072 ha_p0.2 ha_p2.2 ty_1 | omega))
  refine lv_istore (lv' := [(4, .int y_2), (0, .ref (a 66)), (1, .int p0), (2, .int p1), (3, .int p2)]) hx hb dX12_isLine_7 hl (lt_b rfl) rfl (fun ls hl => ?_)
  refine lv_iload_n hx hb dX12_isLine_9 rfl (lv_at hl 3 rfl) ?_
  refine lv_if_ne (tgt := 42) hx hb dX12_isLine_10 rfl (fun c_3 => ?_) (fun c_3 => ?_)
  · have c_3 : p1.toInt ≠ 0 := xI_ne rfl rfl c_3
    refine ic_0 hx hb dX12_isLine_42 ?_
    refine lv_istore (lv' := [(5, .int 0), (4, .int y_2), (0, .ref (a 66)), (1, .int p0), (2, .int p1), (3, .int p2)]) hx hb dX12_isLine_43 hl (lt_b rfl) rfl (fun ls hl => ?_)
    refine ic_0 hx hb dX12_isLine_45 ?_
    refine lv_istore (lv' := [(6, .int 0), (5, .int 0), (4, .int y_2), (0, .ref (a 66)), (1, .int p0), (2, .int p1), (3, .int p2)]) hx hb dX12_isLine_46 hl (lt_b rfl) rfl (fun ls hl => ?_)
    have qc_11 : (0 : Int32).toInt = 0 := rfl
    refine loop_N (Inv := fun n H locs ls => ∃ (G_4 : GS) (x_8 : Int32) (x_9 : Int32), (n : Int) = 6 - x_8.toInt ∧ (0 ≤ x_8.toInt ∧ x_8.toInt ≤ 6) ∧ (0 ≤ x_9.toInt ∧ x_9.toInt ≤ 1) ∧ Rc (St_n_isLine_1 p1 y_2 G) (0, 0, G) (x_8, x_9, G_4) ∧ Wd D k A a G_4 H ∧ Bd G_4 ∧ Fr [76] [] G G_4 ∧ Fr [76] [] G G_4 ∧ va_S A s.heap H locs ∧ lv_has ls 7 [(6, .int x_8), (5, .int x_9), (4, .int y_2), (0, .ref (a 66)), (2, .int p1)]) (fun n_7 H locs ls ih_6 hI => ?_) (6 - 0 : Int).toNat ⟨G, 0, 0, (Int.toNat_of_nonneg ((by decide))), ⟨(by decide), (by decide)⟩, ⟨(by decide), (by decide)⟩, Rc.rf, hW, hB_G, hF, Fr.rf, hS, lv_sub hl [0, 1, 2, 3, 5] rfl⟩
    obtain ⟨G_4, x_8, x_9, hn_14, f_12, f_13, hX_10, hW, hB_G_4, hF, hq_5, hS, hl⟩ := hI
    refine lv_iload hx hb dX12_isLine_48 (lv_at hl 0 rfl) ?_
    refine lv_aload_n hx hb dX12_isLine_50 rfl (lv_at hl 3 rfl) ?_
    have b_15 : 0 ≤ (G.1 66 54).toInt ∧ (G.1 66 54).toInt ≤ 6 := bd_66_54 hB_G
    refine S_getI (v := (G.1 66 54)) (C := RX12) (T := TX12) (N := 89) hx hb hg iX12 hown hK hW kd_66 rfl 54 (lt_b rfl) (hg (Cond.fieldLink RX12 431 "SlabWalkModel" "rules" "I") m1368) (fun _ h9 => h9) rfl (hq_5.i9 66 54 rfl rfl) dX12_isLine_51 ?_
    refine lv_icmp_ge (tgt := 96) hx hb dX12_isLine_54 rfl (fun c_16 => ?_) (fun c_16 => ?_)
    · have c_16 : (G.1 66 54).toInt ≤ x_8.toInt := xI_le rfl rfl c_16
      refine lv_iload hx hb dX12_isLine_96 (lv_at hl 1 rfl) ?_
      exact W.zret (v := x_9) hx hb hr (nar_z ((by first | exact f_13.1 | omega)) ((by first | exact f_13.2 | omega))) (fun t ht _ => ⟨⟨x_9, G_4, rfl, (Q_isLine_mk ⟨hB_G_4, hF, ⟨(by first | exact f_13.1 | omega), (by first | exact f_13.2 | omega)⟩, ⟨y_1, ty_1, ⟨y_2, ty_2, (Or.inr ⟨c_3, ⟨x_8, x_9, G_4, hX_10, f_12, f_13, hB_G_4, hq_5, (Or.inl ⟨c_16, ⟨rfl, rfl⟩⟩)⟩⟩)⟩⟩⟩), wd_t ht hW⟩, hS.F ht⟩) hS.2.2 dX12_isLine_98
    · have c_16 : x_8.toInt < (G.1 66 54).toInt := xI_nle rfl rfl c_16
      refine lv_iload hx hb dX12_isLine_57 (lv_at hl 1 rfl) ?_
      refine lv_if_ne (tgt := 96) hx hb dX12_isLine_59 rfl (fun c_17 => ?_) (fun c_17 => ?_)
      · have c_17 : x_9.toInt ≠ 0 := xI_ne rfl rfl c_17
        refine lv_iload hx hb dX12_isLine_96 (lv_at hl 1 rfl) ?_
        exact W.zret (v := x_9) hx hb hr (nar_z ((by first | exact f_13.1 | omega)) ((by first | exact f_13.2 | omega))) (fun t ht _ => ⟨⟨x_9, G_4, rfl, (Q_isLine_mk ⟨hB_G_4, hF, ⟨(by first | exact f_13.1 | omega), (by first | exact f_13.2 | omega)⟩, ⟨y_1, ty_1, ⟨y_2, ty_2, (Or.inr ⟨c_3, ⟨x_8, x_9, G_4, hX_10, f_12, f_13, hB_G_4, hq_5, (Or.inr ⟨c_16, ⟨c_17, ⟨rfl, rfl⟩⟩⟩)⟩⟩)⟩⟩⟩), wd_t ht hW⟩, hS.F ht⟩) hS.2.2 dX12_isLine_98
      · have c_17 : x_9.toInt = 0 := xI_eq rfl rfl c_17
        refine lv_iload_n hx hb dX12_isLine_62 rfl (lv_at hl 4 rfl) ?_
        refine lv_iload hx hb dX12_isLine_63 (lv_at hl 0 rfl) ?_
        refine lv_ishr hx hb dX12_isLine_65 ?_
        refine lv_topi (fun y_18 ey_18 => ?_)
        refine ic_1 hx hb dX12_isLine_66 ?_
        refine lv_iand hx hb dX12_isLine_67 ?_
        refine lv_topi (fun y_19 ey_19 => ?_)
        have ty_19 := xI_and (Y := 1) rfl ey_19 (by decide)
        refine ic_1 hx hb dX12_isLine_68 ?_
        refine lv_icmp_ne (tgt := 87) hx hb dX12_isLine_69 rfl (fun c_20 => ?_) (fun c_20 => ?_)
        · have c_20 : y_19.toInt ≠ 1 := xI_ne rfl rfl c_20
          refine ic_0 hx hb dX12_isLine_87 ?_
          refine lv_istore (lv' := [(5, .int 0), (6, .int x_8), (4, .int y_2), (0, .ref (a 66)), (2, .int p1)]) hx hb dX12_isLine_88 hl (lt_b rfl) rfl (fun ls hl => ?_)
          obtain ⟨y_21, ey_21⟩ : ∃ q, q = x_8 + 1 := ⟨_, rfl⟩
          have ty_21 : y_21.toInt = x_8.toInt + 1 := xI_add rfl rfl ey_21 ((by first | exact ok_21 f_12.1 | omega)) ((by first | exact ok_157 f_12.2 | omega))
          refine lv_iinc (v := y_21) (lv' := [(6, .int y_21), (5, .int 0), (4, .int y_2), (0, .ref (a 66)), (2, .int p1)]) hx hb dX12_isLine_90 hl (k := 1) rfl (by rw [ey_21]; rfl) (lt_b rfl) rfl (fun ls hl => ?_)
          refine lv_goto (tgt := 48) hx hb dX12_isLine_93 rfl ?_
          have qc_22 : (0 : Int32).toInt = 0 := rfl
          exact ih_6 (6 - y_21.toInt : Int).toNat ((by first | (clear ha_p0 ha_p2 hP9 ty_1 ty_2 c_3 f_13 c_17 ty_19 c_20; omega) | omega)) _ _ _ ⟨G_4, y_21, 0, (Int.toNat_of_nonneg ((by first | exact ok_568 f_12.2 b_15.2 c_16 ty_21 | omega))), ⟨(by first | exact ok_23 f_12.1 ty_21 | omega), (by first | exact ok_569 f_12.2 b_15.2 c_16 ty_21 | omega)⟩, ⟨(by decide), (by decide)⟩, (hX_10.st (St_n_isLine_1_mk ⟨x_8, x_9, G_4, y_21, 0, G_4, rfl, rfl, f_12, f_13, hB_G_4, ⟨c_16, ⟨c_17, ⟨y_18, ey_18, ⟨y_19, ey_19, (Or.inr ⟨c_20, ⟨y_21, ty_21, ⟨rfl, rfl, rfl⟩⟩⟩)⟩⟩⟩⟩⟩)), hW, hB_G_4, hF, (Fr.call9 (rs := [76]) (fs := []) Fr.rf hq_5 rfl rfl), hS, lv_sub hl [0, 1, 2, 3, 4] rfl⟩
        · have c_20 : y_19.toInt = 1 := xI_eq rfl rfl c_20
          refine lv_aload_n hx hb dX12_isLine_72 rfl (lv_at hl 3 rfl) ?_
          refine lv_iload hx hb dX12_isLine_73 (lv_at hl 0 rfl) ?_
          refine lv_iload hx hb dX12_isLine_75 (lv_at hl 2 rfl) ?_
          have fr_23 : Fr [76] [] G G_4 := (Fr.call9 (rs := [76]) (fs := []) Fr.rf hq_5 rfl rfl)
          have g_24 : gP G_4 = gP G := gP_fr fr_23 (gr_q rfl) (gf_q rfl)
          have g_25 : (G_4.1 66 54).toInt = (G.1 66 54).toInt := (congrArg Int32.toInt (show G_4.1 66 54 = (G.1 66 54) from ((hq_5.i9 66 54 rfl rfl).trans (rfl))))
          refine S_calli (va_runV (As := [.int x_8, .int y_2]) (rest := []) ⟨hx, hb, hml, hown, hts⟩ (n_worked l D k A a z G_4 x_8 y_2 ⟨(by first | exact f_12.1 | omega), (by first | exact ok_1073 f_12.2 b_15.2 c_16 | omega)⟩ ⟨(by first | exact ok_1074 ha_p0.1 ha_p2.1 ty_1 ty_2 | omega), (by first | exact ok_1075 ha_p0.2 ha_p2.2 ty_1 ty_2 | omega)⟩ ((by first | exact ok_796 hP9 g_24 | omega)) ((by first | exact ok_461 c_16 g_25 | omega))) (cwV 2 hts (gd_V hgd m1807 m1809 m87 m131 m1810) rfl rfl rfl hd_X12_worked ⟨Nat.le_of_ble_eq_true rfl, Nat.le_of_ble_eq_true rfl⟩) (pre_W hW hB_G_4 hK hZ hS kd_66 rfl) rfl rfl hl.1 rfl (lv_room (Nat.le_of_ble_eq_true rfl)) dX12_isLine_77 ⟨Nat.le_of_ble_eq_true rfl, Nat.le_of_ble_eq_true rfl⟩) hS (fun r_26 G_27 H locs hpo hW hS => ?_)
          have hX_30 : Q_worked x_8 y_2 G_4 r_26 G_27 := hpo
          obtain ⟨hB_G_27, hq_28, -⟩ := hpo
          have hF := hF.call9 hq_28 rfl rfl
          refine lv_if_eq (tgt := 87) hx hb dX12_isLine_80 rfl (fun c_31 => ?_) (fun c_31 => ?_)
          · have c_31 : r_26.toInt = 0 := xI_eq rfl rfl c_31
            refine ic_0 hx hb dX12_isLine_87 ?_
            refine lv_istore (lv' := [(5, .int 0), (6, .int x_8), (4, .int y_2), (0, .ref (a 66)), (2, .int p1)]) hx hb dX12_isLine_88 hl (lt_b rfl) rfl (fun ls hl => ?_)
            obtain ⟨y_32, ey_32⟩ : ∃ q, q = x_8 + 1 := ⟨_, rfl⟩
            have ty_32 : y_32.toInt = x_8.toInt + 1 := xI_add rfl rfl ey_32 ((by first | exact ok_21 f_12.1 | omega)) ((by first | exact ok_157 f_12.2 | omega))
            refine lv_iinc (v := y_32) (lv' := [(6, .int y_32), (5, .int 0), (4, .int y_2), (0, .ref (a 66)), (2, .int p1)]) hx hb dX12_isLine_90 hl (k := 1) rfl (by rw [ey_32]; rfl) (lt_b rfl) rfl (fun ls hl => ?_)
            refine lv_goto (tgt := 48) hx hb dX12_isLine_93 rfl ?_
            have qc_33 : (0 : Int32).toInt = 0 := rfl
            exact ih_6 (6 - y_32.toInt : Int).toNat ((by first | (clear ha_p0 ha_p2 hP9 ty_1 ty_2 c_3 f_13 c_17 ty_19 c_20 g_24 c_31; omega) | omega)) _ _ _ ⟨G_27, y_32, 0, (Int.toNat_of_nonneg ((by first | exact ok_568 f_12.2 b_15.2 c_16 ty_32 | omega))), ⟨(by first | exact ok_23 f_12.1 ty_32 | omega), (by first | exact ok_569 f_12.2 b_15.2 c_16 ty_32 | omega)⟩, ⟨(by decide), (by decide)⟩, (hX_10.st (St_n_isLine_1_mk ⟨x_8, x_9, G_4, y_32, 0, G_27, rfl, rfl, f_12, f_13, hB_G_4, ⟨c_16, ⟨c_17, ⟨y_18, ey_18, ⟨y_19, ey_19, (Or.inl ⟨c_20, ⟨r_26, G_27, hX_30, (Or.inl ⟨c_31, ⟨y_32, ty_32, ⟨rfl, rfl, rfl⟩⟩⟩)⟩⟩)⟩⟩⟩⟩⟩)), hW, hB_G_27, hF, (Fr.call9 (rs := [76]) (fs := []) (Fr.call9 (rs := [76]) (fs := []) Fr.rf hq_5 rfl rfl) hq_28 rfl rfl), hS, lv_sub hl [0, 1, 2, 3, 4] rfl⟩
          · have c_31 : r_26.toInt ≠ 0 := xI_ne rfl rfl c_31
            refine ic_1 hx hb dX12_isLine_83 ?_
            refine lv_goto (tgt := 88) hx hb dX12_isLine_84 rfl ?_
            refine lv_istore (lv' := [(5, .int 1), (6, .int x_8), (4, .int y_2), (0, .ref (a 66)), (2, .int p1)]) hx hb dX12_isLine_88 hl (lt_b rfl) rfl (fun ls hl => ?_)
            obtain ⟨y_34, ey_34⟩ : ∃ q, q = x_8 + 1 := ⟨_, rfl⟩
            have ty_34 : y_34.toInt = x_8.toInt + 1 := xI_add rfl rfl ey_34 ((by first | exact ok_21 f_12.1 | omega)) ((by first | exact ok_157 f_12.2 | omega))
            refine lv_iinc (v := y_34) (lv' := [(6, .int y_34), (5, .int 1), (4, .int y_2), (0, .ref (a 66)), (2, .int p1)]) hx hb dX12_isLine_90 hl (k := 1) rfl (by rw [ey_34]; rfl) (lt_b rfl) rfl (fun ls hl => ?_)
            refine lv_goto (tgt := 48) hx hb dX12_isLine_93 rfl ?_
            have qc_35 : (1 : Int32).toInt = 1 := rfl
            exact ih_6 (6 - y_34.toInt : Int).toNat ((by first | (clear ha_p0 ha_p2 hP9 ty_1 ty_2 c_3 f_13 c_17 ty_19 c_20 g_24 c_31; omega) | omega)) _ _ _ ⟨G_27, y_34, 1, (Int.toNat_of_nonneg ((by first | exact ok_568 f_12.2 b_15.2 c_16 ty_34 | omega))), ⟨(by first | exact ok_23 f_12.1 ty_34 | omega), (by first | exact ok_569 f_12.2 b_15.2 c_16 ty_34 | omega)⟩, ⟨(by decide), (by decide)⟩, (hX_10.st (St_n_isLine_1_mk ⟨x_8, x_9, G_4, y_34, 1, G_27, rfl, rfl, f_12, f_13, hB_G_4, ⟨c_16, ⟨c_17, ⟨y_18, ey_18, ⟨y_19, ey_19, (Or.inl ⟨c_20, ⟨r_26, G_27, hX_30, (Or.inr ⟨c_31, ⟨y_34, ty_34, ⟨rfl, rfl, rfl⟩⟩⟩)⟩⟩)⟩⟩⟩⟩⟩)), hW, hB_G_27, hF, (Fr.call9 (rs := [76]) (fs := []) (Fr.call9 (rs := [76]) (fs := []) Fr.rf hq_5 rfl rfl) hq_28 rfl rfl), hS, lv_sub hl [0, 1, 2, 3, 4] rfl⟩
  · have c_3 : p1.toInt = 0 := xI_eq rfl rfl c_3
    refine lv_aload_n hx hb dX12_isLine_13 rfl (lv_at hl 1 rfl) ?_
    refine S_getR (n := 87) (C := RX12) (T := TX12) (N := 89) hx hb hg iX12 hown hK hW kd_66 rfl 35 (lt_b rfl) (hg (Cond.fieldLink RX12 75 "SlabWalkModel" "marks" "[I") m1349) (fun _ h9 => h9) rfl dX12_isLine_14 ?_
    refine lv_iload hx hb dX12_isLine_17 (lv_at hl 0 rfl) ?_
    refine S_iald hx hb hK hW kd_87 (vin ((by first | exact ok_1074 ha_p0.1 ha_p2.1 ty_1 ty_2 | omega)) ((by first | exact ok_1076 ha_p0.2 ha_p2.2 ty_1 ty_2 | omega))) dX12_isLine_19 (fun y_36 ey_36 => ?_)
    refine lv_if_lt (tgt := 36) hx hb dX12_isLine_20 rfl (fun c_37 => ?_) (fun c_37 => ?_)
    · have c_37 : y_36.toInt < 0 := xI_lt rfl rfl c_37
      refine ic_1 hx hb dX12_isLine_36 ?_
      refine lv_goto (tgt := 41) hx hb dX12_isLine_37 rfl ?_
      exact W.zret (v := 1) hx hb hr (by decide) (fun t ht _ => ⟨⟨1, G, rfl, (Q_isLine_mk ⟨hB_G, hF, ⟨by decide, by decide⟩, ⟨y_1, ty_1, ⟨y_2, ty_2, (Or.inl ⟨c_3, ⟨y_36, ey_36, (Or.inl ⟨c_37, ⟨rfl, rfl⟩⟩)⟩⟩)⟩⟩⟩), wd_t ht hW⟩, hS.F ht⟩) hS.2.2 dX12_isLine_41
    · have c_37 : 0 ≤ y_36.toInt := xI_nlt rfl rfl c_37
      refine lv_aload_n hx hb dX12_isLine_23 rfl (lv_at hl 1 rfl) ?_
      refine S_getR (n := 87) (C := RX12) (T := TX12) (N := 89) hx hb hg iX12 hown hK hW kd_66 rfl 35 (lt_b rfl) (hg (Cond.fieldLink RX12 75 "SlabWalkModel" "marks" "[I") m1349) (fun _ h9 => h9) rfl dX12_isLine_24 ?_
      refine lv_iload hx hb dX12_isLine_27 (lv_at hl 0 rfl) ?_
      refine S_iald hx hb hK hW kd_87 (vin ((by first | exact ok_1074 ha_p0.1 ha_p2.1 ty_1 ty_2 | omega)) ((by first | exact ok_1076 ha_p0.2 ha_p2.2 ty_1 ty_2 | omega))) dX12_isLine_29 (fun y_38 ey_38 => ?_)
      refine lv_bipush (v := 6) hx hb dX12_isLine_30 (by decide) ?_
      refine lv_iand hx hb dX12_isLine_32 ?_
      refine lv_topi (fun y_39 ey_39 => ?_)
      have ty_39 := xI_and (Y := 6) rfl ey_39 (by decide)
      refine lv_if_eq (tgt := 40) hx hb dX12_isLine_33 rfl (fun c_40 => ?_) (fun c_40 => ?_)
      · have c_40 : y_39.toInt = 0 := xI_eq rfl rfl c_40
        refine ic_0 hx hb dX12_isLine_40 ?_
        exact W.zret (v := 0) hx hb hr (by decide) (fun t ht _ => ⟨⟨0, G, rfl, (Q_isLine_mk ⟨hB_G, hF, ⟨by decide, by decide⟩, ⟨y_1, ty_1, ⟨y_2, ty_2, (Or.inl ⟨c_3, ⟨y_36, ey_36, (Or.inr ⟨c_37, ⟨y_38, ey_38, ⟨y_39, ey_39, (Or.inl ⟨c_40, ⟨rfl, rfl⟩⟩)⟩⟩⟩)⟩⟩)⟩⟩⟩), wd_t ht hW⟩, hS.F ht⟩) hS.2.2 dX12_isLine_41
      · have c_40 : y_39.toInt ≠ 0 := xI_ne rfl rfl c_40
        refine ic_1 hx hb dX12_isLine_36 ?_
        refine lv_goto (tgt := 41) hx hb dX12_isLine_37 rfl ?_
        exact W.zret (v := 1) hx hb hr (by decide) (fun t ht _ => ⟨⟨1, G, rfl, (Q_isLine_mk ⟨hB_G, hF, ⟨by decide, by decide⟩, ⟨y_1, ty_1, ⟨y_2, ty_2, (Or.inl ⟨c_3, ⟨y_36, ey_36, (Or.inr ⟨c_37, ⟨y_38, ey_38, ⟨y_39, ey_39, (Or.inr ⟨c_40, ⟨rfl, rfl⟩⟩)⟩⟩⟩)⟩⟩)⟩⟩⟩), wd_t ht hW⟩, hS.F ht⟩) hS.2.2 dX12_isLine_41

set_option maxHeartbeats 4000000 in
set_option maxRecDepth 100000 in
theorem n_layStreet (l : Launch) (D : va_G) (k : KT) (A : Nat → Prop) (a : Nat → Nat) (z : SK) (G : GS) (p0 : Int32) (p1 : Int32) (p2 : Int32) (ha_p0 : 0 ≤ p0.toInt ∧ p0.toInt ≤ 3) (ha_p1 : 0 ≤ p1.toInt ∧ p1.toInt ≤ 2) (hP9 : gP G = 1) : Met l yX12_layStreet (WS yX12_layStreet cX12_layStreet 6 none) ({ frames := 4, cells := 0, slots := 0, locals := 92 }) (va_Pc [.ref (a 66), .int p0, .int p1, .int p2] (cW D k A a z G)) (va_Qv (fun (G1 : GS) => Q_layStreet p0 p1 p2 G G1) (fun (G1 : GS) t => Wd D k A a G1 t.heap) A) 0 0 A := by
  refine Met.ofW (cc := cX12_layStreet) (maxL := 6) (ret := none) (by decide) rfl ?_
  intro p e s m args below meth c s₁ B hml hv
  obtain ⟨rfl, hW, hB_G, hK, hZ⟩ := hv
  have hx := B.exec
  have hb := B.bytes
  have hr := B.returns
  have hts := atoms_spec (ws := WS yX12_layStreet cX12_layStreet 6 none) B.pre
  have hgd : ∀ w ∈ gd, w ∈ WS yX12_layStreet cX12_layStreet 6 none := fun w h => List.mem_cons_of_mem _ h
  have hg : ∀ w ∈ gd, w.before _ s = true := fun w h => hts w (hgd w h)
  have hown : s.vm.findClass RX12 = some m.cls := findClass_of_methodNamed B.named
  have hS : va_S A s.heap s.heap [] := va_S.rf
  have hF : Fr [76, 97, 98] [(66, 59), (66, 60), (66, 61), (66, 62), (66, 63)] G G := Fr.rf
  have hl := lv_entry ([.ref (a 66), .int p0, .int p1, .int p2]) (n := 6) (Nat.le_of_ble_eq_true rfl)
  rw [lg_entry_eq]
  generalize (lg_sl ([.ref (a 66), .int p0, .int p1, .int p2]) ++ List.replicate (6 - (lg_sl ([.ref (a 66), .int p0, .int p1, .int p2])).length) Slot.unset).toArray = ls at hl ⊢
  have hl : lv_has ls 6 [(0, .ref (a 66)), (1, .int p0), (2, .int p1), (3, .int p2)] := hl
  refine lv_aload_n hx hb dX12_layStreet_0 rfl (lv_at hl 0 rfl) ?_
  refine lv_aload_n hx hb dX12_layStreet_1 rfl (lv_at hl 0 rfl) ?_
  refine S_getR (n := 91) (C := RX12) (T := TX12) (N := 89) hx hb hg iX12 hown hK hW kd_66 rfl 39 (lt_b rfl) (hg (Cond.fieldLink RX12 87 "SlabWalkModel" "lengths" "[I") m1353) (fun _ h9 => h9) rfl dX12_layStreet_2 ?_
  refine lv_iload_n hx hb dX12_layStreet_5 rfl (lv_at hl 2 rfl) ?_
  refine S_iald hx hb hK hW kd_91 (vin ((by first | exact ha_p1.1 | omega)) ((by first | exact ok_174 ha_p1.2 | omega))) dX12_layStreet_6 (fun y_1 ey_1 => ?_)
  have ty_1 : 0 ≤ y_1.toInt ∧ y_1.toInt ≤ 400 := bv_91 hB_G ey_1
  have u_2 : y_1.toInt = (G.1 91 p1.toNatClampNeg).toInt := congrArg Int32.toInt (ey_1)
  refine S_putI (ty := .int) (C := RX12) (T := TX12) (N := 89) hx hb hg iX12 tyX12 tyX12_ok nmX12 hown hK hW hS kd_66 rfl 59 (lt_b rfl) (hg (Cond.fieldLink RX12 469 "SlabWalkModel" "inchesOf" "I") m1373) (fun _ h9 => h9) rfl (by decide +kernel) rfl rfl rfl dX12_layStreet_7 (fun G_3 H locs eG_3 hW hS => ?_)
  have hB_G_3 : Bd G_3 := hB_G.put (V := y_1.toInt) (lo := 0) (hi := 400) eG_3 rfl rfl rfl ((by first | exact ty_1.1 | omega)) ((by first | exact ty_1.2 | omega)) (hB_G.2.put eG_3 rfl)
  have hF := hF.put eG_3 (Or.inr (by decide))
  refine lv_aload_n hx hb dX12_layStreet_10 rfl (lv_at hl 0 rfl) ?_
  refine lv_aload_n hx hb dX12_layStreet_11 rfl (lv_at hl 0 rfl) ?_
  refine S_getR (n := 92) (C := RX12) (T := TX12) (N := 89) hx hb hg iX12 hown hK hW kd_66 rfl 40 (lt_b rfl) (hg (Cond.fieldLink RX12 90 "SlabWalkModel" "foots" "[I") m1354) (fun _ h9 => h9) rfl dX12_layStreet_12 ?_
  refine lv_iload_n hx hb dX12_layStreet_15 rfl (lv_at hl 1 rfl) ?_
  refine S_iald hx hb hK hW kd_92 (vin ((by first | exact ha_p0.1 | omega)) ((by first | exact ok_175 ha_p0.2 | omega))) dX12_layStreet_16 (fun y_4 ey_4 => ?_)
  have ty_4 : 0 ≤ y_4.toInt ∧ y_4.toInt ≤ 12 := bv_92 hB_G_3 ey_4
  have u_5 : y_4.toInt = (G.1 92 p0.toNatClampNeg).toInt := congrArg Int32.toInt (ey_4.trans ((gp_ne eG_3 (fun q => absurd q.1 (Nat.ne_of_beq_eq_false rfl)))))
  refine S_putI (ty := .int) (C := RX12) (T := TX12) (N := 89) hx hb hg iX12 tyX12 tyX12_ok nmX12 hown hK hW hS kd_66 rfl 60 (lt_b rfl) (hg (Cond.fieldLink RX12 472 "SlabWalkModel" "foot" "I") m1374) (fun _ h9 => h9) rfl (by decide +kernel) rfl rfl rfl dX12_layStreet_17 (fun G_6 H locs eG_6 hW hS => ?_)
  have hB_G_6 : Bd G_6 := hB_G_3.put (V := y_4.toInt) (lo := 0) (hi := 12) eG_6 rfl rfl rfl ((by first | exact ty_4.1 | omega)) ((by first | exact ty_4.2 | omega)) (hB_G_3.2.put eG_6 rfl)
  have hF := hF.put eG_6 (Or.inr (by decide))
  refine lv_aload_n hx hb dX12_layStreet_20 rfl (lv_at hl 0 rfl) ?_
  refine lv_aload_n hx hb dX12_layStreet_21 rfl (lv_at hl 0 rfl) ?_
  refine S_getR (n := 93) (C := RX12) (T := TX12) (N := 89) hx hb hg iX12 hown hK hW kd_66 rfl 41 (lt_b rfl) (hg (Cond.fieldLink RX12 93 "SlabWalkModel" "leasts" "[I") m1355) (fun _ h9 => h9) rfl dX12_layStreet_22 ?_
  refine lv_iload_n hx hb dX12_layStreet_25 rfl (lv_at hl 1 rfl) ?_
  refine S_iald hx hb hK hW kd_93 (vin ((by first | exact ha_p0.1 | omega)) ((by first | exact ok_175 ha_p0.2 | omega))) dX12_layStreet_26 (fun y_7 ey_7 => ?_)
  have ty_7 : 0 ≤ y_7.toInt ∧ y_7.toInt ≤ 60 := bv_93 hB_G_6 ey_7
  have u_8 : y_7.toInt = (G.1 93 p0.toNatClampNeg).toInt := congrArg Int32.toInt (ey_7.trans (((gp_ne eG_6 (fun q => absurd q.1 (Nat.ne_of_beq_eq_false rfl))).trans (gp_ne eG_3 (fun q => absurd q.1 (Nat.ne_of_beq_eq_false rfl))))))
  refine S_putI (ty := .int) (C := RX12) (T := TX12) (N := 89) hx hb hg iX12 tyX12 tyX12_ok nmX12 hown hK hW hS kd_66 rfl 61 (lt_b rfl) (hg (Cond.fieldLink RX12 475 "SlabWalkModel" "least" "I") m1375) (fun _ h9 => h9) rfl (by decide +kernel) rfl rfl rfl dX12_layStreet_27 (fun G_9 H locs eG_9 hW hS => ?_)
  have hB_G_9 : Bd G_9 := hB_G_6.put (V := y_7.toInt) (lo := 0) (hi := 60) eG_9 rfl rfl rfl ((by first | exact ty_7.1 | omega)) ((by first | exact ty_7.2 | omega)) (hB_G_6.2.put eG_9 rfl)
  have hF := hF.put eG_9 (Or.inr (by decide))
  refine lv_aload_n hx hb dX12_layStreet_30 rfl (lv_at hl 0 rfl) ?_
  refine lv_aload_n hx hb dX12_layStreet_31 rfl (lv_at hl 0 rfl) ?_
  refine S_getR (n := 94) (C := RX12) (T := TX12) (N := 89) hx hb hg iX12 hown hK hW kd_66 rfl 42 (lt_b rfl) (hg (Cond.fieldLink RX12 96 "SlabWalkModel" "mosts" "[I") m1356) (fun _ h9 => h9) rfl dX12_layStreet_32 ?_
  refine lv_iload_n hx hb dX12_layStreet_35 rfl (lv_at hl 1 rfl) ?_
  refine S_iald hx hb hK hW kd_94 (vin ((by first | exact ha_p0.1 | omega)) ((by first | exact ok_175 ha_p0.2 | omega))) dX12_layStreet_36 (fun y_10 ey_10 => ?_)
  have ty_10 : 0 ≤ y_10.toInt ∧ y_10.toInt ≤ 60 := bv_94 hB_G_9 ey_10
  have u_11 : y_10.toInt = (G.1 94 p0.toNatClampNeg).toInt := congrArg Int32.toInt (ey_10.trans (((gp_ne eG_9 (fun q => absurd q.1 (Nat.ne_of_beq_eq_false rfl))).trans ((gp_ne eG_6 (fun q => absurd q.1 (Nat.ne_of_beq_eq_false rfl))).trans (gp_ne eG_3 (fun q => absurd q.1 (Nat.ne_of_beq_eq_false rfl)))))))
  refine S_putI (ty := .int) (C := RX12) (T := TX12) (N := 89) hx hb hg iX12 tyX12 tyX12_ok nmX12 hown hK hW hS kd_66 rfl 62 (lt_b rfl) (hg (Cond.fieldLink RX12 478 "SlabWalkModel" "most" "I") m1376) (fun _ h9 => h9) rfl (by decide +kernel) rfl rfl rfl dX12_layStreet_37 (fun G_12 H locs eG_12 hW hS => ?_)
  have hB_G_12 : Bd G_12 := hB_G_9.put (V := y_10.toInt) (lo := 0) (hi := 60) eG_12 rfl rfl rfl ((by first | exact ty_10.1 | omega)) ((by first | exact ty_10.2 | omega)) (hB_G_9.2.put eG_12 rfl)
  have hF := hF.put eG_12 (Or.inr (by decide))
  refine lv_aload_n hx hb dX12_layStreet_40 rfl (lv_at hl 0 rfl) ?_
  refine lv_aload_n hx hb dX12_layStreet_41 rfl (lv_at hl 0 rfl) ?_
  refine S_getR (n := 95) (C := RX12) (T := TX12) (N := 89) hx hb hg iX12 hown hK hW kd_66 rfl 43 (lt_b rfl) (hg (Cond.fieldLink RX12 99 "SlabWalkModel" "leaps" "[I") m1357) (fun _ h9 => h9) rfl dX12_layStreet_42 ?_
  refine lv_iload_n hx hb dX12_layStreet_45 rfl (lv_at hl 1 rfl) ?_
  refine S_iald hx hb hK hW kd_95 (vin ((by first | exact ha_p0.1 | omega)) ((by first | exact ok_175 ha_p0.2 | omega))) dX12_layStreet_46 (fun y_13 ey_13 => ?_)
  have ty_13 : 0 ≤ y_13.toInt ∧ y_13.toInt ≤ 99 := bv_95 hB_G_12 ey_13
  have u_14 : y_13.toInt = (G.1 95 p0.toNatClampNeg).toInt := congrArg Int32.toInt (ey_13.trans (((gp_ne eG_12 (fun q => absurd q.1 (Nat.ne_of_beq_eq_false rfl))).trans ((gp_ne eG_9 (fun q => absurd q.1 (Nat.ne_of_beq_eq_false rfl))).trans ((gp_ne eG_6 (fun q => absurd q.1 (Nat.ne_of_beq_eq_false rfl))).trans (gp_ne eG_3 (fun q => absurd q.1 (Nat.ne_of_beq_eq_false rfl))))))))
  refine S_putI (ty := .int) (C := RX12) (T := TX12) (N := 89) hx hb hg iX12 tyX12 tyX12_ok nmX12 hown hK hW hS kd_66 rfl 63 (lt_b rfl) (hg (Cond.fieldLink RX12 481 "SlabWalkModel" "leap" "I") m1377) (fun _ h9 => h9) rfl (by decide +kernel) rfl rfl rfl dX12_layStreet_47 (fun G_15 H locs eG_15 hW hS => ?_)
  have hB_G_15 : Bd G_15 := hB_G_12.put (V := y_13.toInt) (lo := 0) (hi := 99) eG_15 rfl rfl rfl ((by first | exact ty_13.1 | omega)) ((by first | exact ty_13.2 | omega)) (hB_G_12.2.put eG_15 rfl)
  have hF := hF.put eG_15 (Or.inr (by decide))
  refine ic_0 hx hb dX12_layStreet_50 ?_
  refine lv_istore (lv' := [(4, .int 0), (0, .ref (a 66)), (1, .int p0), (2, .int p1), (3, .int p2)]) hx hb dX12_layStreet_51 hl (lt_b rfl) rfl (fun ls hl => ?_)
  have qc_22 : (0 : Int32).toInt = 0 := rfl
  refine loop_N (Inv := fun n H locs ls => ∃ (G_16 : GS) (x_20 : Int32), (n : Int) = 400 - x_20.toInt ∧ (0 ≤ x_20.toInt ∧ x_20.toInt ≤ 400) ∧ Rc (St_n_layStreet_1 p1 p2 y_1) (0, G_15) (x_20, G_16) ∧ Wd D k A a G_16 H ∧ Bd G_16 ∧ Fr [76, 97, 98] [(66, 59), (66, 60), (66, 61), (66, 62), (66, 63)] G G_16 ∧ Fr [76, 97] [] G_15 G_16 ∧ va_S A s.heap H locs ∧ lv_has ls 6 [(4, .int x_20), (0, .ref (a 66)), (2, .int p1), (3, .int p2)]) (fun n_19 H locs ls ih_18 hI => ?_) (400 - 0 : Int).toNat ⟨G_15, 0, (Int.toNat_of_nonneg ((by decide))), ⟨(by decide), (by decide)⟩, Rc.rf, hW, hB_G_15, hF, Fr.rf, hS, lv_sub hl [0, 1, 3, 4] rfl⟩
  obtain ⟨G_16, x_20, hn_24, f_23, hX_21, hW, hB_G_16, hF, hq_17, hS, hl⟩ := hI
  refine lv_iload hx hb dX12_layStreet_53 (lv_at hl 0 rfl) ?_
  refine lv_aload_n hx hb dX12_layStreet_55 rfl (lv_at hl 1 rfl) ?_
  refine S_getI (v := y_1) (C := RX12) (T := TX12) (N := 89) hx hb hg iX12 hown hK hW kd_66 rfl 59 (lt_b rfl) (hg (Cond.fieldLink RX12 469 "SlabWalkModel" "inchesOf" "I") m1373) (fun _ h9 => h9) rfl ((hq_17.i9 66 59 rfl rfl).trans ((gp_ne eG_15 (by decide)).trans ((gp_ne eG_12 (by decide)).trans ((gp_ne eG_9 (by decide)).trans ((gp_ne eG_6 (by decide)).trans (gp_eq eG_3)))))) dX12_layStreet_56 ?_
  refine lv_icmp_ge (tgt := 83) hx hb dX12_layStreet_59 rfl (fun c_25 => ?_) (fun c_25 => ?_)
  · have c_25 : y_1.toInt ≤ x_20.toInt := xI_le rfl rfl c_25
    refine ic_0 hx hb dX12_layStreet_83 ?_
    refine lv_istore (lv' := [(4, .int 0), (0, .ref (a 66)), (2, .int p1), (3, .int p2)]) hx hb dX12_layStreet_84 hl (lt_b rfl) rfl (fun ls hl => ?_)
    have g_32 : (G_16.1 66 60).toInt = y_4.toInt := (congrArg Int32.toInt (show G_16.1 66 60 = y_4 from ((hq_17.i9 66 60 rfl rfl).trans ((gp_ne eG_15 (by decide)).trans ((gp_ne eG_12 (by decide)).trans ((gp_ne eG_9 (by decide)).trans (gp_eq eG_6)))))))
    have b_33 : 0 ≤ (G.1 98 400).toInt ∧ (G.1 98 400).toInt ≤ 1 := bd_98_400 hB_G
    have g_34 : (G_16.1 98 400).toInt = (G.1 98 400).toInt := (congrArg Int32.toInt (show G_16.1 98 400 = (G.1 98 400) from ((hq_17.i9 98 400 rfl rfl).trans ((gp_ne eG_15 (by decide)).trans ((gp_ne eG_12 (by decide)).trans ((gp_ne eG_9 (by decide)).trans ((gp_ne eG_6 (by decide)).trans (gp_ne eG_3 (by decide)))))))))
    have qc_35 : (0 : Int32).toInt = 0 := rfl
    refine loop_N (Inv := fun n H locs ls => ∃ (G_26 : GS) (x_30 : Int32), (n : Int) = 512 - x_30.toInt ∧ (0 ≤ x_30.toInt ∧ x_30.toInt ≤ 512) ∧ (x_30.toInt ≤ 400 ∨ (G_26.1 66 60).toInt = 0 ∨ (G_26.1 98 400).toInt = 0) ∧ Rc (St_n_layStreet_2 y_4) (0, G_16) (x_30, G_26) ∧ Wd D k A a G_26 H ∧ Bd G_26 ∧ Fr [76, 97, 98] [(66, 59), (66, 60), (66, 61), (66, 62), (66, 63)] G G_26 ∧ Fr [98] [] G_16 G_26 ∧ va_S A s.heap H locs ∧ lv_has ls 6 [(4, .int x_30), (0, .ref (a 66))]) (fun n_29 H locs ls ih_28 hI => ?_) (512 - 0 : Int).toNat ⟨G_16, 0, (Int.toNat_of_nonneg ((by decide))), ⟨(by decide), (by decide)⟩, ((by first | exact ok_1077 | omega)), Rc.rf, hW, hB_G_16, hF, Fr.rf, hS, lv_sub hl [0, 1] rfl⟩
    obtain ⟨G_26, x_30, hn_38, f_36, f_37, hX_31, hW, hB_G_26, hF, hq_27, hS, hl⟩ := hI
    have g_39 : (G_26.1 66 60).toInt = y_4.toInt := (congrArg Int32.toInt (show G_26.1 66 60 = y_4 from ((hq_27.i9 66 60 rfl rfl).trans ((hq_17.i9 66 60 rfl rfl).trans ((gp_ne eG_15 (by decide)).trans ((gp_ne eG_12 (by decide)).trans ((gp_ne eG_9 (by decide)).trans (gp_eq eG_6))))))))
    have b_40 : 0 ≤ (G_26.1 98 400).toInt ∧ (G_26.1 98 400).toInt ≤ 1 := bd_98_400 hB_G_26
    refine lv_iload hx hb dX12_layStreet_86 (lv_at hl 0 rfl) ?_
    refine lv_sipush (v := 512) hx hb dX12_layStreet_88 (by decide) ?_
    refine lv_icmp_ge (tgt := 167) hx hb dX12_layStreet_91 rfl (fun c_41 => ?_) (fun c_41 => ?_)
    · have c_41 : 512 ≤ x_30.toInt := xI_le rfl rfl c_41
      have g_42 : (G_26.1 66 59).toInt = y_1.toInt := (congrArg Int32.toInt (show G_26.1 66 59 = y_1 from ((hq_27.i9 66 59 rfl rfl).trans ((hq_17.i9 66 59 rfl rfl).trans ((gp_ne eG_15 (by decide)).trans ((gp_ne eG_12 (by decide)).trans ((gp_ne eG_9 (by decide)).trans ((gp_ne eG_6 (by decide)).trans (gp_eq eG_3)))))))))
      have g_43 : (G_26.1 66 60).toInt = y_4.toInt := (congrArg Int32.toInt (show G_26.1 66 60 = y_4 from ((hq_27.i9 66 60 rfl rfl).trans ((hq_17.i9 66 60 rfl rfl).trans ((gp_ne eG_15 (by decide)).trans ((gp_ne eG_12 (by decide)).trans ((gp_ne eG_9 (by decide)).trans (gp_eq eG_6))))))))
      have g_44 : (G_26.1 66 61).toInt = y_7.toInt := (congrArg Int32.toInt (show G_26.1 66 61 = y_7 from ((hq_27.i9 66 61 rfl rfl).trans ((hq_17.i9 66 61 rfl rfl).trans ((gp_ne eG_15 (by decide)).trans ((gp_ne eG_12 (by decide)).trans (gp_eq eG_9)))))))
      have g_45 : (G_26.1 66 62).toInt = y_10.toInt := (congrArg Int32.toInt (show G_26.1 66 62 = y_10 from ((hq_27.i9 66 62 rfl rfl).trans ((hq_17.i9 66 62 rfl rfl).trans ((gp_ne eG_15 (by decide)).trans (gp_eq eG_12))))))
      have g_46 : (G_26.1 66 63).toInt = y_13.toInt := (congrArg Int32.toInt (show G_26.1 66 63 = y_13 from ((hq_27.i9 66 63 rfl rfl).trans ((hq_17.i9 66 63 rfl rfl).trans (gp_eq eG_15)))))
      exact W.vret hx hb hr (fun t ht _ => ⟨⟨G_26, rfl, (Q_layStreet_mk ⟨hB_G_26, hF, ((by first | exact ⟨(by first | exact ok_800 u_2 g_42 | omega), ⟨(by first | exact ok_800 u_5 g_39 | omega), ⟨(by first | exact ok_800 u_8 g_44 | omega), ⟨(by first | exact ok_800 u_11 g_45 | omega), ⟨(by first | exact ok_800 u_14 g_46 | omega), (fun h9 => ((by first | (clear ha_p1 hP9 ty_1 u_2 hn_24 f_23 c_25 b_33 g_34 hn_38 g_42; omega) | omega)))⟩⟩⟩⟩⟩ | omega)), ⟨y_1, ey_1, ⟨y_4, ey_4.trans (congrFun (rw_put eG_3 (by decide)) _), ⟨y_7, ey_7.trans (congrFun ((rw_put eG_6 (by decide)).trans (rw_put eG_3 (by decide))) _), ⟨y_10, ey_10.trans (congrFun ((rw_put eG_9 (by decide)).trans ((rw_put eG_6 (by decide)).trans (rw_put eG_3 (by decide)))) _), ⟨y_13, ey_13.trans (congrFun ((rw_put eG_12 (by decide)).trans ((rw_put eG_9 (by decide)).trans ((rw_put eG_6 (by decide)).trans (rw_put eG_3 (by decide))))) _), ⟨G_15, hB_G_15, (Fr.put (rs := []) (fs := [(66, 59), (66, 60), (66, 61), (66, 62), (66, 63)]) (Fr.put (rs := []) (fs := [(66, 59), (66, 60), (66, 61), (66, 62), (66, 63)]) (Fr.put (rs := []) (fs := [(66, 59), (66, 60), (66, 61), (66, 62), (66, 63)]) (Fr.put (rs := []) (fs := [(66, 59), (66, 60), (66, 61), (66, 62), (66, 63)]) (Fr.put (rs := []) (fs := [(66, 59), (66, 60), (66, 61), (66, 62), (66, 63)]) Fr.rf eG_3 (Or.inr (by decide))) eG_6 (Or.inr (by decide))) eG_9 (Or.inr (by decide))) eG_12 (Or.inr (by decide))) eG_15 (Or.inr (by decide))), ((gp_ne eG_15 (by decide)).trans ((gp_ne eG_12 (by decide)).trans ((gp_ne eG_9 (by decide)).trans ((gp_ne eG_6 (by decide)).trans (gp_eq eG_3))))), ((gp_ne eG_15 (by decide)).trans ((gp_ne eG_12 (by decide)).trans ((gp_ne eG_9 (by decide)).trans (gp_eq eG_6)))), ((gp_ne eG_15 (by decide)).trans ((gp_ne eG_12 (by decide)).trans (gp_eq eG_9))), ((gp_ne eG_15 (by decide)).trans (gp_eq eG_12)), (gp_eq eG_15), ⟨x_20, G_16, hX_21, f_23, hB_G_16, hq_17, ⟨c_25, ⟨x_30, G_26, hX_31, f_36, f_37, hB_G_26, hq_27, ⟨c_41, rfl⟩⟩⟩⟩⟩⟩⟩⟩⟩⟩⟩), wd_t ht hW⟩, hS.F ht⟩) hS.2.2 dX12_layStreet_167
    · have c_41 : x_30.toInt < 512 := xI_nle rfl rfl c_41
      refine lv_aload_n hx hb dX12_layStreet_94 rfl (lv_at hl 1 rfl) ?_
      refine S_getR (n := 98) (C := RX12) (T := TX12) (N := 89) hx hb hg iX12 hown hK hW kd_66 rfl 58 (lt_b rfl) (hg (Cond.fieldLink RX12 115 "SlabWalkModel" "lawful" "[Z") m1372) (fun _ h9 => h9) rfl dX12_layStreet_95 ?_
      refine lv_iload hx hb dX12_layStreet_98 (lv_at hl 0 rfl) ?_
      refine lv_aload_n hx hb dX12_layStreet_100 rfl (lv_at hl 1 rfl) ?_
      refine lv_iload hx hb dX12_layStreet_101 (lv_at hl 0 rfl) ?_
      have g_47 : (G_26.1 66 59).toInt = y_1.toInt := (congrArg Int32.toInt (show G_26.1 66 59 = y_1 from ((hq_27.i9 66 59 rfl rfl).trans ((hq_17.i9 66 59 rfl rfl).trans ((gp_ne eG_15 (by decide)).trans ((gp_ne eG_12 (by decide)).trans ((gp_ne eG_9 (by decide)).trans ((gp_ne eG_6 (by decide)).trans (gp_eq eG_3)))))))))
      have g_48 : (G_26.1 66 60).toInt = y_4.toInt := (congrArg Int32.toInt (show G_26.1 66 60 = y_4 from ((hq_27.i9 66 60 rfl rfl).trans ((hq_17.i9 66 60 rfl rfl).trans ((gp_ne eG_15 (by decide)).trans ((gp_ne eG_12 (by decide)).trans ((gp_ne eG_9 (by decide)).trans (gp_eq eG_6))))))))
      refine S_calli (va_runV (As := [.int x_30]) (rest := [.int x_30, .ref (a 98)]) ⟨hx, hb, hml, hown, hts⟩ (n_stands1 l D k A a z G_26 x_30 ) (cwV 1 hts (gd_V hgd m1838 m1840 m92 m131 m1841) rfl rfl rfl hd_X12_doesStand ⟨Nat.le_of_ble_eq_true rfl, Nat.le_of_ble_eq_true rfl⟩) (pre_W hW hB_G_26 hK hZ hS kd_66 rfl) rfl rfl hl.1 rfl (lv_room (Nat.le_of_ble_eq_true rfl)) dX12_layStreet_103 ⟨Nat.le_of_ble_eq_true rfl, Nat.le_of_ble_eq_true rfl⟩) hS (fun r_49 G_50 H locs hpo hW hS => ?_)
      have hX_53 : Q_stands1 x_30 G_26 r_49 G_50 := hpo
      obtain ⟨hB_G_50, hq_51, f_54, ⟨d_1, d_2⟩, -⟩ := hpo
      have hF := hF.call9 hq_51 rfl rfl
      have g_55 : (G_50.1 98 400).toInt = (G_26.1 98 400).toInt := (congrArg Int32.toInt (show G_50.1 98 400 = (G_26.1 98 400) from ((hq_51.i9 98 400 rfl rfl).trans (rfl))))
      refine S_zast hx hb hK hW hS kd_98 (vin ((by first | exact f_36.1 | omega)) ((by first | exact ok_1078 f_36.2 c_41 | omega))) dX12_layStreet_106 (fun G_56 H locs eG_56 hW hS => ?_)
      have hB_G_56 : Bd G_56 := hB_G_50.putLaw eG_56 (by first | (clear hP9 hn_24 f_23 b_33 g_34 hn_38; omega) | omega) (by first | (clear hP9 hn_24 f_23 b_33 g_34 hn_38; omega) | omega)
      have hF := hF.put eG_56 (Or.inl (by decide))
      have u_57 := st400 eG_56 (by first | (clear hP9 hn_24 f_23 b_33 g_34 hn_38; omega) | omega)
      have u_58 := nar_at eG_56 (by first | (clear hP9 hn_24 f_23 b_33 g_34 hn_38 u_57; omega) | omega) (by first | (clear hP9 hn_24 f_23 b_33 g_34 hn_38 u_57; omega) | omega)
      refine lv_iload hx hb dX12_layStreet_107 (lv_at hl 0 rfl) ?_
      refine lv_istore (lv' := [(5, .int x_30), (4, .int x_30), (0, .ref (a 66))]) hx hb dX12_layStreet_109 hl (lt_b rfl) rfl (fun ls hl => ?_)
      have g_65 : (G_56.1 66 59).toInt = y_1.toInt := (congrArg Int32.toInt (show G_56.1 66 59 = y_1 from ((gp_ne eG_56 (fun q => absurd q.1 (Nat.ne_of_beq_eq_false rfl))).trans ((hq_51.i9 66 59 rfl rfl).trans ((hq_27.i9 66 59 rfl rfl).trans ((hq_17.i9 66 59 rfl rfl).trans ((gp_ne eG_15 (by decide)).trans ((gp_ne eG_12 (by decide)).trans ((gp_ne eG_9 (by decide)).trans ((gp_ne eG_6 (by decide)).trans (gp_eq eG_3)))))))))))
      have g_66 : (G_56.1 66 60).toInt = y_4.toInt := (congrArg Int32.toInt (show G_56.1 66 60 = y_4 from ((gp_ne eG_56 (fun q => absurd q.1 (Nat.ne_of_beq_eq_false rfl))).trans ((hq_51.i9 66 60 rfl rfl).trans ((hq_27.i9 66 60 rfl rfl).trans ((hq_17.i9 66 60 rfl rfl).trans ((gp_ne eG_15 (by decide)).trans ((gp_ne eG_12 (by decide)).trans ((gp_ne eG_9 (by decide)).trans (gp_eq eG_6))))))))))
      have g_67 : (G_56.1 66 60).toInt = y_4.toInt := (congrArg Int32.toInt (show G_56.1 66 60 = y_4 from ((gp_ne eG_56 (fun q => absurd q.1 (Nat.ne_of_beq_eq_false rfl))).trans ((hq_51.i9 66 60 rfl rfl).trans ((hq_27.i9 66 60 rfl rfl).trans ((hq_17.i9 66 60 rfl rfl).trans ((gp_ne eG_15 (by decide)).trans ((gp_ne eG_12 (by decide)).trans ((gp_ne eG_9 (by decide)).trans (gp_eq eG_6))))))))))
      have b_68 : 0 ≤ (G_56.1 98 400).toInt ∧ (G_56.1 98 400).toInt ≤ 1 := bd_98_400 hB_G_56
      refine loop_N (Inv := fun n H locs ls => ∃ (G_59 : GS) (x_63 : Int32), (n : Int) = 523 - x_63.toInt ∧ (0 ≤ x_63.toInt ∧ x_63.toInt ≤ 523) ∧ (x_30.toInt + (G_59.1 66 60).toInt ≤ (G_59.1 66 59).toInt ∨ (G_59.1 98 x_30.toNatClampNeg).toInt = 0) ∧ (x_30.toInt ≤ x_63.toInt) ∧ (x_30.toInt ≤ 399 ∨ (G_59.1 66 60).toInt = 0 ∨ (G_59.1 98 400).toInt = 0) ∧ Rc (St_n_layStreet_3 y_4 x_30) (x_30, G_56) (x_63, G_59) ∧ Wd D k A a G_59 H ∧ Bd G_59 ∧ Fr [76, 97, 98] [(66, 59), (66, 60), (66, 61), (66, 62), (66, 63)] G G_59 ∧ Fr [98] [] G_56 G_59 ∧ va_S A s.heap H locs ∧ lv_has ls 6 [(5, .int x_63), (4, .int x_30), (0, .ref (a 66))]) (fun n_62 H locs ls ih_61 hI => ?_) (523 - x_30.toInt : Int).toNat ⟨G_56, x_30, (Int.toNat_of_nonneg ((by first | exact ok_1079 f_36.2 | omega))), ⟨(by first | exact f_36.1 | omega), (by first | exact ok_1080 f_36.2 | omega)⟩, ((by first | (clear hP9 hn_24 b_33 g_34 hn_38 b_68; omega) | omega)), ((by first | exact ok_572 | omega)), ((by first | (clear hP9 hn_24 f_23 b_33 g_34 hn_38; omega) | omega)), Rc.rf, hW, hB_G_56, hF, Fr.rf, hS, lv_sub hl [0, 1, 2] rfl⟩
      obtain ⟨G_59, x_63, hn_73, f_69, f_70, f_71, f_72, hX_64, hW, hB_G_59, hF, hq_60, hS, hl⟩ := hI
      have g_74 : (G_59.1 66 59).toInt = y_1.toInt := (congrArg Int32.toInt (show G_59.1 66 59 = y_1 from ((hq_60.i9 66 59 rfl rfl).trans ((gp_ne eG_56 (fun q => absurd q.1 (Nat.ne_of_beq_eq_false rfl))).trans ((hq_51.i9 66 59 rfl rfl).trans ((hq_27.i9 66 59 rfl rfl).trans ((hq_17.i9 66 59 rfl rfl).trans ((gp_ne eG_15 (by decide)).trans ((gp_ne eG_12 (by decide)).trans ((gp_ne eG_9 (by decide)).trans ((gp_ne eG_6 (by decide)).trans (gp_eq eG_3))))))))))))
      have g_75 : (G_59.1 66 60).toInt = y_4.toInt := (congrArg Int32.toInt (show G_59.1 66 60 = y_4 from ((hq_60.i9 66 60 rfl rfl).trans ((gp_ne eG_56 (fun q => absurd q.1 (Nat.ne_of_beq_eq_false rfl))).trans ((hq_51.i9 66 60 rfl rfl).trans ((hq_27.i9 66 60 rfl rfl).trans ((hq_17.i9 66 60 rfl rfl).trans ((gp_ne eG_15 (by decide)).trans ((gp_ne eG_12 (by decide)).trans ((gp_ne eG_9 (by decide)).trans (gp_eq eG_6)))))))))))
      have g_76 : (G_59.1 66 60).toInt = y_4.toInt := (congrArg Int32.toInt (show G_59.1 66 60 = y_4 from ((hq_60.i9 66 60 rfl rfl).trans ((gp_ne eG_56 (fun q => absurd q.1 (Nat.ne_of_beq_eq_false rfl))).trans ((hq_51.i9 66 60 rfl rfl).trans ((hq_27.i9 66 60 rfl rfl).trans ((hq_17.i9 66 60 rfl rfl).trans ((gp_ne eG_15 (by decide)).trans ((gp_ne eG_12 (by decide)).trans ((gp_ne eG_9 (by decide)).trans (gp_eq eG_6)))))))))))
      have b_77 : 0 ≤ (G_59.1 98 400).toInt ∧ (G_59.1 98 400).toInt ≤ 1 := bd_98_400 hB_G_59
      refine lv_iload hx hb dX12_layStreet_111 (lv_at hl 0 rfl) ?_
      refine lv_iload hx hb dX12_layStreet_113 (lv_at hl 1 rfl) ?_
      refine lv_aload_n hx hb dX12_layStreet_115 rfl (lv_at hl 2 rfl) ?_
      refine S_getI (v := y_4) (C := RX12) (T := TX12) (N := 89) hx hb hg iX12 hown hK hW kd_66 rfl 60 (lt_b rfl) (hg (Cond.fieldLink RX12 472 "SlabWalkModel" "foot" "I") m1374) (fun _ h9 => h9) rfl ((hq_60.i9 66 60 rfl rfl).trans ((gp_ne eG_56 (fun q => absurd q.1 (Nat.ne_of_beq_eq_false rfl))).trans ((hq_51.i9 66 60 rfl rfl).trans ((hq_27.i9 66 60 rfl rfl).trans ((hq_17.i9 66 60 rfl rfl).trans ((gp_ne eG_15 (by decide)).trans ((gp_ne eG_12 (by decide)).trans ((gp_ne eG_9 (by decide)).trans (gp_eq eG_6))))))))) dX12_layStreet_116 ?_
      refine lv_iadd hx hb dX12_layStreet_119 ?_
      refine lv_topi (fun y_78 ey_78 => ?_)
      have ty_78 : y_78.toInt = x_30.toInt + y_4.toInt := xI_add rfl rfl ey_78 ((by first | exact ok_27 ty_4.1 f_36.1 | omega)) ((by first | exact ok_1081 ty_4.2 c_41 | omega))
      refine lv_icmp_ge (tgt := 161) hx hb dX12_layStreet_120 rfl (fun c_79 => ?_) (fun c_79 => ?_)
      · have c_79 : y_78.toInt ≤ x_63.toInt := xI_le rfl rfl c_79
        obtain ⟨y_80, ey_80⟩ : ∃ q, q = x_30 + 1 := ⟨_, rfl⟩
        have ty_80 : y_80.toInt = x_30.toInt + 1 := xI_add rfl rfl ey_80 ((by first | exact ok_21 f_36.1 | omega)) ((by first | exact ok_1082 c_41 | omega))
        refine lv_iinc (v := y_80) (lv' := [(4, .int y_80), (5, .int x_63), (0, .ref (a 66))]) hx hb dX12_layStreet_161 hl (k := 1) rfl (by rw [ey_80]; rfl) (lt_b rfl) rfl (fun ls hl => ?_)
        refine lv_goto (tgt := 86) hx hb dX12_layStreet_164 rfl ?_
        have g_81 : (G_59.1 66 60).toInt = y_4.toInt := (congrArg Int32.toInt (show G_59.1 66 60 = y_4 from ((hq_60.i9 66 60 rfl rfl).trans ((gp_ne eG_56 (fun q => absurd q.1 (Nat.ne_of_beq_eq_false rfl))).trans ((hq_51.i9 66 60 rfl rfl).trans ((hq_27.i9 66 60 rfl rfl).trans ((hq_17.i9 66 60 rfl rfl).trans ((gp_ne eG_15 (by decide)).trans ((gp_ne eG_12 (by decide)).trans ((gp_ne eG_9 (by decide)).trans (gp_eq eG_6)))))))))))
        exact ih_28 (512 - y_80.toInt : Int).toNat ((by first | (clear hP9 f_23 b_33 g_34 u_57 u_58 b_68; omega) | omega)) _ _ _ ⟨G_59, y_80, (Int.toNat_of_nonneg ((by first | exact ok_1083 c_41 ty_80 | omega))), ⟨(by first | exact ok_23 f_36.1 ty_80 | omega), (by first | exact ok_1084 c_41 ty_80 | omega)⟩, ((by first | exact ok_1085 f_72 b_77.1 ty_80 | omega)), (hX_31.st (St_n_layStreet_2_mk ⟨x_30, G_26, y_80, G_59, rfl, rfl, f_36, f_37, hB_G_26, ⟨c_41, ⟨r_49, G_50, hX_53, ⟨G_56, hB_G_56, (Fr.put (rs := [98]) (fs := []) Fr.rf eG_56 (Or.inl (by decide))), rw_ast eG_56, ⟨x_63, G_59, hX_64, f_69, f_70, f_71, f_72, hB_G_59, hq_60, ⟨y_78, ty_78, (Or.inl ⟨c_79, ⟨y_80, ty_80, ⟨rfl, rfl⟩⟩⟩)⟩⟩⟩⟩⟩⟩)), hW, hB_G_59, hF, (Fr.call9 (rs := [98]) (fs := []) (Fr.put (rs := [98]) (fs := []) (Fr.call9 (rs := [98]) (fs := []) (Fr.call9 (rs := [98]) (fs := []) Fr.rf hq_27 rfl rfl) hq_51 rfl rfl) eG_56 (Or.inl (by decide))) hq_60 rfl rfl), hS, lv_sub hl [0, 2] rfl⟩
      · have c_79 : x_63.toInt < y_78.toInt := xI_nle rfl rfl c_79
        refine lv_aload_n hx hb dX12_layStreet_123 rfl (lv_at hl 2 rfl) ?_
        refine S_getR (n := 98) (C := RX12) (T := TX12) (N := 89) hx hb hg iX12 hown hK hW kd_66 rfl 58 (lt_b rfl) (hg (Cond.fieldLink RX12 115 "SlabWalkModel" "lawful" "[Z") m1372) (fun _ h9 => h9) rfl dX12_layStreet_124 ?_
        refine lv_iload hx hb dX12_layStreet_127 (lv_at hl 1 rfl) ?_
        refine S_zald hx hb hK hW kd_98 (vin ((by first | exact f_36.1 | omega)) ((by first | exact ok_1078 f_36.2 c_41 | omega))) dX12_layStreet_129 (fun y_82 ey_82 => ?_)
        have ty_82 := hB_G_59.law ey_82
        have u_83 : y_82.toInt = (G_59.1 98 x_30.toNatClampNeg).toInt := congrArg Int32.toInt (ey_82)
        refine lv_if_eq (tgt := 161) hx hb dX12_layStreet_130 rfl (fun c_84 => ?_) (fun c_84 => ?_)
        · have c_84 : y_82.toInt = 0 := xI_eq rfl rfl c_84
          obtain ⟨y_85, ey_85⟩ : ∃ q, q = x_30 + 1 := ⟨_, rfl⟩
          have ty_85 : y_85.toInt = x_30.toInt + 1 := xI_add rfl rfl ey_85 ((by first | exact ok_21 f_36.1 | omega)) ((by first | exact ok_1086 f_36.2 | omega))
          refine lv_iinc (v := y_85) (lv' := [(4, .int y_85), (5, .int x_63), (0, .ref (a 66))]) hx hb dX12_layStreet_161 hl (k := 1) rfl (by rw [ey_85]; rfl) (lt_b rfl) rfl (fun ls hl => ?_)
          refine lv_goto (tgt := 86) hx hb dX12_layStreet_164 rfl ?_
          have g_86 : (G_59.1 66 60).toInt = y_4.toInt := (congrArg Int32.toInt (show G_59.1 66 60 = y_4 from ((hq_60.i9 66 60 rfl rfl).trans ((gp_ne eG_56 (fun q => absurd q.1 (Nat.ne_of_beq_eq_false rfl))).trans ((hq_51.i9 66 60 rfl rfl).trans ((hq_27.i9 66 60 rfl rfl).trans ((hq_17.i9 66 60 rfl rfl).trans ((gp_ne eG_15 (by decide)).trans ((gp_ne eG_12 (by decide)).trans ((gp_ne eG_9 (by decide)).trans (gp_eq eG_6)))))))))))
          exact ih_28 (512 - y_85.toInt : Int).toNat ((by first | (clear hP9 f_23 b_33 g_34 u_57 u_58 b_68; omega) | omega)) _ _ _ ⟨G_59, y_85, (Int.toNat_of_nonneg ((by first | exact ok_1087 f_36.2 c_41 ty_85 | omega))), ⟨(by first | exact ok_23 f_36.1 ty_85 | omega), (by first | exact ok_1088 f_36.2 c_41 ty_85 | omega)⟩, ((by first | exact ok_1089 f_36.2 c_41 f_71 f_72 g_75 b_77.1 ty_78 c_79 ty_85 | omega)), (hX_31.st (St_n_layStreet_2_mk ⟨x_30, G_26, y_85, G_59, rfl, rfl, f_36, f_37, hB_G_26, ⟨c_41, ⟨r_49, G_50, hX_53, ⟨G_56, hB_G_56, (Fr.put (rs := [98]) (fs := []) Fr.rf eG_56 (Or.inl (by decide))), rw_ast eG_56, ⟨x_63, G_59, hX_64, f_69, f_70, f_71, f_72, hB_G_59, hq_60, ⟨y_78, ty_78, (Or.inr ⟨c_79, ⟨y_82, ey_82, ⟨c_84, ⟨y_85, ty_85, ⟨rfl, rfl⟩⟩⟩⟩⟩)⟩⟩⟩⟩⟩⟩)), hW, hB_G_59, hF, (Fr.call9 (rs := [98]) (fs := []) (Fr.put (rs := [98]) (fs := []) (Fr.call9 (rs := [98]) (fs := []) (Fr.call9 (rs := [98]) (fs := []) Fr.rf hq_27 rfl rfl) hq_51 rfl rfl) eG_56 (Or.inl (by decide))) hq_60 rfl rfl), hS, lv_sub hl [0, 2] rfl⟩
        · have c_84 : y_82.toInt ≠ 0 := xI_ne rfl rfl c_84
          refine lv_aload_n hx hb dX12_layStreet_133 rfl (lv_at hl 2 rfl) ?_
          refine S_getR (n := 98) (C := RX12) (T := TX12) (N := 89) hx hb hg iX12 hown hK hW kd_66 rfl 58 (lt_b rfl) (hg (Cond.fieldLink RX12 115 "SlabWalkModel" "lawful" "[Z") m1372) (fun _ h9 => h9) rfl dX12_layStreet_134 ?_
          refine lv_iload hx hb dX12_layStreet_137 (lv_at hl 1 rfl) ?_
          refine lv_aload_n hx hb dX12_layStreet_139 rfl (lv_at hl 2 rfl) ?_
          refine S_getR (n := 97) (C := RX12) (T := TX12) (N := 89) hx hb hg iX12 hown hK hW kd_66 rfl 57 (lt_b rfl) (hg (Cond.fieldLink RX12 111 "SlabWalkModel" "lines" "[Z") m1371) (fun _ h9 => h9) rfl dX12_layStreet_140 ?_
          refine lv_iload hx hb dX12_layStreet_143 (lv_at hl 0 rfl) ?_
          refine S_zald hx hb hK hW kd_97 (vin ((by first | exact f_69.1 | omega)) ((by first | (clear ha_p1 hP9 ty_1 hn_24 f_23 c_25 b_33 g_34 hn_38 b_40 f_54 u_57 u_58 b_68 hn_73 b_77; omega) | omega))) dX12_layStreet_145 (fun y_87 ey_87 => ?_)
          have ty_87 : 0 ≤ y_87.toInt ∧ y_87.toInt ≤ 1 := bv_97 hB_G_59 ey_87
          have u_88 : y_87.toInt = (G_16.1 97 x_63.toNatClampNeg).toInt := congrArg Int32.toInt (ey_87.trans (((hq_60.ri9 97 rfl x_63.toNatClampNeg).trans ((gp_ne eG_56 (fun q => absurd q.1 (Nat.ne_of_beq_eq_false rfl))).trans ((hq_51.ri9 97 rfl x_63.toNatClampNeg).trans (hq_27.ri9 97 rfl x_63.toNatClampNeg))))))
          refine lv_if_ne (tgt := 153) hx hb dX12_layStreet_146 rfl (fun c_89 => ?_) (fun c_89 => ?_)
          · have c_89 : y_87.toInt ≠ 0 := xI_ne rfl rfl c_89
            refine ic_0 hx hb dX12_layStreet_153 ?_
            refine S_zast hx hb hK hW hS kd_98 (vin ((by first | exact f_36.1 | omega)) ((by first | exact ok_1078 f_36.2 c_41 | omega))) dX12_layStreet_154 (fun G_90 H locs eG_90 hW hS => ?_)
            have qc_91 : (0 : Int32).toInt = 0 := rfl
            have hB_G_90 : Bd G_90 := hB_G_59.putLaw eG_90 (by first | (clear hP9 hn_24 f_23 b_33 g_34 hn_38 u_57 u_58 b_68 hn_73; omega) | omega) (by first | (clear hP9 hn_24 f_23 b_33 g_34 hn_38 u_57 u_58 b_68 hn_73; omega) | omega)
            have hF := hF.put eG_90 (Or.inl (by decide))
            have u_92 := st400 eG_90 (by first | (clear hP9 hn_24 f_23 b_33 g_34 hn_38 u_57 u_58 b_68 hn_73; omega) | omega)
            obtain ⟨y_93, ey_93⟩ : ∃ q, q = x_63 + 1 := ⟨_, rfl⟩
            have ty_93 : y_93.toInt = x_63.toInt + 1 := xI_add rfl rfl ey_93 ((by first | exact ok_21 f_69.1 | omega)) ((by first | exact ok_1090 f_69.2 | omega))
            refine lv_iinc (v := y_93) (lv' := [(5, .int y_93), (4, .int x_30), (0, .ref (a 66))]) hx hb dX12_layStreet_155 hl (k := 0) rfl (by rw [ey_93]; rfl) (lt_b rfl) rfl (fun ls hl => ?_)
            refine lv_goto (tgt := 111) hx hb dX12_layStreet_158 rfl ?_
            have g_94 : (G_90.1 66 59).toInt = y_1.toInt := (congrArg Int32.toInt (show G_90.1 66 59 = y_1 from ((gp_ne eG_90 (fun q => absurd q.1 (Nat.ne_of_beq_eq_false rfl))).trans ((hq_60.i9 66 59 rfl rfl).trans ((gp_ne eG_56 (fun q => absurd q.1 (Nat.ne_of_beq_eq_false rfl))).trans ((hq_51.i9 66 59 rfl rfl).trans ((hq_27.i9 66 59 rfl rfl).trans ((hq_17.i9 66 59 rfl rfl).trans ((gp_ne eG_15 (by decide)).trans ((gp_ne eG_12 (by decide)).trans ((gp_ne eG_9 (by decide)).trans ((gp_ne eG_6 (by decide)).trans (gp_eq eG_3)))))))))))))
            have g_95 : (G_90.1 66 60).toInt = y_4.toInt := (congrArg Int32.toInt (show G_90.1 66 60 = y_4 from ((gp_ne eG_90 (fun q => absurd q.1 (Nat.ne_of_beq_eq_false rfl))).trans ((hq_60.i9 66 60 rfl rfl).trans ((gp_ne eG_56 (fun q => absurd q.1 (Nat.ne_of_beq_eq_false rfl))).trans ((hq_51.i9 66 60 rfl rfl).trans ((hq_27.i9 66 60 rfl rfl).trans ((hq_17.i9 66 60 rfl rfl).trans ((gp_ne eG_15 (by decide)).trans ((gp_ne eG_12 (by decide)).trans ((gp_ne eG_9 (by decide)).trans (gp_eq eG_6))))))))))))
            have g_96 : (G_90.1 66 60).toInt = y_4.toInt := (congrArg Int32.toInt (show G_90.1 66 60 = y_4 from ((gp_ne eG_90 (fun q => absurd q.1 (Nat.ne_of_beq_eq_false rfl))).trans ((hq_60.i9 66 60 rfl rfl).trans ((gp_ne eG_56 (fun q => absurd q.1 (Nat.ne_of_beq_eq_false rfl))).trans ((hq_51.i9 66 60 rfl rfl).trans ((hq_27.i9 66 60 rfl rfl).trans ((hq_17.i9 66 60 rfl rfl).trans ((gp_ne eG_15 (by decide)).trans ((gp_ne eG_12 (by decide)).trans ((gp_ne eG_9 (by decide)).trans (gp_eq eG_6))))))))))))
            have b_97 : 0 ≤ (G_90.1 98 400).toInt ∧ (G_90.1 98 400).toInt ≤ 1 := bd_98_400 hB_G_90
            exact ih_61 (523 - y_93.toInt : Int).toNat ((by first | (clear ha_p1 hP9 ty_1 hn_24 f_23 c_25 b_33 g_34 b_40 f_54 u_57 u_58 b_68 b_77 u_92 b_97; omega) | omega)) _ _ _ ⟨G_90, y_93, (Int.toNat_of_nonneg ((by first | exact ok_1091 ty_4.2 c_41 f_69.2 ty_78 c_79 ty_93 | omega))), ⟨(by first | exact ok_23 f_69.1 ty_93 | omega), (by first | exact ok_1092 ty_4.2 c_41 f_69.2 ty_78 c_79 ty_93 | omega)⟩, ((by first | (clear hP9 hn_24 b_33 g_34 hn_38 u_57 u_58 b_68 hn_73 b_97; omega) | omega)), ((by first | exact ok_1093 f_71 ty_93 | omega)), ((by first | (clear hP9 hn_24 f_23 b_33 g_34 hn_38 u_57 u_58 b_68 hn_73; omega) | omega)), (hX_64.st (St_n_layStreet_3_mk ⟨x_63, G_59, y_93, G_90, rfl, rfl, f_69, f_70, f_71, f_72, hB_G_59, ⟨y_78, ty_78, ⟨c_79, ⟨y_82, ey_82, ⟨c_84, ⟨y_87, ey_87, (Or.inr ⟨c_89, ⟨y_93, ty_93, ⟨rfl, (Fr.put (rs := [98]) (fs := []) Fr.rf eG_90 (Or.inl (by decide))), rw_ast eG_90⟩⟩⟩)⟩⟩⟩⟩⟩⟩)), hW, hB_G_90, hF, (Fr.put (rs := [98]) (fs := []) (Fr.call9 (rs := [98]) (fs := []) Fr.rf hq_60 rfl rfl) eG_90 (Or.inl (by decide))), hS, lv_sub hl [0, 1, 2] rfl⟩
          · have c_89 : y_87.toInt = 0 := xI_eq rfl rfl c_89
            refine ic_1 hx hb dX12_layStreet_149 ?_
            refine lv_goto (tgt := 154) hx hb dX12_layStreet_150 rfl ?_
            refine S_zast hx hb hK hW hS kd_98 (vin ((by first | exact f_36.1 | omega)) ((by first | exact ok_1078 f_36.2 c_41 | omega))) dX12_layStreet_154 (fun G_98 H locs eG_98 hW hS => ?_)
            have qc_99 : (1 : Int32).toInt = 1 := rfl
            have hB_G_98 : Bd G_98 := hB_G_59.putLaw eG_98 (by first | (clear hP9 hn_24 f_23 b_33 g_34 hn_38 u_57 u_58 b_68 hn_73; omega) | omega) (by first | (clear hP9 hn_24 f_23 b_33 g_34 hn_38 u_57 u_58 b_68 hn_73; omega) | omega)
            have hF := hF.put eG_98 (Or.inl (by decide))
            have u_100 := st400 eG_98 (by first | (clear hP9 hn_24 f_23 b_33 g_34 hn_38 u_57 u_58 b_68 hn_73; omega) | omega)
            obtain ⟨y_101, ey_101⟩ : ∃ q, q = x_63 + 1 := ⟨_, rfl⟩
            have ty_101 : y_101.toInt = x_63.toInt + 1 := xI_add rfl rfl ey_101 ((by first | exact ok_21 f_69.1 | omega)) ((by first | exact ok_1090 f_69.2 | omega))
            refine lv_iinc (v := y_101) (lv' := [(5, .int y_101), (4, .int x_30), (0, .ref (a 66))]) hx hb dX12_layStreet_155 hl (k := 0) rfl (by rw [ey_101]; rfl) (lt_b rfl) rfl (fun ls hl => ?_)
            refine lv_goto (tgt := 111) hx hb dX12_layStreet_158 rfl ?_
            have g_102 : (G_98.1 66 59).toInt = y_1.toInt := (congrArg Int32.toInt (show G_98.1 66 59 = y_1 from ((gp_ne eG_98 (fun q => absurd q.1 (Nat.ne_of_beq_eq_false rfl))).trans ((hq_60.i9 66 59 rfl rfl).trans ((gp_ne eG_56 (fun q => absurd q.1 (Nat.ne_of_beq_eq_false rfl))).trans ((hq_51.i9 66 59 rfl rfl).trans ((hq_27.i9 66 59 rfl rfl).trans ((hq_17.i9 66 59 rfl rfl).trans ((gp_ne eG_15 (by decide)).trans ((gp_ne eG_12 (by decide)).trans ((gp_ne eG_9 (by decide)).trans ((gp_ne eG_6 (by decide)).trans (gp_eq eG_3)))))))))))))
            have g_103 : (G_98.1 66 60).toInt = y_4.toInt := (congrArg Int32.toInt (show G_98.1 66 60 = y_4 from ((gp_ne eG_98 (fun q => absurd q.1 (Nat.ne_of_beq_eq_false rfl))).trans ((hq_60.i9 66 60 rfl rfl).trans ((gp_ne eG_56 (fun q => absurd q.1 (Nat.ne_of_beq_eq_false rfl))).trans ((hq_51.i9 66 60 rfl rfl).trans ((hq_27.i9 66 60 rfl rfl).trans ((hq_17.i9 66 60 rfl rfl).trans ((gp_ne eG_15 (by decide)).trans ((gp_ne eG_12 (by decide)).trans ((gp_ne eG_9 (by decide)).trans (gp_eq eG_6))))))))))))
            have g_104 : (G_98.1 66 60).toInt = y_4.toInt := (congrArg Int32.toInt (show G_98.1 66 60 = y_4 from ((gp_ne eG_98 (fun q => absurd q.1 (Nat.ne_of_beq_eq_false rfl))).trans ((hq_60.i9 66 60 rfl rfl).trans ((gp_ne eG_56 (fun q => absurd q.1 (Nat.ne_of_beq_eq_false rfl))).trans ((hq_51.i9 66 60 rfl rfl).trans ((hq_27.i9 66 60 rfl rfl).trans ((hq_17.i9 66 60 rfl rfl).trans ((gp_ne eG_15 (by decide)).trans ((gp_ne eG_12 (by decide)).trans ((gp_ne eG_9 (by decide)).trans (gp_eq eG_6))))))))))))
            have b_105 : 0 ≤ (G_98.1 98 400).toInt ∧ (G_98.1 98 400).toInt ≤ 1 := bd_98_400 hB_G_98
            exact ih_61 (523 - y_101.toInt : Int).toNat ((by first | (clear ha_p1 hP9 ty_1 hn_24 f_23 c_25 b_33 g_34 b_40 f_54 u_57 u_58 b_68 b_77 u_100 b_105; omega) | omega)) _ _ _ ⟨G_98, y_101, (Int.toNat_of_nonneg ((by first | exact ok_1091 ty_4.2 c_41 f_69.2 ty_78 c_79 ty_101 | omega))), ⟨(by first | exact ok_23 f_69.1 ty_101 | omega), (by first | exact ok_1092 ty_4.2 c_41 f_69.2 ty_78 c_79 ty_101 | omega)⟩, ((by first | (clear hP9 hn_24 b_33 g_34 hn_38 u_57 u_58 b_68 hn_73 b_105; omega) | omega)), ((by first | exact ok_1093 f_71 ty_101 | omega)), ((by first | (clear hP9 hn_24 f_23 b_33 g_34 hn_38 u_57 u_58 b_68 hn_73; omega) | omega)), (hX_64.st (St_n_layStreet_3_mk ⟨x_63, G_59, y_101, G_98, rfl, rfl, f_69, f_70, f_71, f_72, hB_G_59, ⟨y_78, ty_78, ⟨c_79, ⟨y_82, ey_82, ⟨c_84, ⟨y_87, ey_87, (Or.inl ⟨c_89, ⟨y_101, ty_101, ⟨rfl, (Fr.put (rs := [98]) (fs := []) Fr.rf eG_98 (Or.inl (by decide))), rw_ast eG_98⟩⟩⟩)⟩⟩⟩⟩⟩⟩)), hW, hB_G_98, hF, (Fr.put (rs := [98]) (fs := []) (Fr.call9 (rs := [98]) (fs := []) Fr.rf hq_60 rfl rfl) eG_98 (Or.inl (by decide))), hS, lv_sub hl [0, 1, 2] rfl⟩
  · have c_25 : x_20.toInt < y_1.toInt := xI_nle rfl rfl c_25
    refine lv_aload_n hx hb dX12_layStreet_62 rfl (lv_at hl 1 rfl) ?_
    refine S_getR (n := 97) (C := RX12) (T := TX12) (N := 89) hx hb hg iX12 hown hK hW kd_66 rfl 57 (lt_b rfl) (hg (Cond.fieldLink RX12 111 "SlabWalkModel" "lines" "[Z") m1371) (fun _ h9 => h9) rfl dX12_layStreet_63 ?_
    refine lv_iload hx hb dX12_layStreet_66 (lv_at hl 0 rfl) ?_
    refine lv_aload_n hx hb dX12_layStreet_68 rfl (lv_at hl 1 rfl) ?_
    refine lv_iload_n hx hb dX12_layStreet_69 rfl (lv_at hl 2 rfl) ?_
    refine lv_iload_n hx hb dX12_layStreet_70 rfl (lv_at hl 3 rfl) ?_
    refine lv_iload hx hb dX12_layStreet_71 (lv_at hl 0 rfl) ?_
    have fr_106 : Fr [76, 97] [(66, 59), (66, 60), (66, 61), (66, 62), (66, 63)] G G_16 := (Fr.call9 (rs := [76, 97]) (fs := [(66, 59), (66, 60), (66, 61), (66, 62), (66, 63)]) (Fr.put (rs := [76, 97]) (fs := [(66, 59), (66, 60), (66, 61), (66, 62), (66, 63)]) (Fr.put (rs := [76, 97]) (fs := [(66, 59), (66, 60), (66, 61), (66, 62), (66, 63)]) (Fr.put (rs := [76, 97]) (fs := [(66, 59), (66, 60), (66, 61), (66, 62), (66, 63)]) (Fr.put (rs := [76, 97]) (fs := [(66, 59), (66, 60), (66, 61), (66, 62), (66, 63)]) (Fr.put (rs := [76, 97]) (fs := [(66, 59), (66, 60), (66, 61), (66, 62), (66, 63)]) Fr.rf eG_3 (Or.inr (by decide))) eG_6 (Or.inr (by decide))) eG_9 (Or.inr (by decide))) eG_12 (Or.inr (by decide))) eG_15 (Or.inr (by decide))) hq_17 rfl rfl)
    have g_107 : gP G_16 = gP G := gP_fr fr_106 (gr_q rfl) (gf_q rfl)
    refine S_calli (va_runV (As := [.int p1, .int p2, .int x_20]) (rest := [.int x_20, .ref (a 97)]) ⟨hx, hb, hml, hown, hts⟩ (n_isLine l D k A a z G_16 p1 p2 x_20 ⟨(by first | exact ha_p1.1 | omega), (by first | exact ha_p1.2 | omega)⟩ ⟨(by first | exact f_23.1 | omega), (by first | exact ok_1094 ty_1.2 f_23.2 c_25 | omega)⟩ ((by first | exact ok_796 hP9 g_107 | omega))) (cwV 3 hts (gd_V hgd m1803 m1805 m86 m131 m1806) rfl rfl rfl hd_X12_isLine ⟨Nat.le_of_ble_eq_true rfl, Nat.le_of_ble_eq_true rfl⟩) (pre_W hW hB_G_16 hK hZ hS kd_66 rfl) rfl rfl hl.1 rfl (lv_room (Nat.le_of_ble_eq_true rfl)) dX12_layStreet_73 ⟨Nat.le_of_ble_eq_true rfl, Nat.le_of_ble_eq_true rfl⟩) hS (fun r_108 G_109 H locs hpo hW hS => ?_)
    have hX_112 : Q_isLine p1 p2 x_20 G_16 r_108 G_109 := hpo
    obtain ⟨hB_G_109, hq_110, f_113, -⟩ := hpo
    have hF := hF.call9 hq_110 rfl rfl
    refine S_zast hx hb hK hW hS kd_97 (vin ((by first | exact f_23.1 | omega)) ((by first | exact ok_1095 ty_1.2 f_23.2 c_25 | omega))) dX12_layStreet_76 (fun G_114 H locs eG_114 hW hS => ?_)
    have hB_G_114 : Bd G_114 := hB_G_109.put (lo := 0) (hi := 1) eG_114 rfl rfl rfl nz_bool.1 nz_bool.2 (hB_G_109.2.put eG_114 rfl)
    have hF := hF.put eG_114 (Or.inl (by decide))
    obtain ⟨y_115, ey_115⟩ : ∃ q, q = x_20 + 1 := ⟨_, rfl⟩
    have ty_115 : y_115.toInt = x_20.toInt + 1 := xI_add rfl rfl ey_115 ((by first | exact ok_21 f_23.1 | omega)) ((by first | exact ok_40 f_23.2 | omega))
    refine lv_iinc (v := y_115) (lv' := [(4, .int y_115), (0, .ref (a 66)), (2, .int p1), (3, .int p2)]) hx hb dX12_layStreet_77 hl (k := 0) rfl (by rw [ey_115]; rfl) (lt_b rfl) rfl (fun ls hl => ?_)
    refine lv_goto (tgt := 53) hx hb dX12_layStreet_80 rfl ?_
    exact ih_18 (400 - y_115.toInt : Int).toNat ((by first | (clear ha_p0 hP9 ty_4 u_5 ty_7 u_8 ty_10 u_11 ty_13 u_14 g_107 f_113; omega) | omega)) _ _ _ ⟨G_114, y_115, (Int.toNat_of_nonneg ((by first | exact ok_1096 ty_1.2 f_23.2 c_25 ty_115 | omega))), ⟨(by first | exact ok_23 f_23.1 ty_115 | omega), (by first | exact ok_1097 ty_1.2 f_23.2 c_25 ty_115 | omega)⟩, (hX_21.st (St_n_layStreet_1_mk ⟨x_20, G_16, y_115, G_114, rfl, rfl, f_23, hB_G_16, ⟨c_25, ⟨r_108, G_109, hX_112, ⟨y_115, ty_115, ⟨rfl, (Fr.put (rs := [97]) (fs := []) Fr.rf eG_114 (Or.inl (by decide))), rw_ast eG_114⟩⟩⟩⟩⟩)), hW, hB_G_114, hF, (Fr.put (rs := [76, 97]) (fs := []) (Fr.call9 (rs := [76, 97]) (fs := []) (Fr.call9 (rs := [76, 97]) (fs := []) Fr.rf hq_17 rfl rfl) hq_110 rfl rfl) eG_114 (Or.inl (by decide))), hS, lv_sub hl [0, 1, 2, 3] rfl⟩

set_option maxHeartbeats 4000000 in
set_option maxRecDepth 100000 in
theorem n_line (l : Launch) (D : va_G) (k : KT) (A : Nat → Prop) (a : Nat → Nat) (z : SK) (G : GS) (p0 : Int32) (p1 : Int32) (p2 : Int32) (hP9 : gP G = 1) : Met l yX12_line (WS yX12_line cX12_line 4 (some .int)) ({ frames := 4, cells := 0, slots := 0, locals := 92 }) (va_Pc [.ref (a 66), .int p0, .int p1, .int p2] (cW D k A a z G)) (va_Qi (fun (r : Int32) (G1 : GS) => Q_line p0 p1 p2 G r G1) (fun (G1 : GS) t => Wd D k A a G1 t.heap) A) 0 0 A := by
  refine Met.ofW (cc := cX12_line) (maxL := 4) (ret := (some .int)) (by decide) rfl ?_
  intro p e s m args below meth c s₁ B hml hv
  obtain ⟨rfl, hW, hB_G, hK, hZ⟩ := hv
  have hx := B.exec
  have hb := B.bytes
  have hr := B.returns
  have hts := atoms_spec (ws := WS yX12_line cX12_line 4 (some .int)) B.pre
  have hgd : ∀ w ∈ gd, w ∈ WS yX12_line cX12_line 4 (some .int) := fun w h => List.mem_cons_of_mem _ h
  have hg : ∀ w ∈ gd, w.before _ s = true := fun w h => hts w (hgd w h)
  have hown : s.vm.findClass RX12 = some m.cls := findClass_of_methodNamed B.named
  have hS : va_S A s.heap s.heap [] := va_S.rf
  have hF : Fr [76] [] G G := Fr.rf
  have hl := lv_entry ([.ref (a 66), .int p0, .int p1, .int p2]) (n := 4) (Nat.le_of_ble_eq_true rfl)
  rw [lg_entry_eq]
  generalize (lg_sl ([.ref (a 66), .int p0, .int p1, .int p2]) ++ List.replicate (4 - (lg_sl ([.ref (a 66), .int p0, .int p1, .int p2])).length) Slot.unset).toArray = ls at hl ⊢
  have hl : lv_has ls 4 [(0, .ref (a 66)), (1, .int p0), (2, .int p1), (3, .int p2)] := hl
  refine lv_aload_n hx hb dX12_line_0 rfl (lv_at hl 0 rfl) ?_
  refine lv_iload_n hx hb dX12_line_1 rfl (lv_at hl 1 rfl) ?_
  refine S_calli (va_runV (As := [.int p0]) (rest := []) ⟨hx, hb, hml, hown, hts⟩ (n_isStreet l D k A a z G p0 ) (cwV 1 hts (gd_V hgd m1777 m1779 m83 m131 m1780) rfl rfl rfl hd_X12_isStreet ⟨Nat.le_of_ble_eq_true rfl, Nat.le_of_ble_eq_true rfl⟩) (pre_W hW hB_G hK hZ hS kd_66 rfl) rfl rfl hl.1 rfl (lv_room (Nat.le_of_ble_eq_true rfl)) dX12_line_2 ⟨Nat.le_of_ble_eq_true rfl, Nat.le_of_ble_eq_true rfl⟩) hS (fun r_1 G_2 H locs hpo hW hS => ?_)
  have hX_5 : Q_isStreet p0 G r_1 G_2 := hpo
  obtain ⟨hB_G_2, hq_3, f_6, hp_4, -⟩ := hpo
  have hF := hF.call9 hq_3 rfl rfl
  refine lv_if_eq (tgt := 38) hx hb dX12_line_5 rfl (fun c_7 => ?_) (fun c_7 => ?_)
  · have c_7 : r_1.toInt = 0 := xI_eq rfl rfl c_7
    refine ic_m1 hx hb dX12_line_38 ?_
    exact W.iret (v := (-1)) hx hb hr (fun t ht _ => ⟨⟨(-1), G_2, rfl, (Q_line_mk ⟨hB_G_2, hF, ⟨r_1, G_2, hX_5, (Or.inl ⟨c_7, ⟨rfl, rfl⟩⟩)⟩⟩), wd_t ht hW⟩, hS.F ht⟩) hS.2.2 dX12_line_39
  · have c_7 : r_1.toInt ≠ 0 := xI_ne rfl rfl c_7
    refine lv_aload_n hx hb dX12_line_8 rfl (lv_at hl 0 rfl) ?_
    refine lv_iload_n hx hb dX12_line_9 rfl (lv_at hl 2 rfl) ?_
    refine S_calli (va_runV (As := [.int p1]) (rest := []) ⟨hx, hb, hml, hown, hts⟩ (n_areRules l D k A a z G_2 p1 ) (cwV 1 hts (gd_V hgd m1799 m1801 m85 m131 m1802) rfl rfl rfl hd_X12_areRules ⟨Nat.le_of_ble_eq_true rfl, Nat.le_of_ble_eq_true rfl⟩) (pre_W hW hB_G_2 hK hZ hS kd_66 rfl) rfl rfl hl.1 rfl (lv_room (Nat.le_of_ble_eq_true rfl)) dX12_line_10 ⟨Nat.le_of_ble_eq_true rfl, Nat.le_of_ble_eq_true rfl⟩) hS (fun r_8 G_9 H locs hpo hW hS => ?_)
    have hX_12 : Q_areRules p1 G_2 r_8 G_9 := hpo
    obtain ⟨hB_G_9, hq_10, f_13, hp_11, -⟩ := hpo
    have hF := hF.call9 hq_10 rfl rfl
    refine lv_if_eq (tgt := 38) hx hb dX12_line_13 rfl (fun c_14 => ?_) (fun c_14 => ?_)
    · have c_14 : r_8.toInt = 0 := xI_eq rfl rfl c_14
      refine ic_m1 hx hb dX12_line_38 ?_
      exact W.iret (v := (-1)) hx hb hr (fun t ht _ => ⟨⟨(-1), G_9, rfl, (Q_line_mk ⟨hB_G_9, hF, ⟨r_1, G_2, hX_5, (Or.inr ⟨c_7, ⟨r_8, G_9, hX_12, (Or.inl ⟨c_14, ⟨rfl, rfl⟩⟩)⟩⟩)⟩⟩), wd_t ht hW⟩, hS.F ht⟩) hS.2.2 dX12_line_39
    · have c_14 : r_8.toInt ≠ 0 := xI_ne rfl rfl c_14
      refine lv_aload_n hx hb dX12_line_16 rfl (lv_at hl 0 rfl) ?_
      refine lv_iload_n hx hb dX12_line_17 rfl (lv_at hl 1 rfl) ?_
      refine lv_iload_n hx hb dX12_line_18 rfl (lv_at hl 3 rfl) ?_
      refine S_calli (va_runV (As := [.int p0, .int p2]) (rest := []) ⟨hx, hb, hml, hown, hts⟩ (n_isInch l D k A a z G_9 p0 p2 ⟨(by first | exact ok_647 f_6.1 f_6.2 hp_4 c_7 | omega), (by first | exact ok_649 f_6.1 f_6.2 hp_4 c_7 | omega)⟩) (cwV 2 hts (gd_V hgd m1784 m1786 m84 m131 m1787) rfl rfl rfl hd_X12_isInch ⟨Nat.le_of_ble_eq_true rfl, Nat.le_of_ble_eq_true rfl⟩) (pre_W hW hB_G_9 hK hZ hS kd_66 rfl) rfl rfl hl.1 rfl (lv_room (Nat.le_of_ble_eq_true rfl)) dX12_line_19 ⟨Nat.le_of_ble_eq_true rfl, Nat.le_of_ble_eq_true rfl⟩) hS (fun r_15 G_16 H locs hpo hW hS => ?_)
      have hX_19 : Q_isInch p0 p2 G_9 r_15 G_16 := hpo
      obtain ⟨hB_G_16, hq_17, f_20, hp_18, -⟩ := hpo
      have hF := hF.call9 hq_17 rfl rfl
      refine lv_if_eq (tgt := 38) hx hb dX12_line_22 rfl (fun c_21 => ?_) (fun c_21 => ?_)
      · have c_21 : r_15.toInt = 0 := xI_eq rfl rfl c_21
        refine ic_m1 hx hb dX12_line_38 ?_
        exact W.iret (v := (-1)) hx hb hr (fun t ht _ => ⟨⟨(-1), G_16, rfl, (Q_line_mk ⟨hB_G_16, hF, ⟨r_1, G_2, hX_5, (Or.inr ⟨c_7, ⟨r_8, G_9, hX_12, (Or.inr ⟨c_14, ⟨r_15, G_16, hX_19, (Or.inl ⟨c_21, ⟨rfl, rfl⟩⟩)⟩⟩)⟩⟩)⟩⟩), wd_t ht hW⟩, hS.F ht⟩) hS.2.2 dX12_line_39
      · have c_21 : r_15.toInt ≠ 0 := xI_ne rfl rfl c_21
        refine lv_aload_n hx hb dX12_line_25 rfl (lv_at hl 0 rfl) ?_
        refine lv_iload_n hx hb dX12_line_26 rfl (lv_at hl 1 rfl) ?_
        refine lv_iload_n hx hb dX12_line_27 rfl (lv_at hl 2 rfl) ?_
        refine lv_iload_n hx hb dX12_line_28 rfl (lv_at hl 3 rfl) ?_
        have fr_22 : Fr [] [] G G_16 := (Fr.call9 (rs := []) (fs := []) (Fr.call9 (rs := []) (fs := []) (Fr.call9 (rs := []) (fs := []) Fr.rf hq_3 rfl rfl) hq_10 rfl rfl) hq_17 rfl rfl)
        have g_23 : gP G_16 = gP G := gP_fr fr_22 (gr_q rfl) (gf_q rfl)
        refine S_calli (va_runV (As := [.int p0, .int p1, .int p2]) (rest := []) ⟨hx, hb, hml, hown, hts⟩ (n_isLine l D k A a z G_16 p0 p1 p2 ⟨(by first | exact ok_647 f_6.1 f_6.2 hp_4 c_7 | omega), (by first | exact ok_649 f_6.1 f_6.2 hp_4 c_7 | omega)⟩ ⟨(by first | exact ok_1098 f_20.1 f_20.2 hp_18 c_21 | omega), (by first | exact ok_1099 f_20.1 f_20.2 hp_18 c_21 | omega)⟩ ((by first | exact ok_796 hP9 g_23 | omega))) (cwV 3 hts (gd_V hgd m1803 m1805 m86 m131 m1806) rfl rfl rfl hd_X12_isLine ⟨Nat.le_of_ble_eq_true rfl, Nat.le_of_ble_eq_true rfl⟩) (pre_W hW hB_G_16 hK hZ hS kd_66 rfl) rfl rfl hl.1 rfl (lv_room (Nat.le_of_ble_eq_true rfl)) dX12_line_29 ⟨Nat.le_of_ble_eq_true rfl, Nat.le_of_ble_eq_true rfl⟩) hS (fun r_24 G_25 H locs hpo hW hS => ?_)
        have hX_28 : Q_isLine p0 p1 p2 G_16 r_24 G_25 := hpo
        obtain ⟨hB_G_25, hq_26, f_29, -⟩ := hpo
        have hF := hF.call9 hq_26 rfl rfl
        refine S_calli (va_runS (As := [.int r_24]) (rest := []) ⟨hx, hb, hml, hown, hts⟩ (n_truth l D k A a z G_25 r_24 ⟨(by first | exact f_29.1 | omega), (by first | exact f_29.2 | omega)⟩) (va_cwS 1 hts (gd_S hgd m1788 m1789 m131 m1790) rfl rfl rfl hd_X12_truth.2 ⟨Nat.le_of_ble_eq_true rfl, Nat.le_of_ble_eq_true rfl⟩) (pre_S hW hB_G_25 hK hZ hS) rfl rfl hl.1 rfl (lv_room (Nat.le_of_ble_eq_true rfl)) dX12_line_32 ⟨Nat.le_of_ble_eq_true rfl, Nat.le_of_ble_eq_true rfl⟩) hS (fun r_30 G_31 H locs hpo hW hS => ?_)
        have hX_34 : Q_truth r_24 G_25 r_30 G_31 := hpo
        obtain ⟨hB_G_31, hq_32, f_35, hp_33, -⟩ := hpo
        have hF := hF.call9 hq_32 rfl rfl
        refine lv_goto (tgt := 39) hx hb dX12_line_35 rfl ?_
        exact W.iret (v := r_30) hx hb hr (fun t ht _ => ⟨⟨r_30, G_31, rfl, (Q_line_mk ⟨hB_G_31, hF, ⟨r_1, G_2, hX_5, (Or.inr ⟨c_7, ⟨r_8, G_9, hX_12, (Or.inr ⟨c_14, ⟨r_15, G_16, hX_19, (Or.inr ⟨c_21, ⟨r_24, G_25, hX_28, ⟨r_30, G_31, hX_34, ⟨rfl, rfl⟩⟩⟩⟩)⟩⟩)⟩⟩)⟩⟩), wd_t ht hW⟩, hS.F ht⟩) hS.2.2 dX12_line_39

theorem m89 : Cond.selects RX12 yX12_isAsked yX12_isAsked ∈ gd := gds_6 9 rfl
theorem m91 : Cond.selects RX12 yX12_layStreet yX12_layStreet ∈ gd := gds_6 11 rfl
theorem m1826 : Cond.methodLink RX12 490 yX12_isAsked ∈ gd := gdc_8_1 14 rfl gw_methodLink
theorem m1828 : Cond.instanceMethod yX12_isAsked ∈ gd := gdc_8_2 0 rfl gw_instanceMethod
theorem m1829 : Cond.code yX12_isAsked cX12_isAsked 4 (some .boolean) ∈ gd := gdc_8_2 1 rfl gw_code
theorem m1834 : Cond.methodLink RX12 493 yX12_layStreet ∈ gd := gdc_8_2 6 rfl gw_methodLink
theorem m1836 : Cond.instanceMethod yX12_layStreet ∈ gd := gdc_8_2 8 rfl gw_instanceMethod
theorem m1837 : Cond.code yX12_layStreet cX12_layStreet 6 none ∈ gd := gdc_8_2 9 rfl gw_code
noncomputable def rbX12_foot_0 : List (Nat × List Nat) := [(0, [42]), (1, [27]), (2, [28]), (3, [29]), (4, [182, 1, 234]), (7, [153, 0, 13]), (10, [42]), (11, [28]), (12, [21, 4]), (14, [182, 1, 200]), (17, [154, 0, 5]), (20, [2]), (21, [172]), (22, [42]), (23, [27]), (24, [28]), (25, [29]), (26, [182, 1, 237]), (29, [42]), (30, [180, 0, 115]), (33, [21, 4]), (35, [51]), (36, [184, 1, 92]), (39, [172])]
theorem rcX12_foot_0 : dgo (lb cX12_foot) 0 rbX12_foot_0 = true := by decide +kernel
theorem dX12_foot_0 : decode cX12_foot 0 = .ok (.aload_n 0, 1) := dk_42 (dw rcX12_foot_0 0 rfl)
theorem dX12_foot_1 : decode cX12_foot 1 = .ok (.iload_n 1, 1) := dk_27 (dw rcX12_foot_0 1 rfl)
theorem dX12_foot_2 : decode cX12_foot 2 = .ok (.iload_n 2, 1) := dk_28 (dw rcX12_foot_0 2 rfl)
theorem dX12_foot_3 : decode cX12_foot 3 = .ok (.iload_n 3, 1) := dk_29 (dw rcX12_foot_0 3 rfl)
theorem dX12_foot_4 : decode cX12_foot 4 = .ok (.invokevirtual 490, 3) := dk_182 (dw rcX12_foot_0 4 rfl) rfl
theorem dX12_foot_7 : decode cX12_foot 7 = .ok (.ifCond .eq 13, 3) := dk_153 (dw rcX12_foot_0 5 rfl) rfl
theorem dX12_foot_10 : decode cX12_foot 10 = .ok (.aload_n 0, 1) := dk_42 (dw rcX12_foot_0 6 rfl)
theorem dX12_foot_11 : decode cX12_foot 11 = .ok (.iload_n 2, 1) := dk_28 (dw rcX12_foot_0 7 rfl)
theorem dX12_foot_12 : decode cX12_foot 12 = .ok (.iload 4, 2) := dk_21 (dw rcX12_foot_0 8 rfl)
theorem dX12_foot_14 : decode cX12_foot 14 = .ok (.invokevirtual 456, 3) := dk_182 (dw rcX12_foot_0 9 rfl) rfl
theorem dX12_foot_17 : decode cX12_foot 17 = .ok (.ifCond .ne 5, 3) := dk_154 (dw rcX12_foot_0 10 rfl) rfl
theorem dX12_foot_20 : decode cX12_foot 20 = .ok (.iconst (-1), 1) := dk_2 (dw rcX12_foot_0 11 rfl)
theorem dX12_foot_21 : decode cX12_foot 21 = .ok (.ireturn, 1) := dk_172 (dw rcX12_foot_0 12 rfl)
theorem dX12_foot_22 : decode cX12_foot 22 = .ok (.aload_n 0, 1) := dk_42 (dw rcX12_foot_0 13 rfl)
theorem dX12_foot_23 : decode cX12_foot 23 = .ok (.iload_n 1, 1) := dk_27 (dw rcX12_foot_0 14 rfl)
theorem dX12_foot_24 : decode cX12_foot 24 = .ok (.iload_n 2, 1) := dk_28 (dw rcX12_foot_0 15 rfl)
theorem dX12_foot_25 : decode cX12_foot 25 = .ok (.iload_n 3, 1) := dk_29 (dw rcX12_foot_0 16 rfl)
theorem dX12_foot_26 : decode cX12_foot 26 = .ok (.invokevirtual 493, 3) := dk_182 (dw rcX12_foot_0 17 rfl) rfl
theorem dX12_foot_29 : decode cX12_foot 29 = .ok (.aload_n 0, 1) := dk_42 (dw rcX12_foot_0 18 rfl)
theorem dX12_foot_30 : decode cX12_foot 30 = .ok (.getfield 115, 3) := dk_180 (dw rcX12_foot_0 19 rfl) rfl
theorem dX12_foot_33 : decode cX12_foot 33 = .ok (.iload 4, 2) := dk_21 (dw rcX12_foot_0 20 rfl)
theorem dX12_foot_35 : decode cX12_foot 35 = .ok (.baload, 1) := dk_51 (dw rcX12_foot_0 21 rfl)
theorem dX12_foot_36 : decode cX12_foot 36 = .ok (.invokestatic 348, 3) := dk_184 (dw rcX12_foot_0 22 rfl) rfl
theorem dX12_foot_39 : decode cX12_foot 39 = .ok (.ireturn, 1) := dk_172 (dw rcX12_foot_0 23 rfl)
noncomputable def rbX12_gap_0 : List (Nat × List Nat) := [(0, [42]), (1, [27]), (2, [182, 1, 197]), (5, [153, 0, 20]), (8, [42]), (9, [28]), (10, [182, 1, 207]), (13, [153, 0, 12]), (16, [29]), (17, [3]), (18, [5]), (19, [184, 1, 193]), (22, [154, 0, 5]), (25, [2]), (26, [172]), (27, [3]), (28, [54, 4]), (30, [2]), (31, [54, 5]), (33, [3]), (34, [54, 6]), (36, [3]), (37, [54, 7]), (39, [3])]
theorem rcX12_gap_0 : dgo (lb cX12_gap) 0 rbX12_gap_0 = true := by decide +kernel
theorem dX12_gap_0 : decode cX12_gap 0 = .ok (.aload_n 0, 1) := dk_42 (dw rcX12_gap_0 0 rfl)
theorem dX12_gap_1 : decode cX12_gap 1 = .ok (.iload_n 1, 1) := dk_27 (dw rcX12_gap_0 1 rfl)
theorem dX12_gap_2 : decode cX12_gap 2 = .ok (.invokevirtual 453, 3) := dk_182 (dw rcX12_gap_0 2 rfl) rfl
theorem dX12_gap_5 : decode cX12_gap 5 = .ok (.ifCond .eq 20, 3) := dk_153 (dw rcX12_gap_0 3 rfl) rfl
theorem dX12_gap_8 : decode cX12_gap 8 = .ok (.aload_n 0, 1) := dk_42 (dw rcX12_gap_0 4 rfl)
theorem dX12_gap_9 : decode cX12_gap 9 = .ok (.iload_n 2, 1) := dk_28 (dw rcX12_gap_0 5 rfl)
theorem dX12_gap_10 : decode cX12_gap 10 = .ok (.invokevirtual 463, 3) := dk_182 (dw rcX12_gap_0 6 rfl) rfl
theorem dX12_gap_13 : decode cX12_gap 13 = .ok (.ifCond .eq 12, 3) := dk_153 (dw rcX12_gap_0 7 rfl) rfl
theorem dX12_gap_16 : decode cX12_gap 16 = .ok (.iload_n 3, 1) := dk_29 (dw rcX12_gap_0 8 rfl)
theorem dX12_gap_17 : decode cX12_gap 17 = .ok (.iconst 0, 1) := dk_3 (dw rcX12_gap_0 9 rfl)
theorem dX12_gap_18 : decode cX12_gap 18 = .ok (.iconst 2, 1) := dk_5 (dw rcX12_gap_0 10 rfl)
theorem dX12_gap_19 : decode cX12_gap 19 = .ok (.invokestatic 449, 3) := dk_184 (dw rcX12_gap_0 11 rfl) rfl
theorem dX12_gap_22 : decode cX12_gap 22 = .ok (.ifCond .ne 5, 3) := dk_154 (dw rcX12_gap_0 12 rfl) rfl
theorem dX12_gap_25 : decode cX12_gap 25 = .ok (.iconst (-1), 1) := dk_2 (dw rcX12_gap_0 13 rfl)
theorem dX12_gap_26 : decode cX12_gap 26 = .ok (.ireturn, 1) := dk_172 (dw rcX12_gap_0 14 rfl)
theorem dX12_gap_27 : decode cX12_gap 27 = .ok (.iconst 0, 1) := dk_3 (dw rcX12_gap_0 15 rfl)
theorem dX12_gap_28 : decode cX12_gap 28 = .ok (.istore 4, 2) := dk_54 (dw rcX12_gap_0 16 rfl)
theorem dX12_gap_30 : decode cX12_gap 30 = .ok (.iconst (-1), 1) := dk_2 (dw rcX12_gap_0 17 rfl)
theorem dX12_gap_31 : decode cX12_gap 31 = .ok (.istore 5, 2) := dk_54 (dw rcX12_gap_0 18 rfl)
theorem dX12_gap_33 : decode cX12_gap 33 = .ok (.iconst 0, 1) := dk_3 (dw rcX12_gap_0 19 rfl)
theorem dX12_gap_34 : decode cX12_gap 34 = .ok (.istore 6, 2) := dk_54 (dw rcX12_gap_0 20 rfl)
theorem dX12_gap_36 : decode cX12_gap 36 = .ok (.iconst 0, 1) := dk_3 (dw rcX12_gap_0 21 rfl)
theorem dX12_gap_37 : decode cX12_gap 37 = .ok (.istore 7, 2) := dk_54 (dw rcX12_gap_0 22 rfl)
theorem dX12_gap_39 : decode cX12_gap 39 = .ok (.iconst 0, 1) := dk_3 (dw rcX12_gap_0 23 rfl)
noncomputable def rbX12_gap_40 : List (Nat × List Nat) := [(40, [54, 8]), (42, [21, 8]), (44, [42]), (45, [180, 0, 87]), (48, [27]), (49, [46]), (50, [162, 0, 67]), (53, [42]), (54, [27]), (55, [28]), (56, [21, 8]), (58, [182, 1, 210]), (61, [54, 9]), (63, [21, 7]), (65, [21, 9]), (67, [184, 1, 92]), (70, [96]), (71, [54, 7]), (73, [21, 9]), (75, [153, 0, 7]), (78, [3]), (79, [167, 0, 7]), (82, [21, 6]), (84, [4])]
theorem rcX12_gap_40 : dgo (lb cX12_gap) 0 rbX12_gap_40 = true := by decide +kernel
theorem dX12_gap_40 : decode cX12_gap 40 = .ok (.istore 8, 2) := dk_54 (dw rcX12_gap_40 0 rfl)
theorem dX12_gap_42 : decode cX12_gap 42 = .ok (.iload 8, 2) := dk_21 (dw rcX12_gap_40 1 rfl)
theorem dX12_gap_44 : decode cX12_gap 44 = .ok (.aload_n 0, 1) := dk_42 (dw rcX12_gap_40 2 rfl)
theorem dX12_gap_45 : decode cX12_gap 45 = .ok (.getfield 87, 3) := dk_180 (dw rcX12_gap_40 3 rfl) rfl
theorem dX12_gap_48 : decode cX12_gap 48 = .ok (.iload_n 1, 1) := dk_27 (dw rcX12_gap_40 4 rfl)
theorem dX12_gap_49 : decode cX12_gap 49 = .ok (.iaload, 1) := dk_46 (dw rcX12_gap_40 5 rfl)
theorem dX12_gap_50 : decode cX12_gap 50 = .ok (.if_icmp .ge 67, 3) := dk_162 (dw rcX12_gap_40 6 rfl) rfl
theorem dX12_gap_53 : decode cX12_gap 53 = .ok (.aload_n 0, 1) := dk_42 (dw rcX12_gap_40 7 rfl)
theorem dX12_gap_54 : decode cX12_gap 54 = .ok (.iload_n 1, 1) := dk_27 (dw rcX12_gap_40 8 rfl)
theorem dX12_gap_55 : decode cX12_gap 55 = .ok (.iload_n 2, 1) := dk_28 (dw rcX12_gap_40 9 rfl)
theorem dX12_gap_56 : decode cX12_gap 56 = .ok (.iload 8, 2) := dk_21 (dw rcX12_gap_40 10 rfl)
theorem dX12_gap_58 : decode cX12_gap 58 = .ok (.invokevirtual 466, 3) := dk_182 (dw rcX12_gap_40 11 rfl) rfl
theorem dX12_gap_61 : decode cX12_gap 61 = .ok (.istore 9, 2) := dk_54 (dw rcX12_gap_40 12 rfl)
theorem dX12_gap_63 : decode cX12_gap 63 = .ok (.iload 7, 2) := dk_21 (dw rcX12_gap_40 13 rfl)
theorem dX12_gap_65 : decode cX12_gap 65 = .ok (.iload 9, 2) := dk_21 (dw rcX12_gap_40 14 rfl)
theorem dX12_gap_67 : decode cX12_gap 67 = .ok (.invokestatic 348, 3) := dk_184 (dw rcX12_gap_40 15 rfl) rfl
theorem dX12_gap_70 : decode cX12_gap 70 = .ok (.iadd, 1) := dk_96 (dw rcX12_gap_40 16 rfl)
theorem dX12_gap_71 : decode cX12_gap 71 = .ok (.istore 7, 2) := dk_54 (dw rcX12_gap_40 17 rfl)
theorem dX12_gap_73 : decode cX12_gap 73 = .ok (.iload 9, 2) := dk_21 (dw rcX12_gap_40 18 rfl)
theorem dX12_gap_75 : decode cX12_gap 75 = .ok (.ifCond .eq 7, 3) := dk_153 (dw rcX12_gap_40 19 rfl) rfl
theorem dX12_gap_78 : decode cX12_gap 78 = .ok (.iconst 0, 1) := dk_3 (dw rcX12_gap_40 20 rfl)
theorem dX12_gap_79 : decode cX12_gap 79 = .ok (.goto 7, 3) := dk_167 (dw rcX12_gap_40 21 rfl) rfl
theorem dX12_gap_82 : decode cX12_gap 82 = .ok (.iload 6, 2) := dk_21 (dw rcX12_gap_40 22 rfl)
theorem dX12_gap_84 : decode cX12_gap 84 = .ok (.iconst 1, 1) := dk_4 (dw rcX12_gap_40 23 rfl)
noncomputable def rbX12_gap_85 : List (Nat × List Nat) := [(85, [96]), (86, [54, 6]), (88, [21, 6]), (90, [21, 4]), (92, [163, 0, 6]), (95, [167, 0, 16]), (98, [21, 6]), (100, [54, 4]), (102, [21, 8]), (104, [21, 6]), (106, [100]), (107, [4]), (108, [96]), (109, [54, 5]), (111, [132, 8, 1]), (114, [167, 255, 184]), (117, [29]), (118, [154, 0, 8]), (121, [21, 4]), (123, [167, 0, 15]), (126, [29]), (127, [4]), (128, [160, 0, 8]), (131, [21, 5])]
theorem rcX12_gap_85 : dgo (lb cX12_gap) 0 rbX12_gap_85 = true := by decide +kernel
theorem dX12_gap_85 : decode cX12_gap 85 = .ok (.iadd, 1) := dk_96 (dw rcX12_gap_85 0 rfl)
theorem dX12_gap_86 : decode cX12_gap 86 = .ok (.istore 6, 2) := dk_54 (dw rcX12_gap_85 1 rfl)
theorem dX12_gap_88 : decode cX12_gap 88 = .ok (.iload 6, 2) := dk_21 (dw rcX12_gap_85 2 rfl)
theorem dX12_gap_90 : decode cX12_gap 90 = .ok (.iload 4, 2) := dk_21 (dw rcX12_gap_85 3 rfl)
theorem dX12_gap_92 : decode cX12_gap 92 = .ok (.if_icmp .gt 6, 3) := dk_163 (dw rcX12_gap_85 4 rfl) rfl
theorem dX12_gap_95 : decode cX12_gap 95 = .ok (.goto 16, 3) := dk_167 (dw rcX12_gap_85 5 rfl) rfl
theorem dX12_gap_98 : decode cX12_gap 98 = .ok (.iload 6, 2) := dk_21 (dw rcX12_gap_85 6 rfl)
theorem dX12_gap_100 : decode cX12_gap 100 = .ok (.istore 4, 2) := dk_54 (dw rcX12_gap_85 7 rfl)
theorem dX12_gap_102 : decode cX12_gap 102 = .ok (.iload 8, 2) := dk_21 (dw rcX12_gap_85 8 rfl)
theorem dX12_gap_104 : decode cX12_gap 104 = .ok (.iload 6, 2) := dk_21 (dw rcX12_gap_85 9 rfl)
theorem dX12_gap_106 : decode cX12_gap 106 = .ok (.isub, 1) := dk_100 (dw rcX12_gap_85 10 rfl)
theorem dX12_gap_107 : decode cX12_gap 107 = .ok (.iconst 1, 1) := dk_4 (dw rcX12_gap_85 11 rfl)
theorem dX12_gap_108 : decode cX12_gap 108 = .ok (.iadd, 1) := dk_96 (dw rcX12_gap_85 12 rfl)
theorem dX12_gap_109 : decode cX12_gap 109 = .ok (.istore 5, 2) := dk_54 (dw rcX12_gap_85 13 rfl)
theorem dX12_gap_111 : decode cX12_gap 111 = .ok (.iinc 8 1, 3) := dk_132 (dw rcX12_gap_85 14 rfl) rfl
theorem dX12_gap_114 : decode cX12_gap 114 = .ok (.goto (-72), 3) := dk_167 (dw rcX12_gap_85 15 rfl) rfl
theorem dX12_gap_117 : decode cX12_gap 117 = .ok (.iload_n 3, 1) := dk_29 (dw rcX12_gap_85 16 rfl)
theorem dX12_gap_118 : decode cX12_gap 118 = .ok (.ifCond .ne 8, 3) := dk_154 (dw rcX12_gap_85 17 rfl) rfl
theorem dX12_gap_121 : decode cX12_gap 121 = .ok (.iload 4, 2) := dk_21 (dw rcX12_gap_85 18 rfl)
theorem dX12_gap_123 : decode cX12_gap 123 = .ok (.goto 15, 3) := dk_167 (dw rcX12_gap_85 19 rfl) rfl
theorem dX12_gap_126 : decode cX12_gap 126 = .ok (.iload_n 3, 1) := dk_29 (dw rcX12_gap_85 20 rfl)
theorem dX12_gap_127 : decode cX12_gap 127 = .ok (.iconst 1, 1) := dk_4 (dw rcX12_gap_85 21 rfl)
theorem dX12_gap_128 : decode cX12_gap 128 = .ok (.if_icmp .ne 8, 3) := dk_160 (dw rcX12_gap_85 22 rfl) rfl
theorem dX12_gap_131 : decode cX12_gap 131 = .ok (.iload 5, 2) := dk_21 (dw rcX12_gap_85 23 rfl)
noncomputable def rbX12_gap_133 : List (Nat × List Nat) := [(133, [167, 0, 5]), (136, [21, 7]), (138, [172])]
theorem rcX12_gap_133 : dgo (lb cX12_gap) 0 rbX12_gap_133 = true := by decide +kernel
theorem dX12_gap_133 : decode cX12_gap 133 = .ok (.goto 5, 3) := dk_167 (dw rcX12_gap_133 0 rfl) rfl
theorem dX12_gap_136 : decode cX12_gap 136 = .ok (.iload 7, 2) := dk_21 (dw rcX12_gap_133 1 rfl)
theorem dX12_gap_138 : decode cX12_gap 138 = .ok (.ireturn, 1) := dk_172 (dw rcX12_gap_133 2 rfl)
set_option maxHeartbeats 4000000 in
set_option maxRecDepth 100000 in
theorem n_gap (l : Launch) (D : va_G) (k : KT) (A : Nat → Prop) (a : Nat → Nat) (z : SK) (G : GS) (p0 : Int32) (p1 : Int32) (p2 : Int32) (hP9 : gP G = 1) : Met l yX12_gap (WS yX12_gap cX12_gap 10 (some .int)) ({ frames := 4, cells := 0, slots := 0, locals := 92 }) (va_Pc [.ref (a 66), .int p0, .int p1, .int p2] (cW D k A a z G)) (va_Qi (fun (r : Int32) (G1 : GS) => Q_gap p0 p1 p2 G r G1) (fun (G1 : GS) t => Wd D k A a G1 t.heap) A) 0 0 A := by
  refine Met.ofW (cc := cX12_gap) (maxL := 10) (ret := (some .int)) (by decide) rfl ?_
  intro p e s m args below meth c s₁ B hml hv
  obtain ⟨rfl, hW, hB_G, hK, hZ⟩ := hv
  have hx := B.exec
  have hb := B.bytes
  have hr := B.returns
  have hts := atoms_spec (ws := WS yX12_gap cX12_gap 10 (some .int)) B.pre
  have hgd : ∀ w ∈ gd, w ∈ WS yX12_gap cX12_gap 10 (some .int) := fun w h => List.mem_cons_of_mem _ h
  have hg : ∀ w ∈ gd, w.before _ s = true := fun w h => hts w (hgd w h)
  have hown : s.vm.findClass RX12 = some m.cls := findClass_of_methodNamed B.named
  have hS : va_S A s.heap s.heap [] := va_S.rf
  have hF : Fr [76] [] G G := Fr.rf
  have hl := lv_entry ([.ref (a 66), .int p0, .int p1, .int p2]) (n := 10) (Nat.le_of_ble_eq_true rfl)
  rw [lg_entry_eq]
  generalize (lg_sl ([.ref (a 66), .int p0, .int p1, .int p2]) ++ List.replicate (10 - (lg_sl ([.ref (a 66), .int p0, .int p1, .int p2])).length) Slot.unset).toArray = ls at hl ⊢
  have hl : lv_has ls 10 [(0, .ref (a 66)), (1, .int p0), (2, .int p1), (3, .int p2)] := hl
  refine lv_aload_n hx hb dX12_gap_0 rfl (lv_at hl 0 rfl) ?_
  refine lv_iload_n hx hb dX12_gap_1 rfl (lv_at hl 1 rfl) ?_
  refine S_calli (va_runV (As := [.int p0]) (rest := []) ⟨hx, hb, hml, hown, hts⟩ (n_isStreet l D k A a z G p0 ) (cwV 1 hts (gd_V hgd m1777 m1779 m83 m131 m1780) rfl rfl rfl hd_X12_isStreet ⟨Nat.le_of_ble_eq_true rfl, Nat.le_of_ble_eq_true rfl⟩) (pre_W hW hB_G hK hZ hS kd_66 rfl) rfl rfl hl.1 rfl (lv_room (Nat.le_of_ble_eq_true rfl)) dX12_gap_2 ⟨Nat.le_of_ble_eq_true rfl, Nat.le_of_ble_eq_true rfl⟩) hS (fun r_1 G_2 H locs hpo hW hS => ?_)
  have hX_5 : Q_isStreet p0 G r_1 G_2 := hpo
  obtain ⟨hB_G_2, hq_3, f_6, hp_4, -⟩ := hpo
  have hF := hF.call9 hq_3 rfl rfl
  refine lv_if_eq (tgt := 25) hx hb dX12_gap_5 rfl (fun c_7 => ?_) (fun c_7 => ?_)
  · have c_7 : r_1.toInt = 0 := xI_eq rfl rfl c_7
    refine ic_m1 hx hb dX12_gap_25 ?_
    exact W.iret (v := (-1)) hx hb hr (fun t ht _ => ⟨⟨(-1), G_2, rfl, (Q_gap_mk ⟨hB_G_2, hF, ⟨r_1, G_2, hX_5, (Or.inl ⟨c_7, ⟨rfl, rfl⟩⟩)⟩⟩), wd_t ht hW⟩, hS.F ht⟩) hS.2.2 dX12_gap_26
  · have c_7 : r_1.toInt ≠ 0 := xI_ne rfl rfl c_7
    refine lv_aload_n hx hb dX12_gap_8 rfl (lv_at hl 0 rfl) ?_
    refine lv_iload_n hx hb dX12_gap_9 rfl (lv_at hl 2 rfl) ?_
    refine S_calli (va_runV (As := [.int p1]) (rest := []) ⟨hx, hb, hml, hown, hts⟩ (n_areRules l D k A a z G_2 p1 ) (cwV 1 hts (gd_V hgd m1799 m1801 m85 m131 m1802) rfl rfl rfl hd_X12_areRules ⟨Nat.le_of_ble_eq_true rfl, Nat.le_of_ble_eq_true rfl⟩) (pre_W hW hB_G_2 hK hZ hS kd_66 rfl) rfl rfl hl.1 rfl (lv_room (Nat.le_of_ble_eq_true rfl)) dX12_gap_10 ⟨Nat.le_of_ble_eq_true rfl, Nat.le_of_ble_eq_true rfl⟩) hS (fun r_8 G_9 H locs hpo hW hS => ?_)
    have hX_12 : Q_areRules p1 G_2 r_8 G_9 := hpo
    obtain ⟨hB_G_9, hq_10, f_13, hp_11, -⟩ := hpo
    have hF := hF.call9 hq_10 rfl rfl
    refine lv_if_eq (tgt := 25) hx hb dX12_gap_13 rfl (fun c_14 => ?_) (fun c_14 => ?_)
    · have c_14 : r_8.toInt = 0 := xI_eq rfl rfl c_14
      refine ic_m1 hx hb dX12_gap_25 ?_
      exact W.iret (v := (-1)) hx hb hr (fun t ht _ => ⟨⟨(-1), G_9, rfl, (Q_gap_mk ⟨hB_G_9, hF, ⟨r_1, G_2, hX_5, (Or.inr ⟨c_7, ⟨r_8, G_9, hX_12, (Or.inl ⟨c_14, ⟨rfl, rfl⟩⟩)⟩⟩)⟩⟩), wd_t ht hW⟩, hS.F ht⟩) hS.2.2 dX12_gap_26
    · have c_14 : r_8.toInt ≠ 0 := xI_ne rfl rfl c_14
      refine lv_iload_n hx hb dX12_gap_16 rfl (lv_at hl 3 rfl) ?_
      refine ic_0 hx hb dX12_gap_17 ?_
      refine ic_2 hx hb dX12_gap_18 ?_
      have qc_15 : (0 : Int32).toInt = 0 := rfl
      have qc_16 : (2 : Int32).toInt = 2 := rfl
      refine S_calli (va_runS (As := [.int p2, .int 0, .int 2]) (rest := []) ⟨hx, hb, hml, hown, hts⟩ (n_isIn l D k A a z G_9 p2 0 2 ) (va_cwS 3 hts (gd_S hgd m1781 m1782 m131 m1783) rfl rfl rfl hd_X12_isIn.2 ⟨Nat.le_of_ble_eq_true rfl, Nat.le_of_ble_eq_true rfl⟩) (pre_S hW hB_G_9 hK hZ hS) rfl rfl hl.1 rfl (lv_room (Nat.le_of_ble_eq_true rfl)) dX12_gap_19 ⟨Nat.le_of_ble_eq_true rfl, Nat.le_of_ble_eq_true rfl⟩) hS (fun r_17 G_18 H locs hpo hW hS => ?_)
      have hX_21 : Q_isIn p2 0 2 G_9 r_17 G_18 := hpo
      obtain ⟨hB_G_18, hq_19, f_22, ⟨d_1, d_2⟩, -⟩ := hpo
      have hF := hF.call9 hq_19 rfl rfl
      refine lv_if_ne (tgt := 27) hx hb dX12_gap_22 rfl (fun c_23 => ?_) (fun c_23 => ?_)
      · have c_23 : r_17.toInt ≠ 0 := xI_ne rfl rfl c_23
        refine ic_0 hx hb dX12_gap_27 ?_
        refine lv_istore (lv' := [(4, .int 0), (0, .ref (a 66)), (1, .int p0), (2, .int p1), (3, .int p2)]) hx hb dX12_gap_28 hl (lt_b rfl) rfl (fun ls hl => ?_)
        refine ic_m1 hx hb dX12_gap_30 ?_
        refine lv_istore (lv' := [(5, .int (-1)), (4, .int 0), (0, .ref (a 66)), (1, .int p0), (2, .int p1), (3, .int p2)]) hx hb dX12_gap_31 hl (lt_b rfl) rfl (fun ls hl => ?_)
        refine ic_0 hx hb dX12_gap_33 ?_
        refine lv_istore (lv' := [(6, .int 0), (5, .int (-1)), (4, .int 0), (0, .ref (a 66)), (1, .int p0), (2, .int p1), (3, .int p2)]) hx hb dX12_gap_34 hl (lt_b rfl) rfl (fun ls hl => ?_)
        refine ic_0 hx hb dX12_gap_36 ?_
        refine lv_istore (lv' := [(7, .int 0), (6, .int 0), (5, .int (-1)), (4, .int 0), (0, .ref (a 66)), (1, .int p0), (2, .int p1), (3, .int p2)]) hx hb dX12_gap_37 hl (lt_b rfl) rfl (fun ls hl => ?_)
        refine ic_0 hx hb dX12_gap_39 ?_
        refine lv_istore (lv' := [(8, .int 0), (7, .int 0), (6, .int 0), (5, .int (-1)), (4, .int 0), (0, .ref (a 66)), (1, .int p0), (2, .int p1), (3, .int p2)]) hx hb dX12_gap_40 hl (lt_b rfl) rfl (fun ls hl => ?_)
        have qc_34 : ((-1) : Int32).toInt = (-1) := rfl
        have qc_35 : (0 : Int32).toInt = 0 := rfl
        refine loop_N (Inv := fun n H locs ls => ∃ (G_24 : GS) (x_28 : Int32) (x_29 : Int32) (x_30 : Int32) (x_31 : Int32) (x_32 : Int32), (n : Int) = 400 - x_28.toInt ∧ (0 ≤ x_28.toInt ∧ x_28.toInt ≤ 400) ∧ (x_31.toInt ≤ 400) ∧ (0 ≤ x_32.toInt) ∧ Rc (St_n_gap_1 p0 p1) (0, 0, 0, (-1), 0, G_18) (x_28, x_29, x_30, x_31, x_32, G_24) ∧ Wd D k A a G_24 H ∧ Bd G_24 ∧ Fr [76] [] G G_24 ∧ Fr [76] [] G_18 G_24 ∧ va_S A s.heap H locs ∧ lv_has ls 10 [(8, .int x_28), (7, .int x_29), (6, .int x_30), (5, .int x_31), (4, .int x_32), (0, .ref (a 66)), (1, .int p0), (2, .int p1), (3, .int p2)]) (fun n_27 H locs ls ih_26 hI => ?_) (400 - 0 : Int).toNat ⟨G_18, 0, 0, 0, (-1), 0, (Int.toNat_of_nonneg ((by decide))), ⟨(by decide), (by decide)⟩, ((by decide)), ((by decide)), Rc.rf, hW, hB_G_18, hF, Fr.rf, hS, lv_sub hl [0, 1, 2, 3, 4, 5, 6, 7, 8] rfl⟩
        obtain ⟨G_24, x_28, x_29, x_30, x_31, x_32, hn_39, f_36, f_37, f_38, hX_33, hW, hB_G_24, hF, hq_25, hS, hl⟩ := hI
        refine lv_iload hx hb dX12_gap_42 (lv_at hl 0 rfl) ?_
        refine lv_aload_n hx hb dX12_gap_44 rfl (lv_at hl 5 rfl) ?_
        refine S_getR (n := 91) (C := RX12) (T := TX12) (N := 89) hx hb hg iX12 hown hK hW kd_66 rfl 39 (lt_b rfl) (hg (Cond.fieldLink RX12 87 "SlabWalkModel" "lengths" "[I") m1353) (fun _ h9 => h9) rfl dX12_gap_45 ?_
        refine lv_iload_n hx hb dX12_gap_48 rfl (lv_at hl 6 rfl) ?_
        refine S_iald hx hb hK hW kd_91 (vin ((by first | exact ok_647 f_6.1 f_6.2 hp_4 c_7 | omega)) ((by first | exact ok_648 f_6.1 f_6.2 hp_4 c_7 | omega))) dX12_gap_49 (fun y_40 ey_40 => ?_)
        have ty_40 : 0 ≤ y_40.toInt ∧ y_40.toInt ≤ 400 := bv_91 hB_G_24 ey_40
        refine lv_icmp_ge (tgt := 117) hx hb dX12_gap_50 rfl (fun c_41 => ?_) (fun c_41 => ?_)
        · have c_41 : y_40.toInt ≤ x_28.toInt := xI_le rfl rfl c_41
          refine lv_iload_n hx hb dX12_gap_117 rfl (lv_at hl 8 rfl) ?_
          refine lv_if_ne (tgt := 126) hx hb dX12_gap_118 rfl (fun c_42 => ?_) (fun c_42 => ?_)
          · have c_42 : p2.toInt ≠ 0 := xI_ne rfl rfl c_42
            refine lv_iload_n hx hb dX12_gap_126 rfl (lv_at hl 8 rfl) ?_
            refine ic_1 hx hb dX12_gap_127 ?_
            refine lv_icmp_ne (tgt := 136) hx hb dX12_gap_128 rfl (fun c_43 => ?_) (fun c_43 => ?_)
            · have c_43 : p2.toInt ≠ 1 := xI_ne rfl rfl c_43
              refine lv_iload hx hb dX12_gap_136 (lv_at hl 1 rfl) ?_
              exact W.iret (v := x_29) hx hb hr (fun t ht _ => ⟨⟨x_29, G_24, rfl, (Q_gap_mk ⟨hB_G_24, hF, ⟨r_1, G_2, hX_5, (Or.inr ⟨c_7, ⟨r_8, G_9, hX_12, (Or.inr ⟨c_14, ⟨r_17, G_18, hX_21, (Or.inr ⟨c_23, ⟨x_28, x_29, x_30, x_31, x_32, G_24, hX_33, f_36, f_37, f_38, hB_G_24, hq_25, ⟨y_40, ey_40, ⟨c_41, (Or.inr ⟨c_42, (Or.inr ⟨c_43, ⟨rfl, rfl⟩⟩)⟩)⟩⟩⟩⟩)⟩⟩)⟩⟩)⟩⟩), wd_t ht hW⟩, hS.F ht⟩) hS.2.2 dX12_gap_138
            · have c_43 : p2.toInt = 1 := xI_eq rfl rfl c_43
              refine lv_iload hx hb dX12_gap_131 (lv_at hl 3 rfl) ?_
              refine lv_goto (tgt := 138) hx hb dX12_gap_133 rfl ?_
              exact W.iret (v := x_31) hx hb hr (fun t ht _ => ⟨⟨x_31, G_24, rfl, (Q_gap_mk ⟨hB_G_24, hF, ⟨r_1, G_2, hX_5, (Or.inr ⟨c_7, ⟨r_8, G_9, hX_12, (Or.inr ⟨c_14, ⟨r_17, G_18, hX_21, (Or.inr ⟨c_23, ⟨x_28, x_29, x_30, x_31, x_32, G_24, hX_33, f_36, f_37, f_38, hB_G_24, hq_25, ⟨y_40, ey_40, ⟨c_41, (Or.inr ⟨c_42, (Or.inl ⟨c_43, ⟨rfl, rfl⟩⟩)⟩)⟩⟩⟩⟩)⟩⟩)⟩⟩)⟩⟩), wd_t ht hW⟩, hS.F ht⟩) hS.2.2 dX12_gap_138
          · have c_42 : p2.toInt = 0 := xI_eq rfl rfl c_42
            refine lv_iload hx hb dX12_gap_121 (lv_at hl 4 rfl) ?_
            refine lv_goto (tgt := 138) hx hb dX12_gap_123 rfl ?_
            exact W.iret (v := x_32) hx hb hr (fun t ht _ => ⟨⟨x_32, G_24, rfl, (Q_gap_mk ⟨hB_G_24, hF, ⟨r_1, G_2, hX_5, (Or.inr ⟨c_7, ⟨r_8, G_9, hX_12, (Or.inr ⟨c_14, ⟨r_17, G_18, hX_21, (Or.inr ⟨c_23, ⟨x_28, x_29, x_30, x_31, x_32, G_24, hX_33, f_36, f_37, f_38, hB_G_24, hq_25, ⟨y_40, ey_40, ⟨c_41, (Or.inl ⟨c_42, ⟨rfl, rfl⟩⟩)⟩⟩⟩⟩)⟩⟩)⟩⟩)⟩⟩), wd_t ht hW⟩, hS.F ht⟩) hS.2.2 dX12_gap_138
        · have c_41 : x_28.toInt < y_40.toInt := xI_nle rfl rfl c_41
          refine lv_aload_n hx hb dX12_gap_53 rfl (lv_at hl 5 rfl) ?_
          refine lv_iload_n hx hb dX12_gap_54 rfl (lv_at hl 6 rfl) ?_
          refine lv_iload_n hx hb dX12_gap_55 rfl (lv_at hl 7 rfl) ?_
          refine lv_iload hx hb dX12_gap_56 (lv_at hl 0 rfl) ?_
          have fr_44 : Fr [76] [] G G_24 := (Fr.call9 (rs := [76]) (fs := []) (Fr.call9 (rs := [76]) (fs := []) (Fr.call9 (rs := [76]) (fs := []) (Fr.call9 (rs := [76]) (fs := []) Fr.rf hq_3 rfl rfl) hq_10 rfl rfl) hq_19 rfl rfl) hq_25 rfl rfl)
          have g_45 : gP G_24 = gP G := gP_fr fr_44 (gr_q rfl) (gf_q rfl)
          refine S_calli (va_runV (As := [.int p0, .int p1, .int x_28]) (rest := []) ⟨hx, hb, hml, hown, hts⟩ (n_isLine l D k A a z G_24 p0 p1 x_28 ⟨(by first | exact ok_647 f_6.1 f_6.2 hp_4 c_7 | omega), (by first | exact ok_649 f_6.1 f_6.2 hp_4 c_7 | omega)⟩ ⟨(by first | exact f_36.1 | omega), (by first | exact ok_1100 f_36.2 ty_40.2 c_41 | omega)⟩ ((by first | exact ok_796 hP9 g_45 | omega))) (cwV 3 hts (gd_V hgd m1803 m1805 m86 m131 m1806) rfl rfl rfl hd_X12_isLine ⟨Nat.le_of_ble_eq_true rfl, Nat.le_of_ble_eq_true rfl⟩) (pre_W hW hB_G_24 hK hZ hS kd_66 rfl) rfl rfl hl.1 rfl (lv_room (Nat.le_of_ble_eq_true rfl)) dX12_gap_58 ⟨Nat.le_of_ble_eq_true rfl, Nat.le_of_ble_eq_true rfl⟩) hS (fun r_46 G_47 H locs hpo hW hS => ?_)
          have hX_50 : Q_isLine p0 p1 x_28 G_24 r_46 G_47 := hpo
          obtain ⟨hB_G_47, hq_48, f_51, -⟩ := hpo
          have hF := hF.call9 hq_48 rfl rfl
          refine lv_istore (lv' := [(9, .int r_46), (8, .int x_28), (7, .int x_29), (6, .int x_30), (5, .int x_31), (4, .int x_32), (0, .ref (a 66)), (1, .int p0), (2, .int p1), (3, .int p2)]) hx hb dX12_gap_61 hl (lt_b rfl) rfl (fun ls hl => ?_)
          refine lv_iload hx hb dX12_gap_63 (lv_at hl 2 rfl) ?_
          refine lv_iload hx hb dX12_gap_65 (lv_at hl 0 rfl) ?_
          refine S_calli (va_runS (As := [.int r_46]) (rest := [.int x_29]) ⟨hx, hb, hml, hown, hts⟩ (n_truth l D k A a z G_47 r_46 ⟨(by first | exact f_51.1 | omega), (by first | exact f_51.2 | omega)⟩) (va_cwS 1 hts (gd_S hgd m1788 m1789 m131 m1790) rfl rfl rfl hd_X12_truth.2 ⟨Nat.le_of_ble_eq_true rfl, Nat.le_of_ble_eq_true rfl⟩) (pre_S hW hB_G_47 hK hZ hS) rfl rfl hl.1 rfl (lv_room (Nat.le_of_ble_eq_true rfl)) dX12_gap_67 ⟨Nat.le_of_ble_eq_true rfl, Nat.le_of_ble_eq_true rfl⟩) hS (fun r_52 G_53 H locs hpo hW hS => ?_)
          have hX_56 : Q_truth r_46 G_47 r_52 G_53 := hpo
          obtain ⟨hB_G_53, hq_54, f_57, hp_55, -⟩ := hpo
          have hF := hF.call9 hq_54 rfl rfl
          refine lv_iadd hx hb dX12_gap_70 ?_
          refine lv_topi (fun y_58 ey_58 => ?_)
          refine lv_istore (lv' := [(7, .int y_58), (9, .int r_46), (8, .int x_28), (6, .int x_30), (5, .int x_31), (4, .int x_32), (0, .ref (a 66)), (1, .int p0), (2, .int p1), (3, .int p2)]) hx hb dX12_gap_71 hl (lt_b rfl) rfl (fun ls hl => ?_)
          refine lv_iload hx hb dX12_gap_73 (lv_at hl 1 rfl) ?_
          refine W.cut (σ := Int32) (pcJ := 86) (J := fun y H locs ls => ∃ (G_68 : GS) (x_59 : Int32), Jn_n_gap_2 r_46 x_30 y_58 G_53 x_59 y G_68 ∧ Wd D k A a G_68 H ∧ Bd G_68 ∧ Fr [76] [] G G_68 ∧ Fr [] [] G_53 G_68 ∧ va_S A s.heap H locs ∧ lv_has ls 10 [(7, .int x_59), (8, .int x_28), (5, .int x_31), (4, .int x_32), (0, .ref (a 66)), (1, .int p0), (2, .int p1), (3, .int p2)]) (stJ := fun y => [.int y]) ?_ (fun hJ_69 => ?_)
          · intro y H locs ls hI
            obtain ⟨w_67, hy⟩ : ∃ q, q = y := ⟨_, rfl⟩
            subst hy
            obtain ⟨G_68, x_59, hX_71, hW, hB_G_68, hF, hq_70, hS, hl⟩ := hI
            refine lv_istore (lv' := [(6, .int w_67), (7, .int x_59), (8, .int x_28), (5, .int x_31), (4, .int x_32), (0, .ref (a 66)), (1, .int p0), (2, .int p1), (3, .int p2)]) hx hb dX12_gap_86 hl (lt_b rfl) rfl (fun ls hl => ?_)
            refine lv_iload hx hb dX12_gap_88 (lv_at hl 0 rfl) ?_
            refine lv_iload hx hb dX12_gap_90 (lv_at hl 4 rfl) ?_
            refine lv_icmp_gt (tgt := 98) hx hb dX12_gap_92 rfl (fun c_72 => ?_) (fun c_72 => ?_)
            · have c_72 : x_32.toInt < w_67.toInt := xI_lt rfl rfl c_72
              refine lv_iload hx hb dX12_gap_98 (lv_at hl 0 rfl) ?_
              refine lv_istore (lv' := [(4, .int w_67), (6, .int w_67), (7, .int x_59), (8, .int x_28), (5, .int x_31), (0, .ref (a 66)), (1, .int p0), (2, .int p1), (3, .int p2)]) hx hb dX12_gap_100 hl (lt_b rfl) rfl (fun ls hl => ?_)
              refine lv_iload hx hb dX12_gap_102 (lv_at hl 3 rfl) ?_
              refine lv_iload hx hb dX12_gap_104 (lv_at hl 1 rfl) ?_
              refine lv_isub hx hb dX12_gap_106 ?_
              refine lv_topi (fun y_73 ey_73 => ?_)
              have e_74 := tI_rng w_67
              have ty_73 : y_73.toInt = x_28.toInt - w_67.toInt := xI_sub rfl rfl ey_73 ((by first | exact ok_524 f_36.1 e_74.2 | omega)) ((by first | (clear hP9 f_6 hp_4 c_7 f_13 hp_11 c_14 f_22 d_1 d_2 c_23 hn_39 f_37 g_45 f_51 f_57 hp_55; omega) | omega))
              refine ic_1 hx hb dX12_gap_107 ?_
              refine lv_iadd hx hb dX12_gap_108 ?_
              refine lv_topi (fun y_75 ey_75 => ?_)
              have e_76 := tI_rng y_73
              have ty_75 : y_75.toInt = y_73.toInt + 1 := xI_add rfl rfl ey_75 ((by first | exact ok_525 e_76.1 | omega)) ((by first | (clear hP9 f_6 hp_4 c_7 f_13 hp_11 c_14 f_22 d_1 d_2 c_23 hn_39 f_37 g_45 f_51 f_57 hp_55; omega) | omega))
              refine lv_istore (lv' := [(5, .int y_75), (4, .int w_67), (6, .int w_67), (7, .int x_59), (8, .int x_28), (0, .ref (a 66)), (1, .int p0), (2, .int p1), (3, .int p2)]) hx hb dX12_gap_109 hl (lt_b rfl) rfl (fun ls hl => ?_)
              obtain ⟨y_77, ey_77⟩ : ∃ q, q = x_28 + 1 := ⟨_, rfl⟩
              have ty_77 : y_77.toInt = x_28.toInt + 1 := xI_add rfl rfl ey_77 ((by first | exact ok_21 f_36.1 | omega)) ((by first | exact ok_40 f_36.2 | omega))
              refine lv_iinc (v := y_77) (lv' := [(8, .int y_77), (5, .int y_75), (4, .int w_67), (6, .int w_67), (7, .int x_59), (0, .ref (a 66)), (1, .int p0), (2, .int p1), (3, .int p2)]) hx hb dX12_gap_111 hl (k := 4) rfl (by rw [ey_77]; rfl) (lt_b rfl) rfl (fun ls hl => ?_)
              refine lv_goto (tgt := 42) hx hb dX12_gap_114 rfl ?_
              exact ih_26 (400 - y_77.toInt : Int).toNat ((by first | (clear hP9 f_6 hp_4 c_7 f_13 hp_11 c_14 f_22 d_1 d_2 c_23 f_37 g_45 f_51 f_57 hp_55; omega) | omega)) _ _ _ ⟨G_68, y_77, x_59, w_67, y_75, w_67, (Int.toNat_of_nonneg ((by first | exact ok_155 f_36.2 ty_40.2 c_41 ty_77 | omega))), ⟨(by first | exact ok_23 f_36.1 ty_77 | omega), (by first | exact ok_64 f_36.2 ty_40.2 c_41 ty_77 | omega)⟩, ((by first | exact ok_526 f_36.2 f_38 c_72 ty_73 ty_75 | omega)), ((by first | exact ok_527 f_38 c_72 | omega)), (hX_33.st (St_n_gap_1_mk ⟨x_28, x_29, x_30, x_31, x_32, G_24, y_77, x_59, w_67, y_75, w_67, G_68, rfl, rfl, f_36, f_37, f_38, hB_G_24, ⟨y_40, ey_40, ⟨c_41, ⟨r_46, G_47, hX_50, ⟨r_52, G_53, hX_56, ⟨y_58, ey_58, ⟨x_59, w_67, G_68, hX_71, hB_G_68, hq_70, (Or.inl ⟨c_72, ⟨y_73, ty_73, ⟨y_75, ty_75, ⟨y_77, ty_77, ⟨rfl, rfl, rfl, rfl, rfl, rfl⟩⟩⟩⟩⟩)⟩⟩⟩⟩⟩⟩⟩)), hW, hB_G_68, hF, (Fr.call9 (rs := [76]) (fs := []) (Fr.call9 (rs := [76]) (fs := []) (Fr.call9 (rs := [76]) (fs := []) (Fr.call9 (rs := [76]) (fs := []) Fr.rf hq_25 rfl rfl) hq_48 rfl rfl) hq_54 rfl rfl) hq_70 rfl rfl), hS, lv_sub hl [0, 4, 3, 1, 2, 5, 6, 7, 8] rfl⟩
            · have c_72 : w_67.toInt ≤ x_32.toInt := xI_nlt rfl rfl c_72
              refine lv_goto (tgt := 111) hx hb dX12_gap_95 rfl ?_
              obtain ⟨y_78, ey_78⟩ : ∃ q, q = x_28 + 1 := ⟨_, rfl⟩
              have ty_78 : y_78.toInt = x_28.toInt + 1 := xI_add rfl rfl ey_78 ((by first | exact ok_21 f_36.1 | omega)) ((by first | exact ok_40 f_36.2 | omega))
              refine lv_iinc (v := y_78) (lv' := [(8, .int y_78), (6, .int w_67), (7, .int x_59), (5, .int x_31), (4, .int x_32), (0, .ref (a 66)), (1, .int p0), (2, .int p1), (3, .int p2)]) hx hb dX12_gap_111 hl (k := 2) rfl (by rw [ey_78]; rfl) (lt_b rfl) rfl (fun ls hl => ?_)
              refine lv_goto (tgt := 42) hx hb dX12_gap_114 rfl ?_
              exact ih_26 (400 - y_78.toInt : Int).toNat ((by first | (clear hP9 f_6 hp_4 c_7 f_13 hp_11 c_14 f_22 d_1 d_2 c_23 f_37 f_38 g_45 f_51 f_57 hp_55 c_72; omega) | omega)) _ _ _ ⟨G_68, y_78, x_59, w_67, x_31, x_32, (Int.toNat_of_nonneg ((by first | exact ok_155 f_36.2 ty_40.2 c_41 ty_78 | omega))), ⟨(by first | exact ok_23 f_36.1 ty_78 | omega), (by first | exact ok_64 f_36.2 ty_40.2 c_41 ty_78 | omega)⟩, ((by first | exact f_37 | omega)), ((by first | exact f_38 | omega)), (hX_33.st (St_n_gap_1_mk ⟨x_28, x_29, x_30, x_31, x_32, G_24, y_78, x_59, w_67, x_31, x_32, G_68, rfl, rfl, f_36, f_37, f_38, hB_G_24, ⟨y_40, ey_40, ⟨c_41, ⟨r_46, G_47, hX_50, ⟨r_52, G_53, hX_56, ⟨y_58, ey_58, ⟨x_59, w_67, G_68, hX_71, hB_G_68, hq_70, (Or.inr ⟨c_72, ⟨y_78, ty_78, ⟨rfl, rfl, rfl, rfl, rfl, rfl⟩⟩⟩)⟩⟩⟩⟩⟩⟩⟩)), hW, hB_G_68, hF, (Fr.call9 (rs := [76]) (fs := []) (Fr.call9 (rs := [76]) (fs := []) (Fr.call9 (rs := [76]) (fs := []) (Fr.call9 (rs := [76]) (fs := []) Fr.rf hq_25 rfl rfl) hq_48 rfl rfl) hq_54 rfl rfl) hq_70 rfl rfl), hS, lv_sub hl [0, 2, 1, 3, 4, 5, 6, 7, 8] rfl⟩
          refine lv_if_eq (tgt := 82) hx hb dX12_gap_75 rfl (fun c_79 => ?_) (fun c_79 => ?_)
          · have c_79 : r_46.toInt = 0 := xI_eq rfl rfl c_79
            refine lv_iload hx hb dX12_gap_82 (lv_at hl 3 rfl) ?_
            refine ic_1 hx hb dX12_gap_84 ?_
            refine lv_iadd hx hb dX12_gap_85 ?_
            refine lv_topi (fun y_80 ey_80 => ?_)
            exact hJ_69 y_80 _ _ _ ⟨G_53, y_58, (Jn_n_gap_2_mk (Or.inl ⟨c_79, ⟨y_80, ey_80, ⟨rfl, rfl, rfl⟩⟩⟩)), hW, hB_G_53, hF, (Fr.rf (rs := []) (fs := [])), hS, lv_sub hl [0, 2, 4, 5, 6, 7, 8, 9] rfl⟩
          · have c_79 : r_46.toInt ≠ 0 := xI_ne rfl rfl c_79
            refine ic_0 hx hb dX12_gap_78 ?_
            refine lv_goto (tgt := 86) hx hb dX12_gap_79 rfl ?_
            have qc_81 : (0 : Int32).toInt = 0 := rfl
            exact hJ_69 0 _ _ _ ⟨G_53, y_58, (Jn_n_gap_2_mk (Or.inr ⟨c_79, ⟨rfl, rfl, rfl⟩⟩)), hW, hB_G_53, hF, (Fr.rf (rs := []) (fs := [])), hS, lv_sub hl [0, 2, 4, 5, 6, 7, 8, 9] rfl⟩
      · have c_23 : r_17.toInt = 0 := xI_eq rfl rfl c_23
        refine ic_m1 hx hb dX12_gap_25 ?_
        exact W.iret (v := (-1)) hx hb hr (fun t ht _ => ⟨⟨(-1), G_18, rfl, (Q_gap_mk ⟨hB_G_18, hF, ⟨r_1, G_2, hX_5, (Or.inr ⟨c_7, ⟨r_8, G_9, hX_12, (Or.inr ⟨c_14, ⟨r_17, G_18, hX_21, (Or.inl ⟨c_23, ⟨rfl, rfl⟩⟩)⟩⟩)⟩⟩)⟩⟩), wd_t ht hW⟩, hS.F ht⟩) hS.2.2 dX12_gap_26

set_option maxHeartbeats 4000000 in
set_option maxRecDepth 100000 in
theorem n_foot (l : Launch) (D : va_G) (k : KT) (A : Nat → Prop) (a : Nat → Nat) (z : SK) (G : GS) (p0 : Int32) (p1 : Int32) (p2 : Int32) (p3 : Int32) (hP9 : gP G = 1) : Met l yX12_foot (WS yX12_foot cX12_foot 5 (some .int)) ({ frames := 5, cells := 0, slots := 0, locals := 117 }) (va_Pc [.ref (a 66), .int p0, .int p1, .int p2, .int p3] (cW D k A a z G)) (va_Qi (fun (r : Int32) (G1 : GS) => Q_foot p0 p1 p2 p3 G r G1) (fun (G1 : GS) t => Wd D k A a G1 t.heap) A) 0 0 A := by
  refine Met.ofW (cc := cX12_foot) (maxL := 5) (ret := (some .int)) (by decide) rfl ?_
  intro p e s m args below meth c s₁ B hml hv
  obtain ⟨rfl, hW, hB_G, hK, hZ⟩ := hv
  have hx := B.exec
  have hb := B.bytes
  have hr := B.returns
  have hts := atoms_spec (ws := WS yX12_foot cX12_foot 5 (some .int)) B.pre
  have hgd : ∀ w ∈ gd, w ∈ WS yX12_foot cX12_foot 5 (some .int) := fun w h => List.mem_cons_of_mem _ h
  have hg : ∀ w ∈ gd, w.before _ s = true := fun w h => hts w (hgd w h)
  have hown : s.vm.findClass RX12 = some m.cls := findClass_of_methodNamed B.named
  have hS : va_S A s.heap s.heap [] := va_S.rf
  have hF : Fr [76, 97, 98] [(66, 59), (66, 60), (66, 61), (66, 62), (66, 63)] G G := Fr.rf
  have hl := lv_entry ([.ref (a 66), .int p0, .int p1, .int p2, .int p3]) (n := 5) (Nat.le_of_ble_eq_true rfl)
  rw [lg_entry_eq]
  generalize (lg_sl ([.ref (a 66), .int p0, .int p1, .int p2, .int p3]) ++ List.replicate (5 - (lg_sl ([.ref (a 66), .int p0, .int p1, .int p2, .int p3])).length) Slot.unset).toArray = ls at hl ⊢
  have hl : lv_has ls 5 [(0, .ref (a 66)), (1, .int p0), (2, .int p1), (3, .int p2), (4, .int p3)] := hl
  refine lv_aload_n hx hb dX12_foot_0 rfl (lv_at hl 0 rfl) ?_
  refine lv_iload_n hx hb dX12_foot_1 rfl (lv_at hl 1 rfl) ?_
  refine lv_iload_n hx hb dX12_foot_2 rfl (lv_at hl 2 rfl) ?_
  refine lv_iload_n hx hb dX12_foot_3 rfl (lv_at hl 3 rfl) ?_
  refine S_calli (va_runV (As := [.int p0, .int p1, .int p2]) (rest := []) ⟨hx, hb, hml, hown, hts⟩ (n_isAsked l D k A a z G p0 p1 p2 ) (cwV 3 hts (gd_V hgd m1826 m1828 m89 m131 m1829) rfl rfl rfl hd_X12_isAsked ⟨Nat.le_of_ble_eq_true rfl, Nat.le_of_ble_eq_true rfl⟩) (pre_W hW hB_G hK hZ hS kd_66 rfl) rfl rfl hl.1 rfl (lv_room (Nat.le_of_ble_eq_true rfl)) dX12_foot_4 ⟨Nat.le_of_ble_eq_true rfl, Nat.le_of_ble_eq_true rfl⟩) hS (fun r_1 G_2 H locs hpo hW hS => ?_)
  have hX_5 : Q_isAsked p0 p1 p2 G r_1 G_2 := hpo
  obtain ⟨hB_G_2, hq_3, f_6, hp_4, -⟩ := hpo
  have hF := hF.call9 hq_3 rfl rfl
  refine lv_if_eq (tgt := 20) hx hb dX12_foot_7 rfl (fun c_7 => ?_) (fun c_7 => ?_)
  · have c_7 : r_1.toInt = 0 := xI_eq rfl rfl c_7
    refine ic_m1 hx hb dX12_foot_20 ?_
    exact W.iret (v := (-1)) hx hb hr (fun t ht _ => ⟨⟨(-1), G_2, rfl, (Q_foot_mk ⟨hB_G_2, hF, ⟨r_1, G_2, hX_5, (Or.inl ⟨c_7, ⟨rfl, rfl⟩⟩)⟩⟩), wd_t ht hW⟩, hS.F ht⟩) hS.2.2 dX12_foot_21
  · have c_7 : r_1.toInt ≠ 0 := xI_ne rfl rfl c_7
    refine lv_aload_n hx hb dX12_foot_10 rfl (lv_at hl 0 rfl) ?_
    refine lv_iload_n hx hb dX12_foot_11 rfl (lv_at hl 2 rfl) ?_
    refine lv_iload hx hb dX12_foot_12 (lv_at hl 4 rfl) ?_
    refine S_calli (va_runV (As := [.int p1, .int p3]) (rest := []) ⟨hx, hb, hml, hown, hts⟩ (n_isInch l D k A a z G_2 p1 p3 ⟨(by first | exact ok_1101 f_6.1 f_6.2 hp_4 c_7 | omega), (by first | exact ok_1102 f_6.1 f_6.2 hp_4 c_7 | omega)⟩) (cwV 2 hts (gd_V hgd m1784 m1786 m84 m131 m1787) rfl rfl rfl hd_X12_isInch ⟨Nat.le_of_ble_eq_true rfl, Nat.le_of_ble_eq_true rfl⟩) (pre_W hW hB_G_2 hK hZ hS kd_66 rfl) rfl rfl hl.1 rfl (lv_room (Nat.le_of_ble_eq_true rfl)) dX12_foot_14 ⟨Nat.le_of_ble_eq_true rfl, Nat.le_of_ble_eq_true rfl⟩) hS (fun r_8 G_9 H locs hpo hW hS => ?_)
    have hX_12 : Q_isInch p1 p3 G_2 r_8 G_9 := hpo
    obtain ⟨hB_G_9, hq_10, f_13, hp_11, -⟩ := hpo
    have hF := hF.call9 hq_10 rfl rfl
    refine lv_if_ne (tgt := 22) hx hb dX12_foot_17 rfl (fun c_14 => ?_) (fun c_14 => ?_)
    · have c_14 : r_8.toInt ≠ 0 := xI_ne rfl rfl c_14
      refine lv_aload_n hx hb dX12_foot_22 rfl (lv_at hl 0 rfl) ?_
      refine lv_iload_n hx hb dX12_foot_23 rfl (lv_at hl 1 rfl) ?_
      refine lv_iload_n hx hb dX12_foot_24 rfl (lv_at hl 2 rfl) ?_
      refine lv_iload_n hx hb dX12_foot_25 rfl (lv_at hl 3 rfl) ?_
      have fr_15 : Fr [] [] G G_9 := (Fr.call9 (rs := []) (fs := []) (Fr.call9 (rs := []) (fs := []) Fr.rf hq_3 rfl rfl) hq_10 rfl rfl)
      have g_16 : gP G_9 = gP G := gP_fr fr_15 (gr_q rfl) (gf_q rfl)
      refine S_callv (va_runV (As := [.int p0, .int p1, .int p2]) (rest := []) ⟨hx, hb, hml, hown, hts⟩ (n_layStreet l D k A a z G_9 p0 p1 p2 ⟨(by first | exact ok_1103 f_6.1 f_6.2 hp_4 c_7 | omega), (by first | exact ok_1104 f_6.1 f_6.2 hp_4 c_7 | omega)⟩ ⟨(by first | exact ok_1101 f_6.1 f_6.2 hp_4 c_7 | omega), (by first | exact ok_1102 f_6.1 f_6.2 hp_4 c_7 | omega)⟩ ((by first | exact ok_796 hP9 g_16 | omega))) (cwV 3 hts (gd_V hgd m1834 m1836 m91 m131 m1837) rfl rfl rfl hd_X12_layStreet ⟨Nat.le_of_ble_eq_true rfl, Nat.le_of_ble_eq_true rfl⟩) (pre_W hW hB_G_9 hK hZ hS kd_66 rfl) rfl rfl hl.1 rfl (lv_room (Nat.le_of_ble_eq_true rfl)) dX12_foot_26 ⟨Nat.le_of_ble_eq_true rfl, Nat.le_of_ble_eq_true rfl⟩) hS (fun G_18 H locs hpo hW hS => ?_)
      have hX_21 : Q_layStreet p0 p1 p2 G_9 G_18 := hpo
      obtain ⟨hB_G_18, hq_19, ⟨d_1, d_2, d_3, d_4, d_5, d_6⟩, -⟩ := hpo
      have hF := hF.call9 hq_19 rfl rfl
      refine lv_aload_n hx hb dX12_foot_29 rfl (lv_at hl 0 rfl) ?_
      refine S_getR (n := 98) (C := RX12) (T := TX12) (N := 89) hx hb hg iX12 hown hK hW kd_66 rfl 58 (lt_b rfl) (hg (Cond.fieldLink RX12 115 "SlabWalkModel" "lawful" "[Z") m1372) (fun _ h9 => h9) rfl dX12_foot_30 ?_
      refine lv_iload hx hb dX12_foot_33 (lv_at hl 4 rfl) ?_
      refine S_zald hx hb hK hW kd_98 (vin ((by first | exact ok_1098 f_13.1 f_13.2 hp_11 c_14 | omega)) ((by first | exact ok_1105 f_13.1 f_13.2 hp_11 c_14 | omega))) dX12_foot_35 (fun y_22 ey_22 => ?_)
      have ty_22 := hB_G_18.law ey_22
      refine S_calli (va_runS (As := [.int y_22]) (rest := []) ⟨hx, hb, hml, hown, hts⟩ (n_truth l D k A a z G_18 y_22 ⟨(by first | (clear hP9 f_6 hp_4 c_7 f_13 hp_11 c_14 g_16 d_1 d_2 d_3 d_4 d_5 d_6; omega) | omega), (by first | (clear hP9 f_6 hp_4 c_7 f_13 hp_11 c_14 g_16 d_1 d_2 d_3 d_4 d_5 d_6; omega) | omega)⟩) (va_cwS 1 hts (gd_S hgd m1788 m1789 m131 m1790) rfl rfl rfl hd_X12_truth.2 ⟨Nat.le_of_ble_eq_true rfl, Nat.le_of_ble_eq_true rfl⟩) (pre_S hW hB_G_18 hK hZ hS) rfl rfl hl.1 rfl (lv_room (Nat.le_of_ble_eq_true rfl)) dX12_foot_36 ⟨Nat.le_of_ble_eq_true rfl, Nat.le_of_ble_eq_true rfl⟩) hS (fun r_23 G_24 H locs hpo hW hS => ?_)
      have hX_27 : Q_truth y_22 G_18 r_23 G_24 := hpo
      obtain ⟨hB_G_24, hq_25, f_28, hp_26, -⟩ := hpo
      have hF := hF.call9 hq_25 rfl rfl
      exact W.iret (v := r_23) hx hb hr (fun t ht _ => ⟨⟨r_23, G_24, rfl, (Q_foot_mk ⟨hB_G_24, hF, ⟨r_1, G_2, hX_5, (Or.inr ⟨c_7, ⟨r_8, G_9, hX_12, (Or.inr ⟨c_14, ⟨G_18, hX_21, ⟨y_22, ey_22, ⟨r_23, G_24, hX_27, ⟨rfl, rfl⟩⟩⟩⟩⟩)⟩⟩)⟩⟩), wd_t ht hW⟩, hS.F ht⟩) hS.2.2 dX12_foot_39
    · have c_14 : r_8.toInt = 0 := xI_eq rfl rfl c_14
      refine ic_m1 hx hb dX12_foot_20 ?_
      exact W.iret (v := (-1)) hx hb hr (fun t ht _ => ⟨⟨(-1), G_9, rfl, (Q_foot_mk ⟨hB_G_9, hF, ⟨r_1, G_2, hX_5, (Or.inr ⟨c_7, ⟨r_8, G_9, hX_12, (Or.inl ⟨c_14, ⟨rfl, rfl⟩⟩)⟩⟩)⟩⟩), wd_t ht hW⟩, hS.F ht⟩) hS.2.2 dX12_foot_21

theorem m97 : Cond.selects RX12 yX12_lay yX12_lay ∈ gd := gds_7 1 rfl
theorem m99 : Cond.selects RX12 yX12_isEven yX12_isEven ∈ gd := gds_7 3 rfl
theorem m100 : Cond.selects RX12 yX12_comesToEnd yX12_comesToEnd ∈ gd := gds_7 4 rfl
theorem m1866 : Cond.methodLink RX12 512 yX12_lay ∈ gd := gdc_8_4 6 rfl gw_methodLink
theorem m1868 : Cond.instanceMethod yX12_lay ∈ gd := gdc_8_4 8 rfl gw_instanceMethod
theorem m1869 : Cond.code yX12_lay cX12_lay 2 none ∈ gd := gdc_8_4 9 rfl gw_code
theorem m1887 : Cond.methodLink RX12 526 yX12_isEven ∈ gd := gdc_8_5 11 rfl gw_methodLink
theorem m1889 : Cond.instanceMethod yX12_isEven ∈ gd := gdc_8_5 13 rfl gw_instanceMethod
theorem m1890 : Cond.code yX12_isEven cX12_isEven 6 (some .boolean) ∈ gd := gdc_8_5 14 rfl gw_code
theorem m1899 : Cond.methodLink RX12 529 yX12_comesToEnd ∈ gd := gdc_8_6 7 rfl gw_methodLink
theorem m1901 : Cond.instanceMethod yX12_comesToEnd ∈ gd := gdc_8_6 9 rfl gw_instanceMethod
theorem m1902 : Cond.code yX12_comesToEnd cX12_comesToEnd 4 (some .boolean) ∈ gd := gdc_8_6 10 rfl gw_code
noncomputable def rbX12_comesToEnd_0 : List (Nat × List Nat) := [(0, [27]), (1, [62]), (2, [42]), (3, [180, 0, 115]), (6, [29]), (7, [51]), (8, [153, 0, 18]), (11, [42]), (12, [29]), (13, [182, 1, 243]), (16, [154, 0, 10]), (19, [29]), (20, [28]), (21, [96]), (22, [62]), (23, [167, 255, 235]), (26, [42]), (27, [180, 0, 115]), (30, [29]), (31, [51]), (32, [172])]
theorem rcX12_comesToEnd_0 : dgo (lb cX12_comesToEnd) 0 rbX12_comesToEnd_0 = true := by decide +kernel
theorem dX12_comesToEnd_0 : decode cX12_comesToEnd 0 = .ok (.iload_n 1, 1) := dk_27 (dw rcX12_comesToEnd_0 0 rfl)
theorem dX12_comesToEnd_1 : decode cX12_comesToEnd 1 = .ok (.istore_n 3, 1) := dk_62 (dw rcX12_comesToEnd_0 1 rfl)
theorem dX12_comesToEnd_2 : decode cX12_comesToEnd 2 = .ok (.aload_n 0, 1) := dk_42 (dw rcX12_comesToEnd_0 2 rfl)
theorem dX12_comesToEnd_3 : decode cX12_comesToEnd 3 = .ok (.getfield 115, 3) := dk_180 (dw rcX12_comesToEnd_0 3 rfl) rfl
theorem dX12_comesToEnd_6 : decode cX12_comesToEnd 6 = .ok (.iload_n 3, 1) := dk_29 (dw rcX12_comesToEnd_0 4 rfl)
theorem dX12_comesToEnd_7 : decode cX12_comesToEnd 7 = .ok (.baload, 1) := dk_51 (dw rcX12_comesToEnd_0 5 rfl)
theorem dX12_comesToEnd_8 : decode cX12_comesToEnd 8 = .ok (.ifCond .eq 18, 3) := dk_153 (dw rcX12_comesToEnd_0 6 rfl) rfl
theorem dX12_comesToEnd_11 : decode cX12_comesToEnd 11 = .ok (.aload_n 0, 1) := dk_42 (dw rcX12_comesToEnd_0 7 rfl)
theorem dX12_comesToEnd_12 : decode cX12_comesToEnd 12 = .ok (.iload_n 3, 1) := dk_29 (dw rcX12_comesToEnd_0 8 rfl)
theorem dX12_comesToEnd_13 : decode cX12_comesToEnd 13 = .ok (.invokevirtual 499, 3) := dk_182 (dw rcX12_comesToEnd_0 9 rfl) rfl
theorem dX12_comesToEnd_16 : decode cX12_comesToEnd 16 = .ok (.ifCond .ne 10, 3) := dk_154 (dw rcX12_comesToEnd_0 10 rfl) rfl
theorem dX12_comesToEnd_19 : decode cX12_comesToEnd 19 = .ok (.iload_n 3, 1) := dk_29 (dw rcX12_comesToEnd_0 11 rfl)
theorem dX12_comesToEnd_20 : decode cX12_comesToEnd 20 = .ok (.iload_n 2, 1) := dk_28 (dw rcX12_comesToEnd_0 12 rfl)
theorem dX12_comesToEnd_21 : decode cX12_comesToEnd 21 = .ok (.iadd, 1) := dk_96 (dw rcX12_comesToEnd_0 13 rfl)
theorem dX12_comesToEnd_22 : decode cX12_comesToEnd 22 = .ok (.istore_n 3, 1) := dk_62 (dw rcX12_comesToEnd_0 14 rfl)
theorem dX12_comesToEnd_23 : decode cX12_comesToEnd 23 = .ok (.goto (-21), 3) := dk_167 (dw rcX12_comesToEnd_0 15 rfl) rfl
theorem dX12_comesToEnd_26 : decode cX12_comesToEnd 26 = .ok (.aload_n 0, 1) := dk_42 (dw rcX12_comesToEnd_0 16 rfl)
theorem dX12_comesToEnd_27 : decode cX12_comesToEnd 27 = .ok (.getfield 115, 3) := dk_180 (dw rcX12_comesToEnd_0 17 rfl) rfl
theorem dX12_comesToEnd_30 : decode cX12_comesToEnd 30 = .ok (.iload_n 3, 1) := dk_29 (dw rcX12_comesToEnd_0 18 rfl)
theorem dX12_comesToEnd_31 : decode cX12_comesToEnd 31 = .ok (.baload, 1) := dk_51 (dw rcX12_comesToEnd_0 19 rfl)
theorem dX12_comesToEnd_32 : decode cX12_comesToEnd 32 = .ok (.ireturn, 1) := dk_172 (dw rcX12_comesToEnd_0 20 rfl)
noncomputable def rbX12_even_0 : List (Nat × List Nat) := [(0, [42]), (1, [27]), (2, [28]), (3, [29]), (4, [182, 1, 234]), (7, [153, 0, 24]), (10, [42]), (11, [28]), (12, [21, 4]), (14, [182, 1, 200]), (17, [153, 0, 14]), (20, [21, 5]), (22, [4]), (23, [16, 99]), (25, [184, 1, 193]), (28, [154, 0, 5]), (31, [2]), (32, [172]), (33, [42]), (34, [27]), (35, [28]), (36, [29]), (37, [182, 1, 237]), (40, [3])]
theorem rcX12_even_0 : dgo (lb cX12_even) 0 rbX12_even_0 = true := by decide +kernel
theorem dX12_even_0 : decode cX12_even 0 = .ok (.aload_n 0, 1) := dk_42 (dw rcX12_even_0 0 rfl)
theorem dX12_even_1 : decode cX12_even 1 = .ok (.iload_n 1, 1) := dk_27 (dw rcX12_even_0 1 rfl)
theorem dX12_even_2 : decode cX12_even 2 = .ok (.iload_n 2, 1) := dk_28 (dw rcX12_even_0 2 rfl)
theorem dX12_even_3 : decode cX12_even 3 = .ok (.iload_n 3, 1) := dk_29 (dw rcX12_even_0 3 rfl)
theorem dX12_even_4 : decode cX12_even 4 = .ok (.invokevirtual 490, 3) := dk_182 (dw rcX12_even_0 4 rfl) rfl
theorem dX12_even_7 : decode cX12_even 7 = .ok (.ifCond .eq 24, 3) := dk_153 (dw rcX12_even_0 5 rfl) rfl
theorem dX12_even_10 : decode cX12_even 10 = .ok (.aload_n 0, 1) := dk_42 (dw rcX12_even_0 6 rfl)
theorem dX12_even_11 : decode cX12_even 11 = .ok (.iload_n 2, 1) := dk_28 (dw rcX12_even_0 7 rfl)
theorem dX12_even_12 : decode cX12_even 12 = .ok (.iload 4, 2) := dk_21 (dw rcX12_even_0 8 rfl)
theorem dX12_even_14 : decode cX12_even 14 = .ok (.invokevirtual 456, 3) := dk_182 (dw rcX12_even_0 9 rfl) rfl
theorem dX12_even_17 : decode cX12_even 17 = .ok (.ifCond .eq 14, 3) := dk_153 (dw rcX12_even_0 10 rfl) rfl
theorem dX12_even_20 : decode cX12_even 20 = .ok (.iload 5, 2) := dk_21 (dw rcX12_even_0 11 rfl)
theorem dX12_even_22 : decode cX12_even 22 = .ok (.iconst 1, 1) := dk_4 (dw rcX12_even_0 12 rfl)
theorem dX12_even_23 : decode cX12_even 23 = .ok (.bipush 99, 2) := dk_16 (dw rcX12_even_0 13 rfl) rfl
theorem dX12_even_25 : decode cX12_even 25 = .ok (.invokestatic 449, 3) := dk_184 (dw rcX12_even_0 14 rfl) rfl
theorem dX12_even_28 : decode cX12_even 28 = .ok (.ifCond .ne 5, 3) := dk_154 (dw rcX12_even_0 15 rfl) rfl
theorem dX12_even_31 : decode cX12_even 31 = .ok (.iconst (-1), 1) := dk_2 (dw rcX12_even_0 16 rfl)
theorem dX12_even_32 : decode cX12_even 32 = .ok (.ireturn, 1) := dk_172 (dw rcX12_even_0 17 rfl)
theorem dX12_even_33 : decode cX12_even 33 = .ok (.aload_n 0, 1) := dk_42 (dw rcX12_even_0 18 rfl)
theorem dX12_even_34 : decode cX12_even 34 = .ok (.iload_n 1, 1) := dk_27 (dw rcX12_even_0 19 rfl)
theorem dX12_even_35 : decode cX12_even 35 = .ok (.iload_n 2, 1) := dk_28 (dw rcX12_even_0 20 rfl)
theorem dX12_even_36 : decode cX12_even 36 = .ok (.iload_n 3, 1) := dk_29 (dw rcX12_even_0 21 rfl)
theorem dX12_even_37 : decode cX12_even 37 = .ok (.invokevirtual 493, 3) := dk_182 (dw rcX12_even_0 22 rfl) rfl
theorem dX12_even_40 : decode cX12_even 40 = .ok (.iconst 0, 1) := dk_3 (dw rcX12_even_0 23 rfl)
noncomputable def rbX12_even_41 : List (Nat × List Nat) := [(41, [54, 6]), (43, [21, 4]), (45, [54, 7]), (47, [21, 7]), (49, [17, 1, 144]), (52, [162, 0, 26]), (55, [42]), (56, [180, 0, 115]), (59, [21, 7]), (61, [51]), (62, [153, 0, 16]), (65, [132, 6, 1]), (68, [21, 7]), (70, [21, 5]), (72, [96]), (73, [54, 7]), (75, [167, 255, 228]), (78, [21, 6]), (80, [172])]
theorem rcX12_even_41 : dgo (lb cX12_even) 0 rbX12_even_41 = true := by decide +kernel
theorem dX12_even_41 : decode cX12_even 41 = .ok (.istore 6, 2) := dk_54 (dw rcX12_even_41 0 rfl)
theorem dX12_even_43 : decode cX12_even 43 = .ok (.iload 4, 2) := dk_21 (dw rcX12_even_41 1 rfl)
theorem dX12_even_45 : decode cX12_even 45 = .ok (.istore 7, 2) := dk_54 (dw rcX12_even_41 2 rfl)
theorem dX12_even_47 : decode cX12_even 47 = .ok (.iload 7, 2) := dk_21 (dw rcX12_even_41 3 rfl)
theorem dX12_even_49 : decode cX12_even 49 = .ok (.sipush 400, 3) := dk_17 (dw rcX12_even_41 4 rfl) rfl
theorem dX12_even_52 : decode cX12_even 52 = .ok (.if_icmp .ge 26, 3) := dk_162 (dw rcX12_even_41 5 rfl) rfl
theorem dX12_even_55 : decode cX12_even 55 = .ok (.aload_n 0, 1) := dk_42 (dw rcX12_even_41 6 rfl)
theorem dX12_even_56 : decode cX12_even 56 = .ok (.getfield 115, 3) := dk_180 (dw rcX12_even_41 7 rfl) rfl
theorem dX12_even_59 : decode cX12_even 59 = .ok (.iload 7, 2) := dk_21 (dw rcX12_even_41 8 rfl)
theorem dX12_even_61 : decode cX12_even 61 = .ok (.baload, 1) := dk_51 (dw rcX12_even_41 9 rfl)
theorem dX12_even_62 : decode cX12_even 62 = .ok (.ifCond .eq 16, 3) := dk_153 (dw rcX12_even_41 10 rfl) rfl
theorem dX12_even_65 : decode cX12_even 65 = .ok (.iinc 6 1, 3) := dk_132 (dw rcX12_even_41 11 rfl) rfl
theorem dX12_even_68 : decode cX12_even 68 = .ok (.iload 7, 2) := dk_21 (dw rcX12_even_41 12 rfl)
theorem dX12_even_70 : decode cX12_even 70 = .ok (.iload 5, 2) := dk_21 (dw rcX12_even_41 13 rfl)
theorem dX12_even_72 : decode cX12_even 72 = .ok (.iadd, 1) := dk_96 (dw rcX12_even_41 14 rfl)
theorem dX12_even_73 : decode cX12_even 73 = .ok (.istore 7, 2) := dk_54 (dw rcX12_even_41 15 rfl)
theorem dX12_even_75 : decode cX12_even 75 = .ok (.goto (-28), 3) := dk_167 (dw rcX12_even_41 16 rfl) rfl
theorem dX12_even_78 : decode cX12_even 78 = .ok (.iload 6, 2) := dk_21 (dw rcX12_even_41 17 rfl)
theorem dX12_even_80 : decode cX12_even 80 = .ok (.ireturn, 1) := dk_172 (dw rcX12_even_41 18 rfl)
noncomputable def rbX12_evenest_0 : List (Nat × List Nat) := [(0, [42]), (1, [27]), (2, [28]), (3, [29]), (4, [182, 1, 234]), (7, [153, 0, 13]), (10, [21, 4]), (12, [3]), (13, [4]), (14, [184, 1, 193]), (17, [154, 0, 5]), (20, [2]), (21, [172]), (22, [42]), (23, [27]), (24, [28]), (25, [29]), (26, [182, 1, 237]), (29, [3]), (30, [54, 5]), (32, [21, 5]), (34, [42]), (35, [180, 1, 222]), (38, [42])]
theorem rcX12_evenest_0 : dgo (lb cX12_evenest) 0 rbX12_evenest_0 = true := by decide +kernel
theorem dX12_evenest_0 : decode cX12_evenest 0 = .ok (.aload_n 0, 1) := dk_42 (dw rcX12_evenest_0 0 rfl)
theorem dX12_evenest_1 : decode cX12_evenest 1 = .ok (.iload_n 1, 1) := dk_27 (dw rcX12_evenest_0 1 rfl)
theorem dX12_evenest_2 : decode cX12_evenest 2 = .ok (.iload_n 2, 1) := dk_28 (dw rcX12_evenest_0 2 rfl)
theorem dX12_evenest_3 : decode cX12_evenest 3 = .ok (.iload_n 3, 1) := dk_29 (dw rcX12_evenest_0 3 rfl)
theorem dX12_evenest_4 : decode cX12_evenest 4 = .ok (.invokevirtual 490, 3) := dk_182 (dw rcX12_evenest_0 4 rfl) rfl
theorem dX12_evenest_7 : decode cX12_evenest 7 = .ok (.ifCond .eq 13, 3) := dk_153 (dw rcX12_evenest_0 5 rfl) rfl
theorem dX12_evenest_10 : decode cX12_evenest 10 = .ok (.iload 4, 2) := dk_21 (dw rcX12_evenest_0 6 rfl)
theorem dX12_evenest_12 : decode cX12_evenest 12 = .ok (.iconst 0, 1) := dk_3 (dw rcX12_evenest_0 7 rfl)
theorem dX12_evenest_13 : decode cX12_evenest 13 = .ok (.iconst 1, 1) := dk_4 (dw rcX12_evenest_0 8 rfl)
theorem dX12_evenest_14 : decode cX12_evenest 14 = .ok (.invokestatic 449, 3) := dk_184 (dw rcX12_evenest_0 9 rfl) rfl
theorem dX12_evenest_17 : decode cX12_evenest 17 = .ok (.ifCond .ne 5, 3) := dk_154 (dw rcX12_evenest_0 10 rfl) rfl
theorem dX12_evenest_20 : decode cX12_evenest 20 = .ok (.iconst (-1), 1) := dk_2 (dw rcX12_evenest_0 11 rfl)
theorem dX12_evenest_21 : decode cX12_evenest 21 = .ok (.ireturn, 1) := dk_172 (dw rcX12_evenest_0 12 rfl)
theorem dX12_evenest_22 : decode cX12_evenest 22 = .ok (.aload_n 0, 1) := dk_42 (dw rcX12_evenest_0 13 rfl)
theorem dX12_evenest_23 : decode cX12_evenest 23 = .ok (.iload_n 1, 1) := dk_27 (dw rcX12_evenest_0 14 rfl)
theorem dX12_evenest_24 : decode cX12_evenest 24 = .ok (.iload_n 2, 1) := dk_28 (dw rcX12_evenest_0 15 rfl)
theorem dX12_evenest_25 : decode cX12_evenest 25 = .ok (.iload_n 3, 1) := dk_29 (dw rcX12_evenest_0 16 rfl)
theorem dX12_evenest_26 : decode cX12_evenest 26 = .ok (.invokevirtual 493, 3) := dk_182 (dw rcX12_evenest_0 17 rfl) rfl
theorem dX12_evenest_29 : decode cX12_evenest 29 = .ok (.iconst 0, 1) := dk_3 (dw rcX12_evenest_0 18 rfl)
theorem dX12_evenest_30 : decode cX12_evenest 30 = .ok (.istore 5, 2) := dk_54 (dw rcX12_evenest_0 19 rfl)
theorem dX12_evenest_32 : decode cX12_evenest 32 = .ok (.iload 5, 2) := dk_21 (dw rcX12_evenest_0 20 rfl)
theorem dX12_evenest_34 : decode cX12_evenest 34 = .ok (.aload_n 0, 1) := dk_42 (dw rcX12_evenest_0 21 rfl)
theorem dX12_evenest_35 : decode cX12_evenest 35 = .ok (.getfield 478, 3) := dk_180 (dw rcX12_evenest_0 22 rfl) rfl
theorem dX12_evenest_38 : decode cX12_evenest 38 = .ok (.aload_n 0, 1) := dk_42 (dw rcX12_evenest_0 23 rfl)
noncomputable def rbX12_evenest_39 : List (Nat × List Nat) := [(39, [180, 1, 219]), (42, [100]), (43, [163, 0, 60]), (46, [42]), (47, [180, 1, 219]), (50, [54, 6]), (52, [21, 6]), (54, [21, 5]), (56, [96]), (57, [42]), (58, [180, 1, 222]), (61, [163, 0, 36]), (64, [42]), (65, [21, 6]), (67, [21, 6]), (69, [21, 5]), (71, [96]), (72, [182, 2, 14]), (75, [153, 0, 16]), (78, [21, 4]), (80, [154, 0, 8]), (83, [21, 5]), (85, [167, 0, 5]), (88, [21, 6])]
theorem rcX12_evenest_39 : dgo (lb cX12_evenest) 0 rbX12_evenest_39 = true := by decide +kernel
theorem dX12_evenest_39 : decode cX12_evenest 39 = .ok (.getfield 475, 3) := dk_180 (dw rcX12_evenest_39 0 rfl) rfl
theorem dX12_evenest_42 : decode cX12_evenest 42 = .ok (.isub, 1) := dk_100 (dw rcX12_evenest_39 1 rfl)
theorem dX12_evenest_43 : decode cX12_evenest 43 = .ok (.if_icmp .gt 60, 3) := dk_163 (dw rcX12_evenest_39 2 rfl) rfl
theorem dX12_evenest_46 : decode cX12_evenest 46 = .ok (.aload_n 0, 1) := dk_42 (dw rcX12_evenest_39 3 rfl)
theorem dX12_evenest_47 : decode cX12_evenest 47 = .ok (.getfield 475, 3) := dk_180 (dw rcX12_evenest_39 4 rfl) rfl
theorem dX12_evenest_50 : decode cX12_evenest 50 = .ok (.istore 6, 2) := dk_54 (dw rcX12_evenest_39 5 rfl)
theorem dX12_evenest_52 : decode cX12_evenest 52 = .ok (.iload 6, 2) := dk_21 (dw rcX12_evenest_39 6 rfl)
theorem dX12_evenest_54 : decode cX12_evenest 54 = .ok (.iload 5, 2) := dk_21 (dw rcX12_evenest_39 7 rfl)
theorem dX12_evenest_56 : decode cX12_evenest 56 = .ok (.iadd, 1) := dk_96 (dw rcX12_evenest_39 8 rfl)
theorem dX12_evenest_57 : decode cX12_evenest 57 = .ok (.aload_n 0, 1) := dk_42 (dw rcX12_evenest_39 9 rfl)
theorem dX12_evenest_58 : decode cX12_evenest 58 = .ok (.getfield 478, 3) := dk_180 (dw rcX12_evenest_39 10 rfl) rfl
theorem dX12_evenest_61 : decode cX12_evenest 61 = .ok (.if_icmp .gt 36, 3) := dk_163 (dw rcX12_evenest_39 11 rfl) rfl
theorem dX12_evenest_64 : decode cX12_evenest 64 = .ok (.aload_n 0, 1) := dk_42 (dw rcX12_evenest_39 12 rfl)
theorem dX12_evenest_65 : decode cX12_evenest 65 = .ok (.iload 6, 2) := dk_21 (dw rcX12_evenest_39 13 rfl)
theorem dX12_evenest_67 : decode cX12_evenest 67 = .ok (.iload 6, 2) := dk_21 (dw rcX12_evenest_39 14 rfl)
theorem dX12_evenest_69 : decode cX12_evenest 69 = .ok (.iload 5, 2) := dk_21 (dw rcX12_evenest_39 15 rfl)
theorem dX12_evenest_71 : decode cX12_evenest 71 = .ok (.iadd, 1) := dk_96 (dw rcX12_evenest_39 16 rfl)
theorem dX12_evenest_72 : decode cX12_evenest 72 = .ok (.invokevirtual 526, 3) := dk_182 (dw rcX12_evenest_39 17 rfl) rfl
theorem dX12_evenest_75 : decode cX12_evenest 75 = .ok (.ifCond .eq 16, 3) := dk_153 (dw rcX12_evenest_39 18 rfl) rfl
theorem dX12_evenest_78 : decode cX12_evenest 78 = .ok (.iload 4, 2) := dk_21 (dw rcX12_evenest_39 19 rfl)
theorem dX12_evenest_80 : decode cX12_evenest 80 = .ok (.ifCond .ne 8, 3) := dk_154 (dw rcX12_evenest_39 20 rfl) rfl
theorem dX12_evenest_83 : decode cX12_evenest 83 = .ok (.iload 5, 2) := dk_21 (dw rcX12_evenest_39 21 rfl)
theorem dX12_evenest_85 : decode cX12_evenest 85 = .ok (.goto 5, 3) := dk_167 (dw rcX12_evenest_39 22 rfl) rfl
theorem dX12_evenest_88 : decode cX12_evenest 88 = .ok (.iload 6, 2) := dk_21 (dw rcX12_evenest_39 23 rfl)
noncomputable def rbX12_evenest_90 : List (Nat × List Nat) := [(90, [172]), (91, [132, 6, 1]), (94, [167, 255, 214]), (97, [132, 5, 1]), (100, [167, 255, 188]), (103, [2]), (104, [172])]
theorem rcX12_evenest_90 : dgo (lb cX12_evenest) 0 rbX12_evenest_90 = true := by decide +kernel
theorem dX12_evenest_90 : decode cX12_evenest 90 = .ok (.ireturn, 1) := dk_172 (dw rcX12_evenest_90 0 rfl)
theorem dX12_evenest_91 : decode cX12_evenest 91 = .ok (.iinc 6 1, 3) := dk_132 (dw rcX12_evenest_90 1 rfl) rfl
theorem dX12_evenest_94 : decode cX12_evenest 94 = .ok (.goto (-42), 3) := dk_167 (dw rcX12_evenest_90 2 rfl) rfl
theorem dX12_evenest_97 : decode cX12_evenest 97 = .ok (.iinc 5 1, 3) := dk_132 (dw rcX12_evenest_90 3 rfl) rfl
theorem dX12_evenest_100 : decode cX12_evenest 100 = .ok (.goto (-68), 3) := dk_167 (dw rcX12_evenest_90 4 rfl) rfl
theorem dX12_evenest_103 : decode cX12_evenest 103 = .ok (.iconst (-1), 1) := dk_2 (dw rcX12_evenest_90 5 rfl)
theorem dX12_evenest_104 : decode cX12_evenest 104 = .ok (.ireturn, 1) := dk_172 (dw rcX12_evenest_90 6 rfl)
noncomputable def rbX12_evens_0 : List (Nat × List Nat) := [(0, [42]), (1, [3]), (2, [181, 1, 190]), (5, [42]), (6, [27]), (7, [28]), (8, [29]), (9, [182, 1, 234]), (12, [154, 0, 5]), (15, [2]), (16, [172]), (17, [42]), (18, [27]), (19, [28]), (20, [29]), (21, [182, 1, 237]), (24, [42]), (25, [180, 1, 219]), (28, [54, 4]), (30, [21, 4]), (32, [42]), (33, [180, 1, 222]), (36, [163, 0, 56]), (39, [3])]
theorem rcX12_evens_0 : dgo (lb cX12_evens) 0 rbX12_evens_0 = true := by decide +kernel
theorem dX12_evens_0 : decode cX12_evens 0 = .ok (.aload_n 0, 1) := dk_42 (dw rcX12_evens_0 0 rfl)
theorem dX12_evens_1 : decode cX12_evens 1 = .ok (.iconst 0, 1) := dk_3 (dw rcX12_evens_0 1 rfl)
theorem dX12_evens_2 : decode cX12_evens 2 = .ok (.putfield 446, 3) := dk_181 (dw rcX12_evens_0 2 rfl) rfl
theorem dX12_evens_5 : decode cX12_evens 5 = .ok (.aload_n 0, 1) := dk_42 (dw rcX12_evens_0 3 rfl)
theorem dX12_evens_6 : decode cX12_evens 6 = .ok (.iload_n 1, 1) := dk_27 (dw rcX12_evens_0 4 rfl)
theorem dX12_evens_7 : decode cX12_evens 7 = .ok (.iload_n 2, 1) := dk_28 (dw rcX12_evens_0 5 rfl)
theorem dX12_evens_8 : decode cX12_evens 8 = .ok (.iload_n 3, 1) := dk_29 (dw rcX12_evens_0 6 rfl)
theorem dX12_evens_9 : decode cX12_evens 9 = .ok (.invokevirtual 490, 3) := dk_182 (dw rcX12_evens_0 7 rfl) rfl
theorem dX12_evens_12 : decode cX12_evens 12 = .ok (.ifCond .ne 5, 3) := dk_154 (dw rcX12_evens_0 8 rfl) rfl
theorem dX12_evens_15 : decode cX12_evens 15 = .ok (.iconst (-1), 1) := dk_2 (dw rcX12_evens_0 9 rfl)
theorem dX12_evens_16 : decode cX12_evens 16 = .ok (.ireturn, 1) := dk_172 (dw rcX12_evens_0 10 rfl)
theorem dX12_evens_17 : decode cX12_evens 17 = .ok (.aload_n 0, 1) := dk_42 (dw rcX12_evens_0 11 rfl)
theorem dX12_evens_18 : decode cX12_evens 18 = .ok (.iload_n 1, 1) := dk_27 (dw rcX12_evens_0 12 rfl)
theorem dX12_evens_19 : decode cX12_evens 19 = .ok (.iload_n 2, 1) := dk_28 (dw rcX12_evens_0 13 rfl)
theorem dX12_evens_20 : decode cX12_evens 20 = .ok (.iload_n 3, 1) := dk_29 (dw rcX12_evens_0 14 rfl)
theorem dX12_evens_21 : decode cX12_evens 21 = .ok (.invokevirtual 493, 3) := dk_182 (dw rcX12_evens_0 15 rfl) rfl
theorem dX12_evens_24 : decode cX12_evens 24 = .ok (.aload_n 0, 1) := dk_42 (dw rcX12_evens_0 16 rfl)
theorem dX12_evens_25 : decode cX12_evens 25 = .ok (.getfield 475, 3) := dk_180 (dw rcX12_evens_0 17 rfl) rfl
theorem dX12_evens_28 : decode cX12_evens 28 = .ok (.istore 4, 2) := dk_54 (dw rcX12_evens_0 18 rfl)
theorem dX12_evens_30 : decode cX12_evens 30 = .ok (.iload 4, 2) := dk_21 (dw rcX12_evens_0 19 rfl)
theorem dX12_evens_32 : decode cX12_evens 32 = .ok (.aload_n 0, 1) := dk_42 (dw rcX12_evens_0 20 rfl)
theorem dX12_evens_33 : decode cX12_evens 33 = .ok (.getfield 478, 3) := dk_180 (dw rcX12_evens_0 21 rfl) rfl
theorem dX12_evens_36 : decode cX12_evens 36 = .ok (.if_icmp .gt 56, 3) := dk_163 (dw rcX12_evens_0 22 rfl) rfl
theorem dX12_evens_39 : decode cX12_evens 39 = .ok (.iconst 0, 1) := dk_3 (dw rcX12_evens_0 23 rfl)
noncomputable def rbX12_evens_40 : List (Nat × List Nat) := [(40, [54, 5]), (42, [3]), (43, [54, 6]), (45, [21, 6]), (47, [42]), (48, [180, 1, 222]), (51, [162, 0, 24]), (54, [21, 5]), (56, [154, 0, 19]), (59, [42]), (60, [21, 6]), (62, [21, 4]), (64, [182, 2, 17]), (67, [54, 5]), (69, [132, 6, 1]), (72, [167, 255, 229]), (75, [21, 5]), (77, [153, 0, 9]), (80, [42]), (81, [21, 4]), (83, [182, 2, 0]), (86, [132, 4, 1]), (89, [167, 255, 197]), (92, [42])]
theorem rcX12_evens_40 : dgo (lb cX12_evens) 0 rbX12_evens_40 = true := by decide +kernel
theorem dX12_evens_40 : decode cX12_evens 40 = .ok (.istore 5, 2) := dk_54 (dw rcX12_evens_40 0 rfl)
theorem dX12_evens_42 : decode cX12_evens 42 = .ok (.iconst 0, 1) := dk_3 (dw rcX12_evens_40 1 rfl)
theorem dX12_evens_43 : decode cX12_evens 43 = .ok (.istore 6, 2) := dk_54 (dw rcX12_evens_40 2 rfl)
theorem dX12_evens_45 : decode cX12_evens 45 = .ok (.iload 6, 2) := dk_21 (dw rcX12_evens_40 3 rfl)
theorem dX12_evens_47 : decode cX12_evens 47 = .ok (.aload_n 0, 1) := dk_42 (dw rcX12_evens_40 4 rfl)
theorem dX12_evens_48 : decode cX12_evens 48 = .ok (.getfield 478, 3) := dk_180 (dw rcX12_evens_40 5 rfl) rfl
theorem dX12_evens_51 : decode cX12_evens 51 = .ok (.if_icmp .ge 24, 3) := dk_162 (dw rcX12_evens_40 6 rfl) rfl
theorem dX12_evens_54 : decode cX12_evens 54 = .ok (.iload 5, 2) := dk_21 (dw rcX12_evens_40 7 rfl)
theorem dX12_evens_56 : decode cX12_evens 56 = .ok (.ifCond .ne 19, 3) := dk_154 (dw rcX12_evens_40 8 rfl) rfl
theorem dX12_evens_59 : decode cX12_evens 59 = .ok (.aload_n 0, 1) := dk_42 (dw rcX12_evens_40 9 rfl)
theorem dX12_evens_60 : decode cX12_evens 60 = .ok (.iload 6, 2) := dk_21 (dw rcX12_evens_40 10 rfl)
theorem dX12_evens_62 : decode cX12_evens 62 = .ok (.iload 4, 2) := dk_21 (dw rcX12_evens_40 11 rfl)
theorem dX12_evens_64 : decode cX12_evens 64 = .ok (.invokevirtual 529, 3) := dk_182 (dw rcX12_evens_40 12 rfl) rfl
theorem dX12_evens_67 : decode cX12_evens 67 = .ok (.istore 5, 2) := dk_54 (dw rcX12_evens_40 13 rfl)
theorem dX12_evens_69 : decode cX12_evens 69 = .ok (.iinc 6 1, 3) := dk_132 (dw rcX12_evens_40 14 rfl) rfl
theorem dX12_evens_72 : decode cX12_evens 72 = .ok (.goto (-27), 3) := dk_167 (dw rcX12_evens_40 15 rfl) rfl
theorem dX12_evens_75 : decode cX12_evens 75 = .ok (.iload 5, 2) := dk_21 (dw rcX12_evens_40 16 rfl)
theorem dX12_evens_77 : decode cX12_evens 77 = .ok (.ifCond .eq 9, 3) := dk_153 (dw rcX12_evens_40 17 rfl) rfl
theorem dX12_evens_80 : decode cX12_evens 80 = .ok (.aload_n 0, 1) := dk_42 (dw rcX12_evens_40 18 rfl)
theorem dX12_evens_81 : decode cX12_evens 81 = .ok (.iload 4, 2) := dk_21 (dw rcX12_evens_40 19 rfl)
theorem dX12_evens_83 : decode cX12_evens 83 = .ok (.invokevirtual 512, 3) := dk_182 (dw rcX12_evens_40 20 rfl) rfl
theorem dX12_evens_86 : decode cX12_evens 86 = .ok (.iinc 4 1, 3) := dk_132 (dw rcX12_evens_40 21 rfl) rfl
theorem dX12_evens_89 : decode cX12_evens 89 = .ok (.goto (-59), 3) := dk_167 (dw rcX12_evens_40 22 rfl) rfl
theorem dX12_evens_92 : decode cX12_evens 92 = .ok (.aload_n 0, 1) := dk_42 (dw rcX12_evens_40 23 rfl)
noncomputable def rbX12_evens_93 : List (Nat × List Nat) := [(93, [180, 1, 190]), (96, [172])]
theorem rcX12_evens_93 : dgo (lb cX12_evens) 0 rbX12_evens_93 = true := by decide +kernel
theorem dX12_evens_93 : decode cX12_evens 93 = .ok (.getfield 446, 3) := dk_180 (dw rcX12_evens_93 0 rfl) rfl
theorem dX12_evens_96 : decode cX12_evens 96 = .ok (.ireturn, 1) := dk_172 (dw rcX12_evens_93 1 rfl)
set_option maxHeartbeats 4000000 in
set_option maxRecDepth 100000 in
theorem n_comesToEnd (l : Launch) (D : va_G) (k : KT) (A : Nat → Prop) (a : Nat → Nat) (z : SK) (G : GS) (p0 : Int32) (p1 : Int32) (ha_p0 : 0 ≤ p0.toInt ∧ p0.toInt ≤ 60) (ha_p1 : 1 ≤ p1.toInt ∧ p1.toInt ≤ 60) : Met l yX12_comesToEnd (WS yX12_comesToEnd cX12_comesToEnd 4 (some .boolean)) ({ frames := 2, cells := 0, slots := 0, locals := 42 }) (va_Pc [.ref (a 66), .int p0, .int p1] (cW D k A a z G)) (va_Qi (fun (r : Int32) (G1 : GS) => Q_comesToEnd p0 p1 G r G1) (fun (G1 : GS) t => Wd D k A a G1 t.heap) A) 0 0 A := by
  refine Met.ofW (cc := cX12_comesToEnd) (maxL := 4) (ret := (some .boolean)) (by decide) rfl ?_
  intro p e s m args below meth c s₁ B hml hv
  obtain ⟨rfl, hW, hB_G, hK, hZ⟩ := hv
  have hx := B.exec
  have hb := B.bytes
  have hr := B.returns
  have hts := atoms_spec (ws := WS yX12_comesToEnd cX12_comesToEnd 4 (some .boolean)) B.pre
  have hgd : ∀ w ∈ gd, w ∈ WS yX12_comesToEnd cX12_comesToEnd 4 (some .boolean) := fun w h => List.mem_cons_of_mem _ h
  have hg : ∀ w ∈ gd, w.before _ s = true := fun w h => hts w (hgd w h)
  have hown : s.vm.findClass RX12 = some m.cls := findClass_of_methodNamed B.named
  have hS : va_S A s.heap s.heap [] := va_S.rf
  have hF : Fr [] [] G G := Fr.rf
  have hl := lv_entry ([.ref (a 66), .int p0, .int p1]) (n := 4) (Nat.le_of_ble_eq_true rfl)
  rw [lg_entry_eq]
  generalize (lg_sl ([.ref (a 66), .int p0, .int p1]) ++ List.replicate (4 - (lg_sl ([.ref (a 66), .int p0, .int p1])).length) Slot.unset).toArray = ls at hl ⊢
  have hl : lv_has ls 4 [(0, .ref (a 66)), (1, .int p0), (2, .int p1)] := hl
  refine lv_iload_n hx hb dX12_comesToEnd_0 rfl (lv_at hl 1 rfl) ?_
  refine lv_istore_n (lv' := [(3, .int p0), (0, .ref (a 66)), (1, .int p0), (2, .int p1)]) hx hb dX12_comesToEnd_1 rfl hl (lt_b rfl) rfl (fun ls hl => ?_)
  refine loop_N (Inv := fun n H locs ls => ∃ (G_1 : GS) (x_5 : Int32), (n : Int) = 511 - x_5.toInt ∧ (0 ≤ x_5.toInt ∧ x_5.toInt ≤ 511) ∧ Rc (St_n_comesToEnd_1 p1) (p0, G) (x_5, G_1) ∧ Wd D k A a G_1 H ∧ Bd G_1 ∧ Fr [] [] G G_1 ∧ Fr [] [] G G_1 ∧ va_S A s.heap H locs ∧ lv_has ls 4 [(3, .int x_5), (0, .ref (a 66)), (2, .int p1)]) (fun n_4 H locs ls ih_3 hI => ?_) (511 - p0.toInt : Int).toNat ⟨G, p0, (Int.toNat_of_nonneg ((by first | exact ok_1106 ha_p0.2 | omega))), ⟨(by first | exact ha_p0.1 | omega), (by first | exact ok_1107 ha_p0.2 | omega)⟩, Rc.rf, hW, hB_G, hF, Fr.rf, hS, lv_sub hl [0, 1, 3] rfl⟩
  obtain ⟨G_1, x_5, hn_8, f_7, hX_6, hW, hB_G_1, hF, hq_2, hS, hl⟩ := hI
  refine lv_aload_n hx hb dX12_comesToEnd_2 rfl (lv_at hl 1 rfl) ?_
  refine S_getR (n := 98) (C := RX12) (T := TX12) (N := 89) hx hb hg iX12 hown hK hW kd_66 rfl 58 (lt_b rfl) (hg (Cond.fieldLink RX12 115 "SlabWalkModel" "lawful" "[Z") m1372) (fun _ h9 => h9) rfl dX12_comesToEnd_3 ?_
  refine lv_iload_n hx hb dX12_comesToEnd_6 rfl (lv_at hl 0 rfl) ?_
  refine S_zald hx hb hK hW kd_98 (vin ((by first | exact f_7.1 | omega)) ((by first | exact ok_753 f_7.2 | omega))) dX12_comesToEnd_7 (fun y_9 ey_9 => ?_)
  have ty_9 := hB_G_1.law ey_9
  refine lv_if_eq (tgt := 26) hx hb dX12_comesToEnd_8 rfl (fun c_10 => ?_) (fun c_10 => ?_)
  · have c_10 : y_9.toInt = 0 := xI_eq rfl rfl c_10
    refine lv_aload_n hx hb dX12_comesToEnd_26 rfl (lv_at hl 1 rfl) ?_
    refine S_getR (n := 98) (C := RX12) (T := TX12) (N := 89) hx hb hg iX12 hown hK hW kd_66 rfl 58 (lt_b rfl) (hg (Cond.fieldLink RX12 115 "SlabWalkModel" "lawful" "[Z") m1372) (fun _ h9 => h9) rfl dX12_comesToEnd_27 ?_
    refine lv_iload_n hx hb dX12_comesToEnd_30 rfl (lv_at hl 0 rfl) ?_
    refine S_zald hx hb hK hW kd_98 (vin ((by first | exact f_7.1 | omega)) ((by first | exact ok_753 f_7.2 | omega))) dX12_comesToEnd_31 (fun y_11 ey_11 => ?_)
    have ty_11 := hB_G_1.law ey_11
    exact W.zret (v := y_11) hx hb hr (nar_z ((by first | (clear ha_p0 ha_p1 hn_8 f_7 c_10; omega) | omega)) ((by first | (clear ha_p0 ha_p1 hn_8 f_7 c_10; omega) | omega))) (fun t ht _ => ⟨⟨y_11, G_1, rfl, (Q_comesToEnd_mk ⟨hB_G_1, hF, ⟨(by first | (clear ha_p0 ha_p1 hn_8 f_7 c_10; omega) | omega), (by first | (clear ha_p0 ha_p1 hn_8 f_7 c_10; omega) | omega)⟩, ⟨x_5, G_1, hX_6, f_7, hB_G_1, hq_2, ⟨y_9, ey_9, (Or.inl ⟨c_10, ⟨y_11, ey_11, ⟨rfl, rfl⟩⟩⟩)⟩⟩⟩), wd_t ht hW⟩, hS.F ht⟩) hS.2.2 dX12_comesToEnd_32
  · have c_10 : y_9.toInt ≠ 0 := xI_ne rfl rfl c_10
    refine lv_aload_n hx hb dX12_comesToEnd_11 rfl (lv_at hl 1 rfl) ?_
    refine lv_iload_n hx hb dX12_comesToEnd_12 rfl (lv_at hl 0 rfl) ?_
    have b_12 : 0 ≤ (G.1 66 59).toInt ∧ (G.1 66 59).toInt ≤ 400 := bd_66_59 hB_G
    have g_13 : (G_1.1 66 59).toInt = (G.1 66 59).toInt := (congrArg Int32.toInt (show G_1.1 66 59 = (G.1 66 59) from (hq_2.i9 66 59 rfl rfl)))
    have b_14 : 0 ≤ (G.1 66 60).toInt ∧ (G.1 66 60).toInt ≤ 12 := bd_66_60 hB_G
    have g_15 : (G_1.1 66 60).toInt = (G.1 66 60).toInt := (congrArg Int32.toInt (show G_1.1 66 60 = (G.1 66 60) from (hq_2.i9 66 60 rfl rfl)))
    have b_16 : 0 ≤ (G.1 66 62).toInt ∧ (G.1 66 62).toInt ≤ 60 := bd_66_62 hB_G
    have g_17 : (G_1.1 66 62).toInt = (G.1 66 62).toInt := (congrArg Int32.toInt (show G_1.1 66 62 = (G.1 66 62) from (hq_2.i9 66 62 rfl rfl)))
    refine S_calli (va_runV (As := [.int x_5]) (rest := []) ⟨hx, hb, hml, hown, hts⟩ (n_isEnd l D k A a z G_1 x_5 ⟨(by first | exact ok_774 f_7.1 | omega), (by first | (clear ha_p0 ha_p1 hn_8 c_10 b_12 g_13 b_14 g_15 b_16 g_17; omega) | omega)⟩) (cwV 1 hts (gd_V hgd m1854 m1856 m95 m131 m1857) rfl rfl rfl hd_X12_isEnd ⟨Nat.le_of_ble_eq_true rfl, Nat.le_of_ble_eq_true rfl⟩) (pre_W hW hB_G_1 hK hZ hS kd_66 rfl) rfl rfl hl.1 rfl (lv_room (Nat.le_of_ble_eq_true rfl)) dX12_comesToEnd_13 ⟨Nat.le_of_ble_eq_true rfl, Nat.le_of_ble_eq_true rfl⟩) hS (fun r_18 G_19 H locs hpo hW hS => ?_)
    have hX_22 : Q_isEnd x_5 G_1 r_18 G_19 := hpo
    obtain ⟨hB_G_19, hq_20, f_23, ⟨d_1, d_2⟩, -⟩ := hpo
    have hF := hF.call9 hq_20 rfl rfl
    refine lv_if_ne (tgt := 26) hx hb dX12_comesToEnd_16 rfl (fun c_24 => ?_) (fun c_24 => ?_)
    · have c_24 : r_18.toInt ≠ 0 := xI_ne rfl rfl c_24
      refine lv_aload_n hx hb dX12_comesToEnd_26 rfl (lv_at hl 1 rfl) ?_
      refine S_getR (n := 98) (C := RX12) (T := TX12) (N := 89) hx hb hg iX12 hown hK hW kd_66 rfl 58 (lt_b rfl) (hg (Cond.fieldLink RX12 115 "SlabWalkModel" "lawful" "[Z") m1372) (fun _ h9 => h9) rfl dX12_comesToEnd_27 ?_
      refine lv_iload_n hx hb dX12_comesToEnd_30 rfl (lv_at hl 0 rfl) ?_
      refine S_zald hx hb hK hW kd_98 (vin ((by first | exact f_7.1 | omega)) ((by first | exact ok_753 f_7.2 | omega))) dX12_comesToEnd_31 (fun y_25 ey_25 => ?_)
      have ty_25 := hB_G_19.law ey_25
      exact W.zret (v := y_25) hx hb hr (nar_z ((by first | (clear ha_p0 ha_p1 hn_8 f_7 c_10 b_12 g_13 b_14 g_15 b_16 g_17 f_23 d_1 d_2 c_24; omega) | omega)) ((by first | (clear ha_p0 ha_p1 hn_8 f_7 c_10 b_12 g_13 b_14 g_15 b_16 g_17 f_23 d_1 d_2 c_24; omega) | omega))) (fun t ht _ => ⟨⟨y_25, G_19, rfl, (Q_comesToEnd_mk ⟨hB_G_19, hF, ⟨(by first | (clear ha_p0 ha_p1 hn_8 f_7 c_10 b_12 g_13 b_14 g_15 b_16 g_17 f_23 d_1 d_2 c_24; omega) | omega), (by first | (clear ha_p0 ha_p1 hn_8 f_7 c_10 b_12 g_13 b_14 g_15 b_16 g_17 f_23 d_1 d_2 c_24; omega) | omega)⟩, ⟨x_5, G_1, hX_6, f_7, hB_G_1, hq_2, ⟨y_9, ey_9, (Or.inr ⟨c_10, ⟨r_18, G_19, hX_22, ⟨c_24, ⟨y_25, ey_25, ⟨rfl, rfl⟩⟩⟩⟩⟩)⟩⟩⟩), wd_t ht hW⟩, hS.F ht⟩) hS.2.2 dX12_comesToEnd_32
    · have c_24 : r_18.toInt = 0 := xI_eq rfl rfl c_24
      have d_3 := d_1 c_24
      refine lv_iload_n hx hb dX12_comesToEnd_19 rfl (lv_at hl 0 rfl) ?_
      refine lv_iload_n hx hb dX12_comesToEnd_20 rfl (lv_at hl 2 rfl) ?_
      refine lv_iadd hx hb dX12_comesToEnd_21 ?_
      refine lv_topi (fun y_26 ey_26 => ?_)
      have ty_26 : y_26.toInt = x_5.toInt + p1.toInt := xI_add rfl rfl ey_26 ((by first | exact ok_542 ha_p1.1 f_7.1 | omega)) ((by first | exact ok_1108 ha_p1.2 f_7.2 | omega))
      refine lv_istore_n (lv' := [(3, .int y_26), (0, .ref (a 66)), (2, .int p1)]) hx hb dX12_comesToEnd_22 rfl hl (lt_b rfl) rfl (fun ls hl => ?_)
      refine lv_goto (tgt := 2) hx hb dX12_comesToEnd_23 rfl ?_
      exact ih_3 (511 - y_26.toInt : Int).toNat ((by first | (clear ha_p0 c_10 d_1; omega) | omega)) _ _ _ ⟨G_19, y_26, (Int.toNat_of_nonneg ((by first | exact ok_1109 ha_p1.2 f_7.2 b_12.2 g_13 b_14.1 g_15 b_16.1 g_17 d_3 ty_26 | omega))), ⟨(by first | exact ok_545 ha_p1.1 f_7.1 ty_26 | omega), (by first | exact ok_1110 ha_p1.2 f_7.2 b_12.2 g_13 b_14.1 g_15 b_16.1 g_17 d_3 ty_26 | omega)⟩, (hX_6.st (St_n_comesToEnd_1_mk ⟨x_5, G_1, y_26, G_19, rfl, rfl, f_7, hB_G_1, ⟨y_9, ey_9, ⟨c_10, ⟨r_18, G_19, hX_22, ⟨c_24, ⟨y_26, ty_26, ⟨rfl, rfl⟩⟩⟩⟩⟩⟩⟩)), hW, hB_G_19, hF, (Fr.call9 (rs := []) (fs := []) (Fr.call9 (rs := []) (fs := []) Fr.rf hq_2 rfl rfl) hq_20 rfl rfl), hS, lv_sub hl [0, 1, 2] rfl⟩

set_option maxHeartbeats 4000000 in
set_option maxRecDepth 100000 in
theorem n_even (l : Launch) (D : va_G) (k : KT) (A : Nat → Prop) (a : Nat → Nat) (z : SK) (G : GS) (p0 : Int32) (p1 : Int32) (p2 : Int32) (p3 : Int32) (p4 : Int32) (hP9 : gP G = 1) : Met l yX12_even (WS yX12_even cX12_even 8 (some .int)) ({ frames := 5, cells := 0, slots := 0, locals := 117 }) (va_Pc [.ref (a 66), .int p0, .int p1, .int p2, .int p3, .int p4] (cW D k A a z G)) (va_Qi (fun (r : Int32) (G1 : GS) => Q_even p0 p1 p2 p3 p4 G r G1) (fun (G1 : GS) t => Wd D k A a G1 t.heap) A) 0 0 A := by
  refine Met.ofW (cc := cX12_even) (maxL := 8) (ret := (some .int)) (by decide) rfl ?_
  intro p e s m args below meth c s₁ B hml hv
  obtain ⟨rfl, hW, hB_G, hK, hZ⟩ := hv
  have hx := B.exec
  have hb := B.bytes
  have hr := B.returns
  have hts := atoms_spec (ws := WS yX12_even cX12_even 8 (some .int)) B.pre
  have hgd : ∀ w ∈ gd, w ∈ WS yX12_even cX12_even 8 (some .int) := fun w h => List.mem_cons_of_mem _ h
  have hg : ∀ w ∈ gd, w.before _ s = true := fun w h => hts w (hgd w h)
  have hown : s.vm.findClass RX12 = some m.cls := findClass_of_methodNamed B.named
  have hS : va_S A s.heap s.heap [] := va_S.rf
  have hF : Fr [76, 97, 98] [(66, 59), (66, 60), (66, 61), (66, 62), (66, 63)] G G := Fr.rf
  have hl := lv_entry ([.ref (a 66), .int p0, .int p1, .int p2, .int p3, .int p4]) (n := 8) (Nat.le_of_ble_eq_true rfl)
  rw [lg_entry_eq]
  generalize (lg_sl ([.ref (a 66), .int p0, .int p1, .int p2, .int p3, .int p4]) ++ List.replicate (8 - (lg_sl ([.ref (a 66), .int p0, .int p1, .int p2, .int p3, .int p4])).length) Slot.unset).toArray = ls at hl ⊢
  have hl : lv_has ls 8 [(0, .ref (a 66)), (1, .int p0), (2, .int p1), (3, .int p2), (4, .int p3), (5, .int p4)] := hl
  refine lv_aload_n hx hb dX12_even_0 rfl (lv_at hl 0 rfl) ?_
  refine lv_iload_n hx hb dX12_even_1 rfl (lv_at hl 1 rfl) ?_
  refine lv_iload_n hx hb dX12_even_2 rfl (lv_at hl 2 rfl) ?_
  refine lv_iload_n hx hb dX12_even_3 rfl (lv_at hl 3 rfl) ?_
  refine S_calli (va_runV (As := [.int p0, .int p1, .int p2]) (rest := []) ⟨hx, hb, hml, hown, hts⟩ (n_isAsked l D k A a z G p0 p1 p2 ) (cwV 3 hts (gd_V hgd m1826 m1828 m89 m131 m1829) rfl rfl rfl hd_X12_isAsked ⟨Nat.le_of_ble_eq_true rfl, Nat.le_of_ble_eq_true rfl⟩) (pre_W hW hB_G hK hZ hS kd_66 rfl) rfl rfl hl.1 rfl (lv_room (Nat.le_of_ble_eq_true rfl)) dX12_even_4 ⟨Nat.le_of_ble_eq_true rfl, Nat.le_of_ble_eq_true rfl⟩) hS (fun r_1 G_2 H locs hpo hW hS => ?_)
  have hX_5 : Q_isAsked p0 p1 p2 G r_1 G_2 := hpo
  obtain ⟨hB_G_2, hq_3, f_6, hp_4, -⟩ := hpo
  have hF := hF.call9 hq_3 rfl rfl
  refine lv_if_eq (tgt := 31) hx hb dX12_even_7 rfl (fun c_7 => ?_) (fun c_7 => ?_)
  · have c_7 : r_1.toInt = 0 := xI_eq rfl rfl c_7
    refine ic_m1 hx hb dX12_even_31 ?_
    exact W.iret (v := (-1)) hx hb hr (fun t ht _ => ⟨⟨(-1), G_2, rfl, (Q_even_mk ⟨hB_G_2, hF, ⟨r_1, G_2, hX_5, (Or.inl ⟨c_7, ⟨rfl, rfl⟩⟩)⟩⟩), wd_t ht hW⟩, hS.F ht⟩) hS.2.2 dX12_even_32
  · have c_7 : r_1.toInt ≠ 0 := xI_ne rfl rfl c_7
    refine lv_aload_n hx hb dX12_even_10 rfl (lv_at hl 0 rfl) ?_
    refine lv_iload_n hx hb dX12_even_11 rfl (lv_at hl 2 rfl) ?_
    refine lv_iload hx hb dX12_even_12 (lv_at hl 4 rfl) ?_
    refine S_calli (va_runV (As := [.int p1, .int p3]) (rest := []) ⟨hx, hb, hml, hown, hts⟩ (n_isInch l D k A a z G_2 p1 p3 ⟨(by first | exact ok_1101 f_6.1 f_6.2 hp_4 c_7 | omega), (by first | exact ok_1102 f_6.1 f_6.2 hp_4 c_7 | omega)⟩) (cwV 2 hts (gd_V hgd m1784 m1786 m84 m131 m1787) rfl rfl rfl hd_X12_isInch ⟨Nat.le_of_ble_eq_true rfl, Nat.le_of_ble_eq_true rfl⟩) (pre_W hW hB_G_2 hK hZ hS kd_66 rfl) rfl rfl hl.1 rfl (lv_room (Nat.le_of_ble_eq_true rfl)) dX12_even_14 ⟨Nat.le_of_ble_eq_true rfl, Nat.le_of_ble_eq_true rfl⟩) hS (fun r_8 G_9 H locs hpo hW hS => ?_)
    have hX_12 : Q_isInch p1 p3 G_2 r_8 G_9 := hpo
    obtain ⟨hB_G_9, hq_10, f_13, hp_11, -⟩ := hpo
    have hF := hF.call9 hq_10 rfl rfl
    refine lv_if_eq (tgt := 31) hx hb dX12_even_17 rfl (fun c_14 => ?_) (fun c_14 => ?_)
    · have c_14 : r_8.toInt = 0 := xI_eq rfl rfl c_14
      refine ic_m1 hx hb dX12_even_31 ?_
      exact W.iret (v := (-1)) hx hb hr (fun t ht _ => ⟨⟨(-1), G_9, rfl, (Q_even_mk ⟨hB_G_9, hF, ⟨r_1, G_2, hX_5, (Or.inr ⟨c_7, ⟨r_8, G_9, hX_12, (Or.inl ⟨c_14, ⟨rfl, rfl⟩⟩)⟩⟩)⟩⟩), wd_t ht hW⟩, hS.F ht⟩) hS.2.2 dX12_even_32
    · have c_14 : r_8.toInt ≠ 0 := xI_ne rfl rfl c_14
      refine lv_iload hx hb dX12_even_20 (lv_at hl 5 rfl) ?_
      refine ic_1 hx hb dX12_even_22 ?_
      refine lv_bipush (v := 99) hx hb dX12_even_23 (by decide) ?_
      have qc_15 : (1 : Int32).toInt = 1 := rfl
      have qc_16 : (99 : Int32).toInt = 99 := rfl
      refine S_calli (va_runS (As := [.int p4, .int 1, .int 99]) (rest := []) ⟨hx, hb, hml, hown, hts⟩ (n_isIn l D k A a z G_9 p4 1 99 ) (va_cwS 3 hts (gd_S hgd m1781 m1782 m131 m1783) rfl rfl rfl hd_X12_isIn.2 ⟨Nat.le_of_ble_eq_true rfl, Nat.le_of_ble_eq_true rfl⟩) (pre_S hW hB_G_9 hK hZ hS) rfl rfl hl.1 rfl (lv_room (Nat.le_of_ble_eq_true rfl)) dX12_even_25 ⟨Nat.le_of_ble_eq_true rfl, Nat.le_of_ble_eq_true rfl⟩) hS (fun r_17 G_18 H locs hpo hW hS => ?_)
      have hX_21 : Q_isIn p4 1 99 G_9 r_17 G_18 := hpo
      obtain ⟨hB_G_18, hq_19, f_22, ⟨d_1, d_2⟩, -⟩ := hpo
      have hF := hF.call9 hq_19 rfl rfl
      refine lv_if_ne (tgt := 33) hx hb dX12_even_28 rfl (fun c_23 => ?_) (fun c_23 => ?_)
      · have c_23 : r_17.toInt ≠ 0 := xI_ne rfl rfl c_23
        refine lv_aload_n hx hb dX12_even_33 rfl (lv_at hl 0 rfl) ?_
        refine lv_iload_n hx hb dX12_even_34 rfl (lv_at hl 1 rfl) ?_
        refine lv_iload_n hx hb dX12_even_35 rfl (lv_at hl 2 rfl) ?_
        refine lv_iload_n hx hb dX12_even_36 rfl (lv_at hl 3 rfl) ?_
        have fr_24 : Fr [] [] G G_18 := (Fr.call9 (rs := []) (fs := []) (Fr.call9 (rs := []) (fs := []) (Fr.call9 (rs := []) (fs := []) Fr.rf hq_3 rfl rfl) hq_10 rfl rfl) hq_19 rfl rfl)
        have g_25 : gP G_18 = gP G := gP_fr fr_24 (gr_q rfl) (gf_q rfl)
        refine S_callv (va_runV (As := [.int p0, .int p1, .int p2]) (rest := []) ⟨hx, hb, hml, hown, hts⟩ (n_layStreet l D k A a z G_18 p0 p1 p2 ⟨(by first | exact ok_1103 f_6.1 f_6.2 hp_4 c_7 | omega), (by first | exact ok_1104 f_6.1 f_6.2 hp_4 c_7 | omega)⟩ ⟨(by first | exact ok_1101 f_6.1 f_6.2 hp_4 c_7 | omega), (by first | exact ok_1102 f_6.1 f_6.2 hp_4 c_7 | omega)⟩ ((by first | exact ok_796 hP9 g_25 | omega))) (cwV 3 hts (gd_V hgd m1834 m1836 m91 m131 m1837) rfl rfl rfl hd_X12_layStreet ⟨Nat.le_of_ble_eq_true rfl, Nat.le_of_ble_eq_true rfl⟩) (pre_W hW hB_G_18 hK hZ hS kd_66 rfl) rfl rfl hl.1 rfl (lv_room (Nat.le_of_ble_eq_true rfl)) dX12_even_37 ⟨Nat.le_of_ble_eq_true rfl, Nat.le_of_ble_eq_true rfl⟩) hS (fun G_27 H locs hpo hW hS => ?_)
        have hX_30 : Q_layStreet p0 p1 p2 G_18 G_27 := hpo
        obtain ⟨hB_G_27, hq_28, ⟨d_3, d_4, d_5, d_6, d_7, d_8⟩, -⟩ := hpo
        have hF := hF.call9 hq_28 rfl rfl
        refine ic_0 hx hb dX12_even_40 ?_
        refine lv_istore (lv' := [(6, .int 0), (0, .ref (a 66)), (1, .int p0), (2, .int p1), (3, .int p2), (4, .int p3), (5, .int p4)]) hx hb dX12_even_41 hl (lt_b rfl) rfl (fun ls hl => ?_)
        refine lv_iload hx hb dX12_even_43 (lv_at hl 5 rfl) ?_
        refine lv_istore (lv' := [(7, .int p3), (6, .int 0), (0, .ref (a 66)), (1, .int p0), (2, .int p1), (3, .int p2), (4, .int p3), (5, .int p4)]) hx hb dX12_even_45 hl (lt_b rfl) rfl (fun ls hl => ?_)
        have qc_38 : (0 : Int32).toInt = 0 := rfl
        refine loop_N (Inv := fun n H locs ls => ∃ (G_31 : GS) (x_35 : Int32) (x_36 : Int32), (n : Int) = 600 - x_35.toInt ∧ (0 ≤ x_35.toInt ∧ x_35.toInt ≤ 500) ∧ Rc (St_n_even_1 p4) (p3, 0, G_27) (x_35, x_36, G_31) ∧ Wd D k A a G_31 H ∧ Bd G_31 ∧ Fr [76, 97, 98] [(66, 59), (66, 60), (66, 61), (66, 62), (66, 63)] G G_31 ∧ Fr [] [] G_27 G_31 ∧ va_S A s.heap H locs ∧ lv_has ls 8 [(7, .int x_35), (6, .int x_36), (0, .ref (a 66)), (5, .int p4)]) (fun n_34 H locs ls ih_33 hI => ?_) (600 - p3.toInt : Int).toNat ⟨G_27, p3, 0, (Int.toNat_of_nonneg ((by first | exact ok_1111 f_13.1 f_13.2 hp_11 c_14 | omega))), ⟨(by first | exact ok_1098 f_13.1 f_13.2 hp_11 c_14 | omega), (by first | exact ok_1112 f_13.1 f_13.2 hp_11 c_14 | omega)⟩, Rc.rf, hW, hB_G_27, hF, Fr.rf, hS, lv_sub hl [0, 1, 2, 7] rfl⟩
        obtain ⟨G_31, x_35, x_36, hn_40, f_39, hX_37, hW, hB_G_31, hF, hq_32, hS, hl⟩ := hI
        refine lv_iload hx hb dX12_even_47 (lv_at hl 0 rfl) ?_
        refine lv_sipush (v := 400) hx hb dX12_even_49 (by decide) ?_
        refine lv_icmp_ge (tgt := 78) hx hb dX12_even_52 rfl (fun c_41 => ?_) (fun c_41 => ?_)
        · have c_41 : 400 ≤ x_35.toInt := xI_le rfl rfl c_41
          refine lv_iload hx hb dX12_even_78 (lv_at hl 1 rfl) ?_
          exact W.iret (v := x_36) hx hb hr (fun t ht _ => ⟨⟨x_36, G_31, rfl, (Q_even_mk ⟨hB_G_31, hF, ⟨r_1, G_2, hX_5, (Or.inr ⟨c_7, ⟨r_8, G_9, hX_12, (Or.inr ⟨c_14, ⟨r_17, G_18, hX_21, (Or.inr ⟨c_23, ⟨G_27, hX_30, ⟨x_35, x_36, G_31, hX_37, f_39, hB_G_31, hq_32, (Or.inl ⟨c_41, ⟨rfl, rfl⟩⟩)⟩⟩⟩)⟩⟩)⟩⟩)⟩⟩), wd_t ht hW⟩, hS.F ht⟩) hS.2.2 dX12_even_80
        · have c_41 : x_35.toInt < 400 := xI_nle rfl rfl c_41
          refine lv_aload_n hx hb dX12_even_55 rfl (lv_at hl 2 rfl) ?_
          refine S_getR (n := 98) (C := RX12) (T := TX12) (N := 89) hx hb hg iX12 hown hK hW kd_66 rfl 58 (lt_b rfl) (hg (Cond.fieldLink RX12 115 "SlabWalkModel" "lawful" "[Z") m1372) (fun _ h9 => h9) rfl dX12_even_56 ?_
          refine lv_iload hx hb dX12_even_59 (lv_at hl 0 rfl) ?_
          refine S_zald hx hb hK hW kd_98 (vin ((by first | exact f_39.1 | omega)) ((by first | exact ok_1113 f_39.2 | omega))) dX12_even_61 (fun y_42 ey_42 => ?_)
          have ty_42 := hB_G_31.law ey_42
          refine lv_if_eq (tgt := 78) hx hb dX12_even_62 rfl (fun c_43 => ?_) (fun c_43 => ?_)
          · have c_43 : y_42.toInt = 0 := xI_eq rfl rfl c_43
            refine lv_iload hx hb dX12_even_78 (lv_at hl 1 rfl) ?_
            exact W.iret (v := x_36) hx hb hr (fun t ht _ => ⟨⟨x_36, G_31, rfl, (Q_even_mk ⟨hB_G_31, hF, ⟨r_1, G_2, hX_5, (Or.inr ⟨c_7, ⟨r_8, G_9, hX_12, (Or.inr ⟨c_14, ⟨r_17, G_18, hX_21, (Or.inr ⟨c_23, ⟨G_27, hX_30, ⟨x_35, x_36, G_31, hX_37, f_39, hB_G_31, hq_32, (Or.inr ⟨c_41, ⟨y_42, ey_42, ⟨c_43, ⟨rfl, rfl⟩⟩⟩⟩)⟩⟩⟩)⟩⟩)⟩⟩)⟩⟩), wd_t ht hW⟩, hS.F ht⟩) hS.2.2 dX12_even_80
          · have c_43 : y_42.toInt ≠ 0 := xI_ne rfl rfl c_43
            obtain ⟨y_44, ey_44⟩ : ∃ q, q = x_36 + 1 := ⟨_, rfl⟩
            refine lv_iinc (v := y_44) (lv' := [(6, .int y_44), (7, .int x_35), (0, .ref (a 66)), (5, .int p4)]) hx hb dX12_even_65 hl (k := 1) rfl (by rw [ey_44]; rfl) (lt_b rfl) rfl (fun ls hl => ?_)
            refine lv_iload hx hb dX12_even_68 (lv_at hl 1 rfl) ?_
            refine lv_iload hx hb dX12_even_70 (lv_at hl 3 rfl) ?_
            refine lv_iadd hx hb dX12_even_72 ?_
            refine lv_topi (fun y_45 ey_45 => ?_)
            have ty_45 : y_45.toInt = x_35.toInt + p4.toInt := xI_add rfl rfl ey_45 ((by first | exact ok_1114 qc_15 f_22.1 f_22.2 d_1 c_23 f_39.1 | omega)) ((by first | exact ok_1115 qc_16 f_22.1 f_22.2 d_1 c_23 f_39.2 | omega))
            refine lv_istore (lv' := [(7, .int y_45), (6, .int y_44), (0, .ref (a 66)), (5, .int p4)]) hx hb dX12_even_73 hl (lt_b rfl) rfl (fun ls hl => ?_)
            refine lv_goto (tgt := 47) hx hb dX12_even_75 rfl ?_
            exact ih_33 (600 - y_45.toInt : Int).toNat ((by first | (clear hP9 f_6 hp_4 c_7 f_13 hp_11 c_14 g_25 d_3 d_4 d_5 d_6 d_7 d_8 c_43; omega) | omega)) _ _ _ ⟨G_31, y_45, y_44, (Int.toNat_of_nonneg ((by first | exact ok_1116 qc_16 f_22.1 f_22.2 d_1 c_23 f_39.2 ty_45 | omega))), ⟨(by first | exact ok_1117 qc_15 f_22.1 f_22.2 d_1 c_23 f_39.1 ty_45 | omega), (by first | exact ok_1118 qc_16 f_22.1 f_22.2 d_1 c_23 f_39.2 c_41 ty_45 | omega)⟩, (hX_37.st (St_n_even_1_mk ⟨x_35, x_36, G_31, y_45, y_44, G_31, rfl, rfl, f_39, hB_G_31, ⟨c_41, ⟨y_42, ey_42, ⟨c_43, ⟨y_44, ey_44, ⟨y_45, ty_45, ⟨rfl, rfl, rfl⟩⟩⟩⟩⟩⟩⟩)), hW, hB_G_31, hF, (Fr.call9 (rs := []) (fs := []) Fr.rf hq_32 rfl rfl), hS, lv_sub hl [0, 1, 2, 3] rfl⟩
      · have c_23 : r_17.toInt = 0 := xI_eq rfl rfl c_23
        refine ic_m1 hx hb dX12_even_31 ?_
        exact W.iret (v := (-1)) hx hb hr (fun t ht _ => ⟨⟨(-1), G_18, rfl, (Q_even_mk ⟨hB_G_18, hF, ⟨r_1, G_2, hX_5, (Or.inr ⟨c_7, ⟨r_8, G_9, hX_12, (Or.inr ⟨c_14, ⟨r_17, G_18, hX_21, (Or.inl ⟨c_23, ⟨rfl, rfl⟩⟩)⟩⟩)⟩⟩)⟩⟩), wd_t ht hW⟩, hS.F ht⟩) hS.2.2 dX12_even_32

set_option maxHeartbeats 4000000 in
set_option maxRecDepth 100000 in
theorem n_evens (l : Launch) (D : va_G) (k : KT) (A : Nat → Prop) (a : Nat → Nat) (z : SK) (G : GS) (p0 : Int32) (p1 : Int32) (p2 : Int32) (hP9 : gP G = 1) (hW9 : gW G = 1) : Met l yX12_evens (WS yX12_evens cX12_evens 7 (some .int)) ({ frames := 5, cells := 0, slots := 0, locals := 117 }) (va_Pc [.ref (a 66), .int p0, .int p1, .int p2] (cW D k A a z G)) (va_Qi (fun (r : Int32) (G1 : GS) => Q_evens p0 p1 p2 G r G1) (fun (G1 : GS) t => Wd D k A a G1 t.heap) A) 0 0 A := by
  refine Met.ofW (cc := cX12_evens) (maxL := 7) (ret := (some .int)) (by decide) rfl ?_
  intro p e s m args below meth c s₁ B hml hv
  obtain ⟨rfl, hW, hB_G, hK, hZ⟩ := hv
  have hx := B.exec
  have hb := B.bytes
  have hr := B.returns
  have hts := atoms_spec (ws := WS yX12_evens cX12_evens 7 (some .int)) B.pre
  have hgd : ∀ w ∈ gd, w ∈ WS yX12_evens cX12_evens 7 (some .int) := fun w h => List.mem_cons_of_mem _ h
  have hg : ∀ w ∈ gd, w.before _ s = true := fun w h => hts w (hgd w h)
  have hown : s.vm.findClass RX12 = some m.cls := findClass_of_methodNamed B.named
  have hS : va_S A s.heap s.heap [] := va_S.rf
  have hF : Fr [100, 76, 97, 98] [(66, 59), (66, 60), (66, 61), (66, 62), (66, 63), (66, 66)] G G := Fr.rf
  have hl := lv_entry ([.ref (a 66), .int p0, .int p1, .int p2]) (n := 7) (Nat.le_of_ble_eq_true rfl)
  rw [lg_entry_eq]
  generalize (lg_sl ([.ref (a 66), .int p0, .int p1, .int p2]) ++ List.replicate (7 - (lg_sl ([.ref (a 66), .int p0, .int p1, .int p2])).length) Slot.unset).toArray = ls at hl ⊢
  have hl : lv_has ls 7 [(0, .ref (a 66)), (1, .int p0), (2, .int p1), (3, .int p2)] := hl
  refine lv_aload_n hx hb dX12_evens_0 rfl (lv_at hl 0 rfl) ?_
  refine ic_0 hx hb dX12_evens_1 ?_
  refine S_putI (ty := .int) (C := RX12) (T := TX12) (N := 89) hx hb hg iX12 tyX12 tyX12_ok nmX12 hown hK hW hS kd_66 rfl 66 (lt_b rfl) (hg (Cond.fieldLink RX12 446 "SlabWalkModel" "lain" "I") m1380) (fun _ h9 => h9) rfl (by decide +kernel) rfl rfl rfl dX12_evens_2 (fun G_1 H locs eG_1 hW hS => ?_)
  have hB_G_1 : Bd G_1 := hB_G.put (V := 0) (lo := 0) (hi := 400) eG_1 rfl rfl rfl (by decide) (by decide) (hB_G.2.put eG_1 rfl)
  have hF := hF.put eG_1 (Or.inr (by decide))
  refine lv_aload_n hx hb dX12_evens_5 rfl (lv_at hl 0 rfl) ?_
  refine lv_iload_n hx hb dX12_evens_6 rfl (lv_at hl 1 rfl) ?_
  refine lv_iload_n hx hb dX12_evens_7 rfl (lv_at hl 2 rfl) ?_
  refine lv_iload_n hx hb dX12_evens_8 rfl (lv_at hl 3 rfl) ?_
  have b_2 : 0 ≤ (G.1 66 52).toInt ∧ (G.1 66 52).toInt ≤ 3 := bd_66_52 hB_G
  have g_3 : (G_1.1 66 52).toInt = (G.1 66 52).toInt := (congrArg Int32.toInt (show G_1.1 66 52 = (G.1 66 52) from (gp_ne eG_1 (by decide))))
  have b_4 : 0 ≤ (G.1 66 53).toInt ∧ (G.1 66 53).toInt ≤ 4 := bd_66_53 hB_G
  have g_5 : (G_1.1 66 53).toInt = (G.1 66 53).toInt := (congrArg Int32.toInt (show G_1.1 66 53 = (G.1 66 53) from (gp_ne eG_1 (by decide))))
  refine S_calli (va_runV (As := [.int p0, .int p1, .int p2]) (rest := []) ⟨hx, hb, hml, hown, hts⟩ (n_isAsked l D k A a z G_1 p0 p1 p2 ) (cwV 3 hts (gd_V hgd m1826 m1828 m89 m131 m1829) rfl rfl rfl hd_X12_isAsked ⟨Nat.le_of_ble_eq_true rfl, Nat.le_of_ble_eq_true rfl⟩) (pre_W hW hB_G_1 hK hZ hS kd_66 rfl) rfl rfl hl.1 rfl (lv_room (Nat.le_of_ble_eq_true rfl)) dX12_evens_9 ⟨Nat.le_of_ble_eq_true rfl, Nat.le_of_ble_eq_true rfl⟩) hS (fun r_6 G_7 H locs hpo hW hS => ?_)
  have hX_10 : Q_isAsked p0 p1 p2 G_1 r_6 G_7 := hpo
  obtain ⟨hB_G_7, hq_8, f_11, hp_9, -⟩ := hpo
  have hF := hF.call9 hq_8 rfl rfl
  refine lv_if_ne (tgt := 17) hx hb dX12_evens_12 rfl (fun c_12 => ?_) (fun c_12 => ?_)
  · have c_12 : r_6.toInt ≠ 0 := xI_ne rfl rfl c_12
    refine lv_aload_n hx hb dX12_evens_17 rfl (lv_at hl 0 rfl) ?_
    refine lv_iload_n hx hb dX12_evens_18 rfl (lv_at hl 1 rfl) ?_
    refine lv_iload_n hx hb dX12_evens_19 rfl (lv_at hl 2 rfl) ?_
    refine lv_iload_n hx hb dX12_evens_20 rfl (lv_at hl 3 rfl) ?_
    have fr_13 : Fr [] [(66, 66)] G G_7 := (Fr.call9 (rs := []) (fs := [(66, 66)]) (Fr.put (rs := []) (fs := [(66, 66)]) Fr.rf eG_1 (Or.inr (by decide))) hq_8 rfl rfl)
    have g_14 : gP G_7 = gP G := gP_fr fr_13 (gr_q rfl) (gf_q rfl)
    refine S_callv (va_runV (As := [.int p0, .int p1, .int p2]) (rest := []) ⟨hx, hb, hml, hown, hts⟩ (n_layStreet l D k A a z G_7 p0 p1 p2 ⟨(by first | exact ok_1103 f_11.1 f_11.2 hp_9 c_12 | omega), (by first | exact ok_1104 f_11.1 f_11.2 hp_9 c_12 | omega)⟩ ⟨(by first | exact ok_1101 f_11.1 f_11.2 hp_9 c_12 | omega), (by first | exact ok_1102 f_11.1 f_11.2 hp_9 c_12 | omega)⟩ ((by first | exact ok_796 hP9 g_14 | omega))) (cwV 3 hts (gd_V hgd m1834 m1836 m91 m131 m1837) rfl rfl rfl hd_X12_layStreet ⟨Nat.le_of_ble_eq_true rfl, Nat.le_of_ble_eq_true rfl⟩) (pre_W hW hB_G_7 hK hZ hS kd_66 rfl) rfl rfl hl.1 rfl (lv_room (Nat.le_of_ble_eq_true rfl)) dX12_evens_21 ⟨Nat.le_of_ble_eq_true rfl, Nat.le_of_ble_eq_true rfl⟩) hS (fun G_16 H locs hpo hW hS => ?_)
    have hX_19 : Q_layStreet p0 p1 p2 G_7 G_16 := hpo
    obtain ⟨hB_G_16, hq_17, ⟨d_1, d_2, d_3, d_4, d_5, d_6⟩, -⟩ := hpo
    have hF := hF.call9 hq_17 rfl rfl
    have b_20 : 0 ≤ (G.1 66 53).toInt ∧ (G.1 66 53).toInt ≤ 4 := hB_G.i 66 53 rfl rfl
    have u_21 := gW_at hW9 p0 (by first | (clear hP9 hW9 g_14; omega) | omega) (by first | (clear hP9 hW9 g_14; omega) | omega)
    have u_22 : (G_7.1 92 p0.toNatClampNeg).toInt = (G.1 92 p0.toNatClampNeg).toInt := congrArg Int32.toInt (((hq_8.ri9 92 rfl p0.toNatClampNeg).trans (gp_ne eG_1 (fun q => absurd q.1 (Nat.ne_of_beq_eq_false rfl)))))
    have u_23 : (G_7.1 93 p0.toNatClampNeg).toInt = (G.1 93 p0.toNatClampNeg).toInt := congrArg Int32.toInt (((hq_8.ri9 93 rfl p0.toNatClampNeg).trans (gp_ne eG_1 (fun q => absurd q.1 (Nat.ne_of_beq_eq_false rfl)))))
    have u_24 : (G_7.1 94 p0.toNatClampNeg).toInt = (G.1 94 p0.toNatClampNeg).toInt := congrArg Int32.toInt (((hq_8.ri9 94 rfl p0.toNatClampNeg).trans (gp_ne eG_1 (fun q => absurd q.1 (Nat.ne_of_beq_eq_false rfl)))))
    have u_25 : (G_7.1 95 p0.toNatClampNeg).toInt = (G.1 95 p0.toNatClampNeg).toInt := congrArg Int32.toInt (((hq_8.ri9 95 rfl p0.toNatClampNeg).trans (gp_ne eG_1 (fun q => absurd q.1 (Nat.ne_of_beq_eq_false rfl)))))
    have b_26 : 0 ≤ (G_16.1 66 60).toInt ∧ (G_16.1 66 60).toInt ≤ 12 := bd_66_60 hB_G_16
    have b_27 : 0 ≤ (G_16.1 66 61).toInt ∧ (G_16.1 66 61).toInt ≤ 60 := bd_66_61 hB_G_16
    have b_28 : 0 ≤ (G_16.1 66 62).toInt ∧ (G_16.1 66 62).toInt ≤ 60 := bd_66_62 hB_G_16
    have b_29 : 0 ≤ (G_16.1 66 63).toInt ∧ (G_16.1 66 63).toInt ≤ 99 := bd_66_63 hB_G_16
    refine lv_aload_n hx hb dX12_evens_24 rfl (lv_at hl 0 rfl) ?_
    refine S_getI (v := (G_16.1 66 61)) (C := RX12) (T := TX12) (N := 89) hx hb hg iX12 hown hK hW kd_66 rfl 61 (lt_b rfl) (hg (Cond.fieldLink RX12 475 "SlabWalkModel" "least" "I") m1375) (fun _ h9 => h9) rfl rfl dX12_evens_25 ?_
    refine lv_istore (lv' := [(4, .int (G_16.1 66 61)), (0, .ref (a 66)), (1, .int p0), (2, .int p1), (3, .int p2)]) hx hb dX12_evens_28 hl (lt_b rfl) rfl (fun ls hl => ?_)
    have g_36 : (G_16.1 66 66).toInt = 0 := (congrArg Int32.toInt (show G_16.1 66 66 = 0 from ((hq_17.i9 66 66 rfl rfl).trans ((hq_8.i9 66 66 rfl rfl).trans (gp_eq eG_1))))).trans rfl
    refine loop_N (Inv := fun n H locs ls => ∃ (G_30 : GS) (x_34 : Int32), (n : Int) = 61 - x_34.toInt ∧ (1 ≤ x_34.toInt ∧ x_34.toInt ≤ 61) ∧ ((G_30.1 66 66).toInt ≤ x_34.toInt) ∧ Rc (St_n_evens_1 G_16) ((G_16.1 66 61), G_16) (x_34, G_30) ∧ Wd D k A a G_30 H ∧ Bd G_30 ∧ Fr [100, 76, 97, 98] [(66, 59), (66, 60), (66, 61), (66, 62), (66, 63), (66, 66)] G G_30 ∧ Fr [100] [(66, 66)] G_16 G_30 ∧ va_S A s.heap H locs ∧ lv_has ls 7 [(4, .int x_34), (0, .ref (a 66))]) (fun n_33 H locs ls ih_32 hI => ?_) (61 - (G_16.1 66 61).toInt : Int).toNat ⟨G_16, (G_16.1 66 61), (Int.toNat_of_nonneg ((by first | exact ok_337 b_27.2 | omega))), ⟨(by first | (clear hP9 hW9 g_14 g_36; omega) | omega), (by first | exact ok_338 b_27.2 | omega)⟩, ((by first | exact ok_1119 b_27.1 g_36 | omega)), Rc.rf, hW, hB_G_16, hF, Fr.rf, hS, lv_sub hl [0, 1] rfl⟩
    obtain ⟨G_30, x_34, hn_39, f_37, f_38, hX_35, hW, hB_G_30, hF, hq_31, hS, hl⟩ := hI
    have b_40 : 0 ≤ (G_30.1 66 66).toInt ∧ (G_30.1 66 66).toInt ≤ 400 := bd_66_66 hB_G_30
    refine lv_iload hx hb dX12_evens_30 (lv_at hl 0 rfl) ?_
    refine lv_aload_n hx hb dX12_evens_32 rfl (lv_at hl 1 rfl) ?_
    refine S_getI (v := (G_16.1 66 62)) (C := RX12) (T := TX12) (N := 89) hx hb hg iX12 hown hK hW kd_66 rfl 62 (lt_b rfl) (hg (Cond.fieldLink RX12 478 "SlabWalkModel" "most" "I") m1376) (fun _ h9 => h9) rfl ((hq_31.i9 66 62 rfl rfl).trans (rfl)) dX12_evens_33 ?_
    refine lv_icmp_gt (tgt := 92) hx hb dX12_evens_36 rfl (fun c_41 => ?_) (fun c_41 => ?_)
    · have c_41 : (G_16.1 66 62).toInt < x_34.toInt := xI_lt rfl rfl c_41
      refine lv_aload_n hx hb dX12_evens_92 rfl (lv_at hl 1 rfl) ?_
      refine S_getI (v := (G_30.1 66 66)) (C := RX12) (T := TX12) (N := 89) hx hb hg iX12 hown hK hW kd_66 rfl 66 (lt_b rfl) (hg (Cond.fieldLink RX12 446 "SlabWalkModel" "lain" "I") m1380) (fun _ h9 => h9) rfl rfl dX12_evens_93 ?_
      exact W.iret (v := (G_30.1 66 66)) hx hb hr (fun t ht _ => ⟨⟨(G_30.1 66 66), G_30, rfl, (Q_evens_mk ⟨hB_G_30, hF, ⟨G_1, hB_G_1, (Fr.put (rs := []) (fs := [(66, 66)]) Fr.rf eG_1 (Or.inr (by decide))), (gp_eq eG_1), ⟨r_6, G_7, hX_10, (Or.inr ⟨c_12, ⟨G_16, hX_19, ⟨x_34, G_30, hX_35, f_37, f_38, hB_G_30, hq_31, ⟨c_41, ⟨rfl, rfl⟩⟩⟩⟩⟩)⟩⟩⟩), wd_t ht hW⟩, hS.F ht⟩) hS.2.2 dX12_evens_96
    · have c_41 : x_34.toInt ≤ (G_16.1 66 62).toInt := xI_nlt rfl rfl c_41
      refine ic_0 hx hb dX12_evens_39 ?_
      refine lv_istore (lv' := [(5, .int 0), (4, .int x_34), (0, .ref (a 66))]) hx hb dX12_evens_40 hl (lt_b rfl) rfl (fun ls hl => ?_)
      refine ic_0 hx hb dX12_evens_42 ?_
      refine lv_istore (lv' := [(6, .int 0), (5, .int 0), (4, .int x_34), (0, .ref (a 66))]) hx hb dX12_evens_43 hl (lt_b rfl) rfl (fun ls hl => ?_)
      have qc_49 : (0 : Int32).toInt = 0 := rfl
      refine loop_N (Inv := fun n H locs ls => ∃ (G_42 : GS) (x_46 : Int32) (x_47 : Int32), (n : Int) = 60 - x_46.toInt ∧ (0 ≤ x_46.toInt ∧ x_46.toInt ≤ 60) ∧ (0 ≤ x_47.toInt ∧ x_47.toInt ≤ 1) ∧ Rc (St_n_evens_2 x_34 G_16) (0, 0, G_30) (x_46, x_47, G_42) ∧ Wd D k A a G_42 H ∧ Bd G_42 ∧ Fr [100, 76, 97, 98] [(66, 59), (66, 60), (66, 61), (66, 62), (66, 63), (66, 66)] G G_42 ∧ Fr [] [] G_30 G_42 ∧ va_S A s.heap H locs ∧ lv_has ls 7 [(6, .int x_46), (5, .int x_47), (4, .int x_34), (0, .ref (a 66))]) (fun n_45 H locs ls ih_44 hI => ?_) (60 - 0 : Int).toNat ⟨G_30, 0, 0, (Int.toNat_of_nonneg ((by decide))), ⟨(by decide), (by decide)⟩, ⟨(by decide), (by decide)⟩, Rc.rf, hW, hB_G_30, hF, Fr.rf, hS, lv_sub hl [0, 1, 2, 3] rfl⟩
      obtain ⟨G_42, x_46, x_47, hn_52, f_50, f_51, hX_48, hW, hB_G_42, hF, hq_43, hS, hl⟩ := hI
      refine lv_iload hx hb dX12_evens_45 (lv_at hl 0 rfl) ?_
      refine lv_aload_n hx hb dX12_evens_47 rfl (lv_at hl 3 rfl) ?_
      refine S_getI (v := (G_16.1 66 62)) (C := RX12) (T := TX12) (N := 89) hx hb hg iX12 hown hK hW kd_66 rfl 62 (lt_b rfl) (hg (Cond.fieldLink RX12 478 "SlabWalkModel" "most" "I") m1376) (fun _ h9 => h9) rfl ((hq_43.i9 66 62 rfl rfl).trans ((hq_31.i9 66 62 rfl rfl).trans (rfl))) dX12_evens_48 ?_
      refine lv_icmp_ge (tgt := 75) hx hb dX12_evens_51 rfl (fun c_53 => ?_) (fun c_53 => ?_)
      · have c_53 : (G_16.1 66 62).toInt ≤ x_46.toInt := xI_le rfl rfl c_53
        refine lv_iload hx hb dX12_evens_75 (lv_at hl 1 rfl) ?_
        refine lv_if_eq (tgt := 86) hx hb dX12_evens_77 rfl (fun c_54 => ?_) (fun c_54 => ?_)
        · have c_54 : x_47.toInt = 0 := xI_eq rfl rfl c_54
          obtain ⟨y_55, ey_55⟩ : ∃ q, q = x_34 + 1 := ⟨_, rfl⟩
          have ty_55 : y_55.toInt = x_34.toInt + 1 := xI_add rfl rfl ey_55 ((by first | exact ok_237 f_37.1 | omega)) ((by first | exact ok_256 f_37.2 | omega))
          refine lv_iinc (v := y_55) (lv' := [(4, .int y_55), (6, .int x_46), (5, .int x_47), (0, .ref (a 66))]) hx hb dX12_evens_86 hl (k := 2) rfl (by rw [ey_55]; rfl) (lt_b rfl) rfl (fun ls hl => ?_)
          refine lv_goto (tgt := 30) hx hb dX12_evens_89 rfl ?_
          have g_56 : (G_42.1 66 66).toInt = (G_30.1 66 66).toInt := (congrArg Int32.toInt (show G_42.1 66 66 = (G_30.1 66 66) from ((hq_43.i9 66 66 rfl rfl).trans (rfl))))
          exact ih_32 (61 - y_55.toInt : Int).toNat ((by first | (clear hP9 hW9 b_2 b_4 f_11 c_12 g_14 b_20 g_36 f_50 f_51 c_54; omega) | omega)) _ _ _ ⟨G_42, y_55, (Int.toNat_of_nonneg ((by first | exact ok_257 b_28.2 f_37.2 c_41 ty_55 | omega))), ⟨(by first | exact ok_240 f_37.1 ty_55 | omega), (by first | exact ok_258 b_28.2 f_37.2 c_41 ty_55 | omega)⟩, ((by first | exact ok_1120 f_38 ty_55 g_56 | omega)), (hX_35.st (St_n_evens_1_mk ⟨x_34, G_30, y_55, G_42, rfl, rfl, f_37, f_38, hB_G_30, ⟨c_41, ⟨x_46, x_47, G_42, hX_48, f_50, f_51, hB_G_42, hq_43, (Or.inl ⟨c_53, (Or.inl ⟨c_54, ⟨y_55, ty_55, ⟨rfl, rfl⟩⟩⟩)⟩)⟩⟩⟩)), hW, hB_G_42, hF, (Fr.call9 (rs := [100]) (fs := [(66, 66)]) (Fr.call9 (rs := [100]) (fs := [(66, 66)]) Fr.rf hq_31 rfl rfl) hq_43 rfl rfl), hS, lv_sub hl [0, 3] rfl⟩
        · have c_54 : x_47.toInt ≠ 0 := xI_ne rfl rfl c_54
          refine lv_aload_n hx hb dX12_evens_80 rfl (lv_at hl 3 rfl) ?_
          refine lv_iload hx hb dX12_evens_81 (lv_at hl 2 rfl) ?_
          have g_57 : (G_42.1 66 66).toInt = (G_30.1 66 66).toInt := (congrArg Int32.toInt (show G_42.1 66 66 = (G_30.1 66 66) from ((hq_43.i9 66 66 rfl rfl).trans (rfl))))
          have g_58 : (G_42.1 66 66).toInt = (G_30.1 66 66).toInt := (congrArg Int32.toInt (show G_42.1 66 66 = (G_30.1 66 66) from ((hq_43.i9 66 66 rfl rfl).trans (rfl))))
          refine S_callv (va_runV (As := [.int x_34]) (rest := []) ⟨hx, hb, hml, hown, hts⟩ (n_lay l D k A a z G_42 x_34 ((by first | exact ok_1121 f_37.2 f_38 b_40.2 g_57 | omega))) (cwV 1 hts (gd_V hgd m1866 m1868 m97 m131 m1869) rfl rfl rfl hd_X12_lay ⟨Nat.le_of_ble_eq_true rfl, Nat.le_of_ble_eq_true rfl⟩) (pre_W hW hB_G_42 hK hZ hS kd_66 rfl) rfl rfl hl.1 rfl (lv_room (Nat.le_of_ble_eq_true rfl)) dX12_evens_83 ⟨Nat.le_of_ble_eq_true rfl, Nat.le_of_ble_eq_true rfl⟩) hS (fun G_60 H locs hpo hW hS => ?_)
          have hX_63 : Q_lay x_34 G_42 G_60 := hpo
          obtain ⟨hB_G_60, hq_61, hp_62, -⟩ := hpo
          have hF := hF.call9 hq_61 rfl rfl
          obtain ⟨y_64, ey_64⟩ : ∃ q, q = x_34 + 1 := ⟨_, rfl⟩
          have ty_64 : y_64.toInt = x_34.toInt + 1 := xI_add rfl rfl ey_64 ((by first | exact ok_237 f_37.1 | omega)) ((by first | exact ok_256 f_37.2 | omega))
          refine lv_iinc (v := y_64) (lv' := [(4, .int y_64), (6, .int x_46), (5, .int x_47), (0, .ref (a 66))]) hx hb dX12_evens_86 hl (k := 2) rfl (by rw [ey_64]; rfl) (lt_b rfl) rfl (fun ls hl => ?_)
          refine lv_goto (tgt := 30) hx hb dX12_evens_89 rfl ?_
          have b_65 : 0 ≤ (G_60.1 66 66).toInt ∧ (G_60.1 66 66).toInt ≤ 400 := bd_66_66 hB_G_60
          exact ih_32 (61 - y_64.toInt : Int).toNat ((by first | (clear hP9 hW9 b_2 b_4 f_11 c_12 g_14 b_20 g_36 f_50 f_51 c_54; omega) | omega)) _ _ _ ⟨G_60, y_64, (Int.toNat_of_nonneg ((by first | exact ok_257 b_28.2 f_37.2 c_41 ty_64 | omega))), ⟨(by first | exact ok_240 f_37.1 ty_64 | omega), (by first | exact ok_258 b_28.2 f_37.2 c_41 ty_64 | omega)⟩, ((by first | exact ok_1122 f_37.1 f_38 g_57 hp_62 ty_64 b_65.2 | omega)), (hX_35.st (St_n_evens_1_mk ⟨x_34, G_30, y_64, G_60, rfl, rfl, f_37, f_38, hB_G_30, ⟨c_41, ⟨x_46, x_47, G_42, hX_48, f_50, f_51, hB_G_42, hq_43, (Or.inl ⟨c_53, (Or.inr ⟨c_54, ⟨G_60, hX_63, ⟨y_64, ty_64, ⟨rfl, rfl⟩⟩⟩⟩)⟩)⟩⟩⟩)), hW, hB_G_60, hF, (Fr.call9 (rs := [100]) (fs := [(66, 66)]) (Fr.call9 (rs := [100]) (fs := [(66, 66)]) (Fr.call9 (rs := [100]) (fs := [(66, 66)]) Fr.rf hq_31 rfl rfl) hq_43 rfl rfl) hq_61 rfl rfl), hS, lv_sub hl [0, 3] rfl⟩
      · have c_53 : x_46.toInt < (G_16.1 66 62).toInt := xI_nle rfl rfl c_53
        refine lv_iload hx hb dX12_evens_54 (lv_at hl 1 rfl) ?_
        refine lv_if_ne (tgt := 75) hx hb dX12_evens_56 rfl (fun c_66 => ?_) (fun c_66 => ?_)
        · have c_66 : x_47.toInt ≠ 0 := xI_ne rfl rfl c_66
          refine lv_iload hx hb dX12_evens_75 (lv_at hl 1 rfl) ?_
          refine lv_if_eq (tgt := 86) hx hb dX12_evens_77 rfl (fun c_67 => ?_) (fun c_67 => ?_)
          · have c_67 : x_47.toInt = 0 := xI_eq rfl rfl c_67
            exfalso; first | exact ok_923 f_51.1 c_66 c_67 | omega
          · have c_67 : x_47.toInt ≠ 0 := xI_ne rfl rfl c_67
            refine lv_aload_n hx hb dX12_evens_80 rfl (lv_at hl 3 rfl) ?_
            refine lv_iload hx hb dX12_evens_81 (lv_at hl 2 rfl) ?_
            have g_68 : (G_42.1 66 66).toInt = (G_30.1 66 66).toInt := (congrArg Int32.toInt (show G_42.1 66 66 = (G_30.1 66 66) from ((hq_43.i9 66 66 rfl rfl).trans (rfl))))
            have g_69 : (G_42.1 66 66).toInt = (G_30.1 66 66).toInt := (congrArg Int32.toInt (show G_42.1 66 66 = (G_30.1 66 66) from ((hq_43.i9 66 66 rfl rfl).trans (rfl))))
            refine S_callv (va_runV (As := [.int x_34]) (rest := []) ⟨hx, hb, hml, hown, hts⟩ (n_lay l D k A a z G_42 x_34 ((by first | exact ok_1121 f_37.2 f_38 b_40.2 g_68 | omega))) (cwV 1 hts (gd_V hgd m1866 m1868 m97 m131 m1869) rfl rfl rfl hd_X12_lay ⟨Nat.le_of_ble_eq_true rfl, Nat.le_of_ble_eq_true rfl⟩) (pre_W hW hB_G_42 hK hZ hS kd_66 rfl) rfl rfl hl.1 rfl (lv_room (Nat.le_of_ble_eq_true rfl)) dX12_evens_83 ⟨Nat.le_of_ble_eq_true rfl, Nat.le_of_ble_eq_true rfl⟩) hS (fun G_71 H locs hpo hW hS => ?_)
            have hX_74 : Q_lay x_34 G_42 G_71 := hpo
            obtain ⟨hB_G_71, hq_72, hp_73, -⟩ := hpo
            have hF := hF.call9 hq_72 rfl rfl
            obtain ⟨y_75, ey_75⟩ : ∃ q, q = x_34 + 1 := ⟨_, rfl⟩
            have ty_75 : y_75.toInt = x_34.toInt + 1 := xI_add rfl rfl ey_75 ((by first | exact ok_237 f_37.1 | omega)) ((by first | exact ok_256 f_37.2 | omega))
            refine lv_iinc (v := y_75) (lv' := [(4, .int y_75), (6, .int x_46), (5, .int x_47), (0, .ref (a 66))]) hx hb dX12_evens_86 hl (k := 2) rfl (by rw [ey_75]; rfl) (lt_b rfl) rfl (fun ls hl => ?_)
            refine lv_goto (tgt := 30) hx hb dX12_evens_89 rfl ?_
            have b_76 : 0 ≤ (G_71.1 66 66).toInt ∧ (G_71.1 66 66).toInt ≤ 400 := bd_66_66 hB_G_71
            exact ih_32 (61 - y_75.toInt : Int).toNat ((by first | (clear hP9 hW9 b_2 b_4 f_11 c_12 g_14 b_20 g_36 f_50 f_51 c_66 c_67; omega) | omega)) _ _ _ ⟨G_71, y_75, (Int.toNat_of_nonneg ((by first | exact ok_257 b_28.2 f_37.2 c_41 ty_75 | omega))), ⟨(by first | exact ok_240 f_37.1 ty_75 | omega), (by first | exact ok_258 b_28.2 f_37.2 c_41 ty_75 | omega)⟩, ((by first | exact ok_1122 f_37.1 f_38 g_68 hp_73 ty_75 b_76.2 | omega)), (hX_35.st (St_n_evens_1_mk ⟨x_34, G_30, y_75, G_71, rfl, rfl, f_37, f_38, hB_G_30, ⟨c_41, ⟨x_46, x_47, G_42, hX_48, f_50, f_51, hB_G_42, hq_43, (Or.inr ⟨c_53, ⟨c_66, ⟨G_71, hX_74, ⟨y_75, ty_75, ⟨rfl, rfl⟩⟩⟩⟩⟩)⟩⟩⟩)), hW, hB_G_71, hF, (Fr.call9 (rs := [100]) (fs := [(66, 66)]) (Fr.call9 (rs := [100]) (fs := [(66, 66)]) (Fr.call9 (rs := [100]) (fs := [(66, 66)]) Fr.rf hq_31 rfl rfl) hq_43 rfl rfl) hq_72 rfl rfl), hS, lv_sub hl [0, 3] rfl⟩
        · have c_66 : x_47.toInt = 0 := xI_eq rfl rfl c_66
          refine lv_aload_n hx hb dX12_evens_59 rfl (lv_at hl 3 rfl) ?_
          refine lv_iload hx hb dX12_evens_60 (lv_at hl 0 rfl) ?_
          refine lv_iload hx hb dX12_evens_62 (lv_at hl 2 rfl) ?_
          refine S_calli (va_runV (As := [.int x_46, .int x_34]) (rest := []) ⟨hx, hb, hml, hown, hts⟩ (n_comesToEnd l D k A a z G_42 x_46 x_34 ⟨(by first | exact f_50.1 | omega), (by first | exact f_50.2 | omega)⟩ ⟨(by first | exact f_37.1 | omega), (by first | exact ok_259 b_28.2 f_37.2 c_41 | omega)⟩) (cwV 2 hts (gd_V hgd m1899 m1901 m100 m131 m1902) rfl rfl rfl hd_X12_comesToEnd ⟨Nat.le_of_ble_eq_true rfl, Nat.le_of_ble_eq_true rfl⟩) (pre_W hW hB_G_42 hK hZ hS kd_66 rfl) rfl rfl hl.1 rfl (lv_room (Nat.le_of_ble_eq_true rfl)) dX12_evens_64 ⟨Nat.le_of_ble_eq_true rfl, Nat.le_of_ble_eq_true rfl⟩) hS (fun r_77 G_78 H locs hpo hW hS => ?_)
          have hX_81 : Q_comesToEnd x_46 x_34 G_42 r_77 G_78 := hpo
          obtain ⟨hB_G_78, hq_79, f_82, -⟩ := hpo
          have hF := hF.call9 hq_79 rfl rfl
          refine lv_istore (lv' := [(5, .int r_77), (6, .int x_46), (4, .int x_34), (0, .ref (a 66))]) hx hb dX12_evens_67 hl (lt_b rfl) rfl (fun ls hl => ?_)
          obtain ⟨y_83, ey_83⟩ : ∃ q, q = x_46 + 1 := ⟨_, rfl⟩
          have ty_83 : y_83.toInt = x_46.toInt + 1 := xI_add rfl rfl ey_83 ((by first | exact ok_21 f_50.1 | omega)) ((by first | exact ok_238 f_50.2 | omega))
          refine lv_iinc (v := y_83) (lv' := [(6, .int y_83), (5, .int r_77), (4, .int x_34), (0, .ref (a 66))]) hx hb dX12_evens_69 hl (k := 1) rfl (by rw [ey_83]; rfl) (lt_b rfl) rfl (fun ls hl => ?_)
          refine lv_goto (tgt := 45) hx hb dX12_evens_72 rfl ?_
          exact ih_44 (60 - y_83.toInt : Int).toNat ((by first | (clear hP9 hW9 b_2 b_4 f_11 c_12 g_14 b_20 g_36 f_37 f_38 b_40 f_51 c_66 f_82; omega) | omega)) _ _ _ ⟨G_78, y_83, r_77, (Int.toNat_of_nonneg ((by first | exact ok_239 b_28.2 f_50.2 c_53 ty_83 | omega))), ⟨(by first | exact ok_23 f_50.1 ty_83 | omega), (by first | exact ok_241 b_28.2 f_50.2 c_53 ty_83 | omega)⟩, ⟨(by first | exact f_82.1 | omega), (by first | exact f_82.2 | omega)⟩, (hX_48.st (St_n_evens_2_mk ⟨x_46, x_47, G_42, y_83, r_77, G_78, rfl, rfl, f_50, f_51, hB_G_42, ⟨c_53, ⟨c_66, ⟨r_77, G_78, hX_81, ⟨y_83, ty_83, ⟨rfl, rfl, rfl⟩⟩⟩⟩⟩⟩)), hW, hB_G_78, hF, (Fr.call9 (rs := []) (fs := []) (Fr.call9 (rs := []) (fs := []) Fr.rf hq_43 rfl rfl) hq_79 rfl rfl), hS, lv_sub hl [0, 1, 2, 3] rfl⟩
  · have c_12 : r_6.toInt = 0 := xI_eq rfl rfl c_12
    refine ic_m1 hx hb dX12_evens_15 ?_
    exact W.iret (v := (-1)) hx hb hr (fun t ht _ => ⟨⟨(-1), G_7, rfl, (Q_evens_mk ⟨hB_G_7, hF, ⟨G_1, hB_G_1, (Fr.put (rs := []) (fs := [(66, 66)]) Fr.rf eG_1 (Or.inr (by decide))), (gp_eq eG_1), ⟨r_6, G_7, hX_10, (Or.inl ⟨c_12, ⟨rfl, rfl⟩⟩)⟩⟩⟩), wd_t ht hW⟩, hS.F ht⟩) hS.2.2 dX12_evens_16

set_option maxHeartbeats 4000000 in
set_option maxRecDepth 100000 in
theorem n_evenest (l : Launch) (D : va_G) (k : KT) (A : Nat → Prop) (a : Nat → Nat) (z : SK) (G : GS) (p0 : Int32) (p1 : Int32) (p2 : Int32) (p3 : Int32) (hP9 : gP G = 1) (hW9 : gW G = 1) : Met l yX12_evenest (WS yX12_evenest cX12_evenest 7 (some .int)) ({ frames := 5, cells := 0, slots := 0, locals := 117 }) (va_Pc [.ref (a 66), .int p0, .int p1, .int p2, .int p3] (cW D k A a z G)) (va_Qi (fun (r : Int32) (G1 : GS) => Q_evenest p0 p1 p2 p3 G r G1) (fun (G1 : GS) t => Wd D k A a G1 t.heap) A) 0 0 A := by
  refine Met.ofW (cc := cX12_evenest) (maxL := 7) (ret := (some .int)) (by decide) rfl ?_
  intro p e s m args below meth c s₁ B hml hv
  obtain ⟨rfl, hW, hB_G, hK, hZ⟩ := hv
  have hx := B.exec
  have hb := B.bytes
  have hr := B.returns
  have hts := atoms_spec (ws := WS yX12_evenest cX12_evenest 7 (some .int)) B.pre
  have hgd : ∀ w ∈ gd, w ∈ WS yX12_evenest cX12_evenest 7 (some .int) := fun w h => List.mem_cons_of_mem _ h
  have hg : ∀ w ∈ gd, w.before _ s = true := fun w h => hts w (hgd w h)
  have hown : s.vm.findClass RX12 = some m.cls := findClass_of_methodNamed B.named
  have hS : va_S A s.heap s.heap [] := va_S.rf
  have hF : Fr [103, 76, 97, 98] [(66, 59), (66, 60), (66, 61), (66, 62), (66, 63)] G G := Fr.rf
  have hl := lv_entry ([.ref (a 66), .int p0, .int p1, .int p2, .int p3]) (n := 7) (Nat.le_of_ble_eq_true rfl)
  rw [lg_entry_eq]
  generalize (lg_sl ([.ref (a 66), .int p0, .int p1, .int p2, .int p3]) ++ List.replicate (7 - (lg_sl ([.ref (a 66), .int p0, .int p1, .int p2, .int p3])).length) Slot.unset).toArray = ls at hl ⊢
  have hl : lv_has ls 7 [(0, .ref (a 66)), (1, .int p0), (2, .int p1), (3, .int p2), (4, .int p3)] := hl
  refine lv_aload_n hx hb dX12_evenest_0 rfl (lv_at hl 0 rfl) ?_
  refine lv_iload_n hx hb dX12_evenest_1 rfl (lv_at hl 1 rfl) ?_
  refine lv_iload_n hx hb dX12_evenest_2 rfl (lv_at hl 2 rfl) ?_
  refine lv_iload_n hx hb dX12_evenest_3 rfl (lv_at hl 3 rfl) ?_
  refine S_calli (va_runV (As := [.int p0, .int p1, .int p2]) (rest := []) ⟨hx, hb, hml, hown, hts⟩ (n_isAsked l D k A a z G p0 p1 p2 ) (cwV 3 hts (gd_V hgd m1826 m1828 m89 m131 m1829) rfl rfl rfl hd_X12_isAsked ⟨Nat.le_of_ble_eq_true rfl, Nat.le_of_ble_eq_true rfl⟩) (pre_W hW hB_G hK hZ hS kd_66 rfl) rfl rfl hl.1 rfl (lv_room (Nat.le_of_ble_eq_true rfl)) dX12_evenest_4 ⟨Nat.le_of_ble_eq_true rfl, Nat.le_of_ble_eq_true rfl⟩) hS (fun r_1 G_2 H locs hpo hW hS => ?_)
  have hX_5 : Q_isAsked p0 p1 p2 G r_1 G_2 := hpo
  obtain ⟨hB_G_2, hq_3, f_6, hp_4, -⟩ := hpo
  have hF := hF.call9 hq_3 rfl rfl
  refine lv_if_eq (tgt := 20) hx hb dX12_evenest_7 rfl (fun c_7 => ?_) (fun c_7 => ?_)
  · have c_7 : r_1.toInt = 0 := xI_eq rfl rfl c_7
    refine ic_m1 hx hb dX12_evenest_20 ?_
    exact W.iret (v := (-1)) hx hb hr (fun t ht _ => ⟨⟨(-1), G_2, rfl, (Q_evenest_mk ⟨hB_G_2, hF, ⟨r_1, G_2, hX_5, (Or.inl ⟨c_7, ⟨rfl, rfl⟩⟩)⟩⟩), wd_t ht hW⟩, hS.F ht⟩) hS.2.2 dX12_evenest_21
  · have c_7 : r_1.toInt ≠ 0 := xI_ne rfl rfl c_7
    refine lv_iload hx hb dX12_evenest_10 (lv_at hl 4 rfl) ?_
    refine ic_0 hx hb dX12_evenest_12 ?_
    refine ic_1 hx hb dX12_evenest_13 ?_
    have qc_8 : (0 : Int32).toInt = 0 := rfl
    have qc_9 : (1 : Int32).toInt = 1 := rfl
    refine S_calli (va_runS (As := [.int p3, .int 0, .int 1]) (rest := []) ⟨hx, hb, hml, hown, hts⟩ (n_isIn l D k A a z G_2 p3 0 1 ) (va_cwS 3 hts (gd_S hgd m1781 m1782 m131 m1783) rfl rfl rfl hd_X12_isIn.2 ⟨Nat.le_of_ble_eq_true rfl, Nat.le_of_ble_eq_true rfl⟩) (pre_S hW hB_G_2 hK hZ hS) rfl rfl hl.1 rfl (lv_room (Nat.le_of_ble_eq_true rfl)) dX12_evenest_14 ⟨Nat.le_of_ble_eq_true rfl, Nat.le_of_ble_eq_true rfl⟩) hS (fun r_10 G_11 H locs hpo hW hS => ?_)
    have hX_14 : Q_isIn p3 0 1 G_2 r_10 G_11 := hpo
    obtain ⟨hB_G_11, hq_12, f_15, ⟨d_1, d_2⟩, -⟩ := hpo
    have hF := hF.call9 hq_12 rfl rfl
    refine lv_if_ne (tgt := 22) hx hb dX12_evenest_17 rfl (fun c_16 => ?_) (fun c_16 => ?_)
    · have c_16 : r_10.toInt ≠ 0 := xI_ne rfl rfl c_16
      refine lv_aload_n hx hb dX12_evenest_22 rfl (lv_at hl 0 rfl) ?_
      refine lv_iload_n hx hb dX12_evenest_23 rfl (lv_at hl 1 rfl) ?_
      refine lv_iload_n hx hb dX12_evenest_24 rfl (lv_at hl 2 rfl) ?_
      refine lv_iload_n hx hb dX12_evenest_25 rfl (lv_at hl 3 rfl) ?_
      have fr_17 : Fr [] [] G G_11 := (Fr.call9 (rs := []) (fs := []) (Fr.call9 (rs := []) (fs := []) Fr.rf hq_3 rfl rfl) hq_12 rfl rfl)
      have g_18 : gP G_11 = gP G := gP_fr fr_17 (gr_q rfl) (gf_q rfl)
      refine S_callv (va_runV (As := [.int p0, .int p1, .int p2]) (rest := []) ⟨hx, hb, hml, hown, hts⟩ (n_layStreet l D k A a z G_11 p0 p1 p2 ⟨(by first | exact ok_1103 f_6.1 f_6.2 hp_4 c_7 | omega), (by first | exact ok_1104 f_6.1 f_6.2 hp_4 c_7 | omega)⟩ ⟨(by first | exact ok_1101 f_6.1 f_6.2 hp_4 c_7 | omega), (by first | exact ok_1102 f_6.1 f_6.2 hp_4 c_7 | omega)⟩ ((by first | exact ok_796 hP9 g_18 | omega))) (cwV 3 hts (gd_V hgd m1834 m1836 m91 m131 m1837) rfl rfl rfl hd_X12_layStreet ⟨Nat.le_of_ble_eq_true rfl, Nat.le_of_ble_eq_true rfl⟩) (pre_W hW hB_G_11 hK hZ hS kd_66 rfl) rfl rfl hl.1 rfl (lv_room (Nat.le_of_ble_eq_true rfl)) dX12_evenest_26 ⟨Nat.le_of_ble_eq_true rfl, Nat.le_of_ble_eq_true rfl⟩) hS (fun G_20 H locs hpo hW hS => ?_)
      have hX_23 : Q_layStreet p0 p1 p2 G_11 G_20 := hpo
      obtain ⟨hB_G_20, hq_21, ⟨d_3, d_4, d_5, d_6, d_7, d_8⟩, -⟩ := hpo
      have hF := hF.call9 hq_21 rfl rfl
      have b_24 : 0 ≤ (G.1 66 53).toInt ∧ (G.1 66 53).toInt ≤ 4 := hB_G.i 66 53 rfl rfl
      have u_25 := gW_at hW9 p0 (by first | (clear hP9 hW9 f_15 d_1 d_2 c_16 g_18; omega) | omega) (by first | (clear hP9 hW9 f_15 d_1 d_2 c_16 g_18; omega) | omega)
      have u_26 : (G_11.1 92 p0.toNatClampNeg).toInt = (G.1 92 p0.toNatClampNeg).toInt := congrArg Int32.toInt (((hq_12.ri9 92 rfl p0.toNatClampNeg).trans (hq_3.ri9 92 rfl p0.toNatClampNeg)))
      have u_27 : (G_11.1 93 p0.toNatClampNeg).toInt = (G.1 93 p0.toNatClampNeg).toInt := congrArg Int32.toInt (((hq_12.ri9 93 rfl p0.toNatClampNeg).trans (hq_3.ri9 93 rfl p0.toNatClampNeg)))
      have u_28 : (G_11.1 94 p0.toNatClampNeg).toInt = (G.1 94 p0.toNatClampNeg).toInt := congrArg Int32.toInt (((hq_12.ri9 94 rfl p0.toNatClampNeg).trans (hq_3.ri9 94 rfl p0.toNatClampNeg)))
      have u_29 : (G_11.1 95 p0.toNatClampNeg).toInt = (G.1 95 p0.toNatClampNeg).toInt := congrArg Int32.toInt (((hq_12.ri9 95 rfl p0.toNatClampNeg).trans (hq_3.ri9 95 rfl p0.toNatClampNeg)))
      have b_30 : 0 ≤ (G_20.1 66 60).toInt ∧ (G_20.1 66 60).toInt ≤ 12 := bd_66_60 hB_G_20
      have b_31 : 0 ≤ (G_20.1 66 61).toInt ∧ (G_20.1 66 61).toInt ≤ 60 := bd_66_61 hB_G_20
      have b_32 : 0 ≤ (G_20.1 66 62).toInt ∧ (G_20.1 66 62).toInt ≤ 60 := bd_66_62 hB_G_20
      have b_33 : 0 ≤ (G_20.1 66 63).toInt ∧ (G_20.1 66 63).toInt ≤ 99 := bd_66_63 hB_G_20
      refine ic_0 hx hb dX12_evenest_29 ?_
      refine lv_istore (lv' := [(5, .int 0), (0, .ref (a 66)), (1, .int p0), (2, .int p1), (3, .int p2), (4, .int p3)]) hx hb dX12_evenest_30 hl (lt_b rfl) rfl (fun ls hl => ?_)
      have qc_40 : (0 : Int32).toInt = 0 := rfl
      refine loop_N (Inv := fun n H locs ls => ∃ (G_34 : GS) (x_38 : Int32), (n : Int) = 60 - x_38.toInt ∧ (0 ≤ x_38.toInt ∧ x_38.toInt ≤ 60) ∧ Rc (St_n_evenest_1 G_20) (0, G_20) (x_38, G_34) ∧ Wd D k A a G_34 H ∧ Bd G_34 ∧ Fr [103, 76, 97, 98] [(66, 59), (66, 60), (66, 61), (66, 62), (66, 63)] G G_34 ∧ Fr [103] [] G_20 G_34 ∧ va_S A s.heap H locs ∧ lv_has ls 7 [(5, .int x_38), (0, .ref (a 66)), (4, .int p3)]) (fun n_37 H locs ls ih_36 hI => ?_) (60 - 0 : Int).toNat ⟨G_20, 0, (Int.toNat_of_nonneg ((by decide))), ⟨(by decide), (by decide)⟩, Rc.rf, hW, hB_G_20, hF, Fr.rf, hS, lv_sub hl [0, 1, 5] rfl⟩
      obtain ⟨G_34, x_38, hn_42, f_41, hX_39, hW, hB_G_34, hF, hq_35, hS, hl⟩ := hI
      refine lv_iload hx hb dX12_evenest_32 (lv_at hl 0 rfl) ?_
      refine lv_aload_n hx hb dX12_evenest_34 rfl (lv_at hl 1 rfl) ?_
      refine S_getI (v := (G_20.1 66 62)) (C := RX12) (T := TX12) (N := 89) hx hb hg iX12 hown hK hW kd_66 rfl 62 (lt_b rfl) (hg (Cond.fieldLink RX12 478 "SlabWalkModel" "most" "I") m1376) (fun _ h9 => h9) rfl ((hq_35.i9 66 62 rfl rfl).trans (rfl)) dX12_evenest_35 ?_
      refine lv_aload_n hx hb dX12_evenest_38 rfl (lv_at hl 1 rfl) ?_
      refine S_getI (v := (G_20.1 66 61)) (C := RX12) (T := TX12) (N := 89) hx hb hg iX12 hown hK hW kd_66 rfl 61 (lt_b rfl) (hg (Cond.fieldLink RX12 475 "SlabWalkModel" "least" "I") m1375) (fun _ h9 => h9) rfl ((hq_35.i9 66 61 rfl rfl).trans (rfl)) dX12_evenest_39 ?_
      refine lv_isub hx hb dX12_evenest_42 ?_
      refine lv_topi (fun y_43 ey_43 => ?_)
      have ty_43 : y_43.toInt = (G_20.1 66 62).toInt - (G_20.1 66 61).toInt := xI_sub rfl rfl ey_43 ((by first | exact ok_358 b_31.2 b_32.1 | omega)) ((by first | exact ok_1123 b_31.1 b_32.2 | omega))
      refine lv_icmp_gt (tgt := 103) hx hb dX12_evenest_43 rfl (fun c_44 => ?_) (fun c_44 => ?_)
      · have c_44 : y_43.toInt < x_38.toInt := xI_lt rfl rfl c_44
        refine ic_m1 hx hb dX12_evenest_103 ?_
        exact W.iret (v := (-1)) hx hb hr (fun t ht _ => ⟨⟨(-1), G_34, rfl, (Q_evenest_mk ⟨hB_G_34, hF, ⟨r_1, G_2, hX_5, (Or.inr ⟨c_7, ⟨r_10, G_11, hX_14, (Or.inr ⟨c_16, ⟨G_20, hX_23, ⟨x_38, G_34, hX_39, f_41, hB_G_34, hq_35, ⟨y_43, ty_43, (Or.inl ⟨c_44, ⟨rfl, rfl⟩⟩)⟩⟩⟩⟩)⟩⟩)⟩⟩), wd_t ht hW⟩, hS.F ht⟩) hS.2.2 dX12_evenest_104
      · have c_44 : x_38.toInt ≤ y_43.toInt := xI_nlt rfl rfl c_44
        refine lv_aload_n hx hb dX12_evenest_46 rfl (lv_at hl 1 rfl) ?_
        refine S_getI (v := (G_20.1 66 61)) (C := RX12) (T := TX12) (N := 89) hx hb hg iX12 hown hK hW kd_66 rfl 61 (lt_b rfl) (hg (Cond.fieldLink RX12 475 "SlabWalkModel" "least" "I") m1375) (fun _ h9 => h9) rfl ((hq_35.i9 66 61 rfl rfl).trans (rfl)) dX12_evenest_47 ?_
        refine lv_istore (lv' := [(6, .int (G_20.1 66 61)), (5, .int x_38), (0, .ref (a 66)), (4, .int p3)]) hx hb dX12_evenest_50 hl (lt_b rfl) rfl (fun ls hl => ?_)
        refine loop_N (Inv := fun n H locs ls => ∃ (G_45 : GS) (x_49 : Int32), (n : Int) = 61 - x_49.toInt ∧ (0 ≤ x_49.toInt ∧ x_49.toInt ≤ 61) ∧ Rc (St_n_evenest_2 x_38 G_20) ((G_20.1 66 61), G_34) (x_49, G_45) ∧ Wd D k A a G_45 H ∧ Bd G_45 ∧ Fr [103, 76, 97, 98] [(66, 59), (66, 60), (66, 61), (66, 62), (66, 63)] G G_45 ∧ Fr [103] [] G_34 G_45 ∧ va_S A s.heap H locs ∧ lv_has ls 7 [(6, .int x_49), (5, .int x_38), (0, .ref (a 66)), (4, .int p3)]) (fun n_48 H locs ls ih_47 hI => ?_) (61 - (G_20.1 66 61).toInt : Int).toNat ⟨G_34, (G_20.1 66 61), (Int.toNat_of_nonneg ((by first | exact ok_337 b_31.2 | omega))), ⟨(by first | exact b_31.1 | omega), (by first | exact ok_338 b_31.2 | omega)⟩, Rc.rf, hW, hB_G_34, hF, Fr.rf, hS, lv_sub hl [0, 1, 2, 3] rfl⟩
        obtain ⟨G_45, x_49, hn_52, f_51, hX_50, hW, hB_G_45, hF, hq_46, hS, hl⟩ := hI
        refine lv_iload hx hb dX12_evenest_52 (lv_at hl 0 rfl) ?_
        refine lv_iload hx hb dX12_evenest_54 (lv_at hl 1 rfl) ?_
        refine lv_iadd hx hb dX12_evenest_56 ?_
        refine lv_topi (fun y_53 ey_53 => ?_)
        have ty_53 : y_53.toInt = x_49.toInt + x_38.toInt := xI_add rfl rfl ey_53 ((by first | exact ok_27 f_41.1 f_51.1 | omega)) ((by first | exact ok_1124 f_41.2 f_51.2 | omega))
        refine lv_aload_n hx hb dX12_evenest_57 rfl (lv_at hl 2 rfl) ?_
        refine S_getI (v := (G_20.1 66 62)) (C := RX12) (T := TX12) (N := 89) hx hb hg iX12 hown hK hW kd_66 rfl 62 (lt_b rfl) (hg (Cond.fieldLink RX12 478 "SlabWalkModel" "most" "I") m1376) (fun _ h9 => h9) rfl ((hq_46.i9 66 62 rfl rfl).trans ((hq_35.i9 66 62 rfl rfl).trans (rfl))) dX12_evenest_58 ?_
        refine lv_icmp_gt (tgt := 97) hx hb dX12_evenest_61 rfl (fun c_54 => ?_) (fun c_54 => ?_)
        · have c_54 : (G_20.1 66 62).toInt < y_53.toInt := xI_lt rfl rfl c_54
          obtain ⟨y_55, ey_55⟩ : ∃ q, q = x_38 + 1 := ⟨_, rfl⟩
          have ty_55 : y_55.toInt = x_38.toInt + 1 := xI_add rfl rfl ey_55 ((by first | exact ok_21 f_41.1 | omega)) ((by first | exact ok_238 f_41.2 | omega))
          refine lv_iinc (v := y_55) (lv' := [(5, .int y_55), (6, .int x_49), (0, .ref (a 66)), (4, .int p3)]) hx hb dX12_evenest_97 hl (k := 1) rfl (by rw [ey_55]; rfl) (lt_b rfl) rfl (fun ls hl => ?_)
          refine lv_goto (tgt := 32) hx hb dX12_evenest_100 rfl ?_
          exact ih_36 (60 - y_55.toInt : Int).toNat ((by first | (clear hP9 hW9 f_6 c_7 f_15 d_1 d_2 c_16 g_18 b_24; omega) | omega)) _ _ _ ⟨G_45, y_55, (Int.toNat_of_nonneg ((by first | (clear hP9 hW9 f_6 c_7 f_15 d_1 d_2 c_16 g_18 b_24 hn_42 hn_52; omega) | omega))), ⟨(by first | exact ok_23 f_41.1 ty_55 | omega), (by first | (clear hP9 hW9 f_6 c_7 f_15 d_1 d_2 c_16 g_18 b_24 hn_42 hn_52; omega) | omega)⟩, (hX_39.st (St_n_evenest_1_mk ⟨x_38, G_34, y_55, G_45, rfl, rfl, f_41, hB_G_34, ⟨y_43, ty_43, ⟨c_44, ⟨x_49, G_45, hX_50, f_51, hB_G_45, hq_46, ⟨y_53, ty_53, ⟨c_54, ⟨y_55, ty_55, ⟨rfl, rfl⟩⟩⟩⟩⟩⟩⟩⟩)), hW, hB_G_45, hF, (Fr.call9 (rs := [103]) (fs := []) (Fr.call9 (rs := [103]) (fs := []) Fr.rf hq_35 rfl rfl) hq_46 rfl rfl), hS, lv_sub hl [0, 2, 3] rfl⟩
        · have c_54 : y_53.toInt ≤ (G_20.1 66 62).toInt := xI_nlt rfl rfl c_54
          refine lv_aload_n hx hb dX12_evenest_64 rfl (lv_at hl 2 rfl) ?_
          refine lv_iload hx hb dX12_evenest_65 (lv_at hl 0 rfl) ?_
          refine lv_iload hx hb dX12_evenest_67 (lv_at hl 0 rfl) ?_
          refine lv_iload hx hb dX12_evenest_69 (lv_at hl 1 rfl) ?_
          refine lv_iadd hx hb dX12_evenest_71 ?_
          refine lv_topi (fun y_56 ey_56 => ?_)
          have ty_56 : y_56.toInt = x_49.toInt + x_38.toInt := xI_add rfl rfl ey_56 ((by first | exact ok_27 f_41.1 f_51.1 | omega)) ((by first | exact ok_1124 f_41.2 f_51.2 | omega))
          refine S_calli (va_runV (As := [.int x_49, .int y_56]) (rest := []) ⟨hx, hb, hml, hown, hts⟩ (n_isEven l D k A a z G_45 x_49 y_56 ⟨(by first | exact f_51.1 | omega), (by first | exact ok_1125 b_32.2 f_41.1 f_51.2 ty_53 c_54 | omega)⟩ ⟨(by first | exact ok_116 f_41.1 f_51.1 ty_56 | omega), (by first | exact ok_1126 b_32.2 f_41.2 f_51.2 ty_53 c_54 ty_56 | omega)⟩) (cwV 2 hts (gd_V hgd m1887 m1889 m99 m131 m1890) rfl rfl rfl hd_X12_isEven ⟨Nat.le_of_ble_eq_true rfl, Nat.le_of_ble_eq_true rfl⟩) (pre_W hW hB_G_45 hK hZ hS kd_66 rfl) rfl rfl hl.1 rfl (lv_room (Nat.le_of_ble_eq_true rfl)) dX12_evenest_72 ⟨Nat.le_of_ble_eq_true rfl, Nat.le_of_ble_eq_true rfl⟩) hS (fun r_57 G_58 H locs hpo hW hS => ?_)
          have hX_61 : Q_isEven x_49 y_56 G_45 r_57 G_58 := hpo
          obtain ⟨hB_G_58, hq_59, f_62, -⟩ := hpo
          have hF := hF.call9 hq_59 rfl rfl
          refine lv_if_eq (tgt := 91) hx hb dX12_evenest_75 rfl (fun c_63 => ?_) (fun c_63 => ?_)
          · have c_63 : r_57.toInt = 0 := xI_eq rfl rfl c_63
            obtain ⟨y_64, ey_64⟩ : ∃ q, q = x_49 + 1 := ⟨_, rfl⟩
            have ty_64 : y_64.toInt = x_49.toInt + 1 := xI_add rfl rfl ey_64 ((by first | exact ok_21 f_51.1 | omega)) ((by first | exact ok_256 f_51.2 | omega))
            refine lv_iinc (v := y_64) (lv' := [(6, .int y_64), (5, .int x_38), (0, .ref (a 66)), (4, .int p3)]) hx hb dX12_evenest_91 hl (k := 0) rfl (by rw [ey_64]; rfl) (lt_b rfl) rfl (fun ls hl => ?_)
            refine lv_goto (tgt := 52) hx hb dX12_evenest_94 rfl ?_
            exact ih_47 (61 - y_64.toInt : Int).toNat ((by first | (clear hP9 hW9 f_6 c_7 f_15 d_1 d_2 c_16 g_18 b_24 f_62 c_63; omega) | omega)) _ _ _ ⟨G_58, y_64, (Int.toNat_of_nonneg ((by first | exact ok_1127 b_32.2 f_41.1 f_51.2 ty_53 c_54 ty_64 | omega))), ⟨(by first | exact ok_23 f_51.1 ty_64 | omega), (by first | exact ok_1128 b_32.2 f_41.1 f_51.2 ty_53 c_54 ty_64 | omega)⟩, (hX_50.st (St_n_evenest_2_mk ⟨x_49, G_45, y_64, G_58, rfl, rfl, f_51, hB_G_45, ⟨y_53, ty_53, ⟨c_54, ⟨y_56, ty_56, ⟨r_57, G_58, hX_61, ⟨c_63, ⟨y_64, ty_64, ⟨rfl, rfl⟩⟩⟩⟩⟩⟩⟩⟩)), hW, hB_G_58, hF, (Fr.call9 (rs := [103]) (fs := []) (Fr.call9 (rs := [103]) (fs := []) Fr.rf hq_46 rfl rfl) hq_59 rfl rfl), hS, lv_sub hl [0, 1, 2, 3] rfl⟩
          · have c_63 : r_57.toInt ≠ 0 := xI_ne rfl rfl c_63
            refine lv_iload hx hb dX12_evenest_78 (lv_at hl 3 rfl) ?_
            refine lv_if_ne (tgt := 88) hx hb dX12_evenest_80 rfl (fun c_65 => ?_) (fun c_65 => ?_)
            · have c_65 : p3.toInt ≠ 0 := xI_ne rfl rfl c_65
              refine lv_iload hx hb dX12_evenest_88 (lv_at hl 0 rfl) ?_
              exact W.iret (v := x_49) hx hb hr (fun t ht _ => ⟨⟨x_49, G_58, rfl, (Q_evenest_mk ⟨hB_G_58, hF, ⟨r_1, G_2, hX_5, (Or.inr ⟨c_7, ⟨r_10, G_11, hX_14, (Or.inr ⟨c_16, ⟨G_20, hX_23, ⟨x_38, G_34, hX_39, f_41, hB_G_34, hq_35, ⟨y_43, ty_43, (Or.inr ⟨c_44, ⟨x_49, G_45, hX_50, f_51, hB_G_45, hq_46, ⟨y_53, ty_53, ⟨c_54, ⟨y_56, ty_56, ⟨r_57, G_58, hX_61, ⟨c_63, (Or.inr ⟨c_65, ⟨rfl, rfl⟩⟩)⟩⟩⟩⟩⟩⟩⟩)⟩⟩⟩⟩)⟩⟩)⟩⟩), wd_t ht hW⟩, hS.F ht⟩) hS.2.2 dX12_evenest_90
            · have c_65 : p3.toInt = 0 := xI_eq rfl rfl c_65
              refine lv_iload hx hb dX12_evenest_83 (lv_at hl 1 rfl) ?_
              refine lv_goto (tgt := 90) hx hb dX12_evenest_85 rfl ?_
              exact W.iret (v := x_38) hx hb hr (fun t ht _ => ⟨⟨x_38, G_58, rfl, (Q_evenest_mk ⟨hB_G_58, hF, ⟨r_1, G_2, hX_5, (Or.inr ⟨c_7, ⟨r_10, G_11, hX_14, (Or.inr ⟨c_16, ⟨G_20, hX_23, ⟨x_38, G_34, hX_39, f_41, hB_G_34, hq_35, ⟨y_43, ty_43, (Or.inr ⟨c_44, ⟨x_49, G_45, hX_50, f_51, hB_G_45, hq_46, ⟨y_53, ty_53, ⟨c_54, ⟨y_56, ty_56, ⟨r_57, G_58, hX_61, ⟨c_63, (Or.inl ⟨c_65, ⟨rfl, rfl⟩⟩)⟩⟩⟩⟩⟩⟩⟩)⟩⟩⟩⟩)⟩⟩)⟩⟩), wd_t ht hW⟩, hS.F ht⟩) hS.2.2 dX12_evenest_90
    · have c_16 : r_10.toInt = 0 := xI_eq rfl rfl c_16
      refine ic_m1 hx hb dX12_evenest_20 ?_
      exact W.iret (v := (-1)) hx hb hr (fun t ht _ => ⟨⟨(-1), G_11, rfl, (Q_evenest_mk ⟨hB_G_11, hF, ⟨r_1, G_2, hX_5, (Or.inr ⟨c_7, ⟨r_10, G_11, hX_14, (Or.inl ⟨c_16, ⟨rfl, rfl⟩⟩)⟩⟩)⟩⟩), wd_t ht hW⟩, hS.F ht⟩) hS.2.2 dX12_evenest_21
