theorem m52 : Cond.selects RX12 yX12_readLine yX12_readLine ∈ gd := gd_mem 52 (by decide +kernel) (by decide +kernel)
theorem m1619 : Cond.methodLink RX12 419 yX12_readLine ∈ gd := gd_mem 1619 (by decide +kernel) (by decide +kernel)
theorem m1621 : Cond.instanceMethod yX12_readLine ∈ gd := gd_mem 1621 (by decide +kernel) (by decide +kernel)
theorem m1622 : Cond.code yX12_readLine cX12_readLine 1 none ∈ gd := gd_mem 1622 (by decide +kernel) (by decide +kernel)
theorem dX12_readAll_0 : decode cX12_readAll 0 = .ok (.aload_n 0, 1) := by decide +kernel
theorem dX12_readAll_1 : decode cX12_readAll 1 = .ok (.aload_n 0, 1) := by decide +kernel
theorem dX12_readAll_2 : decode cX12_readAll 2 = .ok (.getfield 178, 3) := by decide +kernel
theorem dX12_readAll_5 : decode cX12_readAll 5 = .ok (.putfield 188, 3) := by decide +kernel
theorem dX12_readAll_8 : decode cX12_readAll 8 = .ok (.aload_n 0, 1) := by decide +kernel
theorem dX12_readAll_9 : decode cX12_readAll 9 = .ok (.iconst 0, 1) := by decide +kernel
theorem dX12_readAll_10 : decode cX12_readAll 10 = .ok (.putfield 178, 3) := by decide +kernel
theorem dX12_readAll_13 : decode cX12_readAll 13 = .ok (.aload_n 0, 1) := by decide +kernel
theorem dX12_readAll_14 : decode cX12_readAll 14 = .ok (.iconst 0, 1) := by decide +kernel
theorem dX12_readAll_15 : decode cX12_readAll 15 = .ok (.putfield 185, 3) := by decide +kernel
theorem dX12_readAll_18 : decode cX12_readAll 18 = .ok (.aload_n 0, 1) := by decide +kernel
theorem dX12_readAll_19 : decode cX12_readAll 19 = .ok (.iconst 0, 1) := by decide +kernel
theorem dX12_readAll_20 : decode cX12_readAll 20 = .ok (.putfield 218, 3) := by decide +kernel
theorem dX12_readAll_23 : decode cX12_readAll 23 = .ok (.aload_n 0, 1) := by decide +kernel
theorem dX12_readAll_24 : decode cX12_readAll 24 = .ok (.iconst (-1), 1) := by decide +kernel
theorem dX12_readAll_25 : decode cX12_readAll 25 = .ok (.putfield 13, 3) := by decide +kernel
theorem dX12_readAll_28 : decode cX12_readAll 28 = .ok (.aload_n 0, 1) := by decide +kernel
theorem dX12_readAll_29 : decode cX12_readAll 29 = .ok (.iconst 0, 1) := by decide +kernel
theorem dX12_readAll_30 : decode cX12_readAll 30 = .ok (.putfield 359, 3) := by decide +kernel
theorem dX12_readAll_33 : decode cX12_readAll 33 = .ok (.aload_n 0, 1) := by decide +kernel
theorem dX12_readAll_34 : decode cX12_readAll 34 = .ok (.iconst 0, 1) := by decide +kernel
theorem dX12_readAll_35 : decode cX12_readAll 35 = .ok (.putfield 379, 3) := by decide +kernel
theorem dX12_readAll_38 : decode cX12_readAll 38 = .ok (.aload_n 0, 1) := by decide +kernel
theorem dX12_readAll_39 : decode cX12_readAll 39 = .ok (.iconst 0, 1) := by decide +kernel
theorem dX12_readAll_40 : decode cX12_readAll 40 = .ok (.putfield 385, 3) := by decide +kernel
theorem dX12_readAll_43 : decode cX12_readAll 43 = .ok (.aload_n 0, 1) := by decide +kernel
theorem dX12_readAll_44 : decode cX12_readAll 44 = .ok (.getfield 72, 3) := by decide +kernel
theorem dX12_readAll_47 : decode cX12_readAll 47 = .ok (.iconst 0, 1) := by decide +kernel
theorem dX12_readAll_48 : decode cX12_readAll 48 = .ok (.iconst 0, 1) := by decide +kernel
theorem dX12_readAll_49 : decode cX12_readAll 49 = .ok (.iastore, 1) := by decide +kernel
theorem dX12_readAll_50 : decode cX12_readAll 50 = .ok (.aload_n 0, 1) := by decide +kernel
theorem dX12_readAll_51 : decode cX12_readAll 51 = .ok (.getfield 72, 3) := by decide +kernel
theorem dX12_readAll_54 : decode cX12_readAll 54 = .ok (.iconst 1, 1) := by decide +kernel
theorem dX12_readAll_55 : decode cX12_readAll 55 = .ok (.iconst 1, 1) := by decide +kernel
theorem dX12_readAll_56 : decode cX12_readAll 56 = .ok (.iastore, 1) := by decide +kernel
theorem dX12_readAll_57 : decode cX12_readAll 57 = .ok (.aload_n 0, 1) := by decide +kernel
theorem dX12_readAll_58 : decode cX12_readAll 58 = .ok (.getfield 72, 3) := by decide +kernel
theorem dX12_readAll_61 : decode cX12_readAll 61 = .ok (.iconst 2, 1) := by decide +kernel
theorem dX12_readAll_62 : decode cX12_readAll 62 = .ok (.iconst 0, 1) := by decide +kernel
theorem dX12_readAll_63 : decode cX12_readAll 63 = .ok (.iastore, 1) := by decide +kernel
theorem dX12_readAll_64 : decode cX12_readAll 64 = .ok (.aload_n 0, 1) := by decide +kernel
theorem dX12_readAll_65 : decode cX12_readAll 65 = .ok (.bipush 30, 2) := by decide +kernel
theorem dX12_readAll_67 : decode cX12_readAll 67 = .ok (.putfield 410, 3) := by decide +kernel
theorem dX12_readAll_70 : decode cX12_readAll 70 = .ok (.aload_n 0, 1) := by decide +kernel
theorem dX12_readAll_71 : decode cX12_readAll 71 = .ok (.bipush 10, 2) := by decide +kernel
theorem dX12_readAll_73 : decode cX12_readAll 73 = .ok (.putfield 413, 3) := by decide +kernel
theorem dX12_readAll_76 : decode cX12_readAll 76 = .ok (.aload_n 0, 1) := by decide +kernel
theorem dX12_readAll_77 : decode cX12_readAll 77 = .ok (.iconst 0, 1) := by decide +kernel
theorem dX12_readAll_78 : decode cX12_readAll 78 = .ok (.putfield 416, 3) := by decide +kernel
theorem dX12_readAll_81 : decode cX12_readAll 81 = .ok (.aload_n 0, 1) := by decide +kernel
theorem dX12_readAll_82 : decode cX12_readAll 82 = .ok (.iconst 0, 1) := by decide +kernel
theorem dX12_readAll_83 : decode cX12_readAll 83 = .ok (.putfield 391, 3) := by decide +kernel
theorem dX12_readAll_86 : decode cX12_readAll 86 = .ok (.aload_n 0, 1) := by decide +kernel
theorem dX12_readAll_87 : decode cX12_readAll 87 = .ok (.iconst 0, 1) := by decide +kernel
theorem dX12_readAll_88 : decode cX12_readAll 88 = .ok (.putfield 312, 3) := by decide +kernel
theorem dX12_readAll_91 : decode cX12_readAll 91 = .ok (.aload_n 0, 1) := by decide +kernel
theorem dX12_readAll_92 : decode cX12_readAll 92 = .ok (.invokevirtual 279, 3) := by decide +kernel
theorem dX12_readAll_95 : decode cX12_readAll 95 = .ok (.aload_n 0, 1) := by decide +kernel
theorem dX12_readAll_96 : decode cX12_readAll 96 = .ok (.getfield 218, 3) := by decide +kernel
theorem dX12_readAll_99 : decode cX12_readAll 99 = .ok (.ifCond .ne 17, 3) := by decide +kernel
theorem dX12_readAll_102 : decode cX12_readAll 102 = .ok (.aload_n 0, 1) := by decide +kernel
theorem dX12_readAll_103 : decode cX12_readAll 103 = .ok (.getfield 205, 3) := by decide +kernel
theorem dX12_readAll_106 : decode cX12_readAll 106 = .ok (.ifCond .eq 10, 3) := by decide +kernel
theorem dX12_readAll_109 : decode cX12_readAll 109 = .ok (.aload_n 0, 1) := by decide +kernel
theorem dX12_readAll_110 : decode cX12_readAll 110 = .ok (.invokevirtual 419, 3) := by decide +kernel
theorem dX12_readAll_113 : decode cX12_readAll 113 = .ok (.goto (-18), 3) := by decide +kernel
theorem dX12_readAll_116 : decode cX12_readAll 116 = .ok (.return_, 1) := by decide +kernel
set_option maxHeartbeats 4000000 in
set_option maxRecDepth 100000 in
theorem n_readAll (l : Launch) (D : va_G) (k : KT) (A : Nat → Prop) (a : Nat → Nat) (z : SK) (G : GS)   : Met l yX12_readAll (WS yX12_readAll cX12_readAll 1 none) ({ frames := 7, cells := 0, slots := 0, locals := 149 }) (va_Pc [.ref (a 66)] (cW D k A a z G)) (va_Qv (fun (G1 : GS) => Q_readAll G G1) (fun (G1 : GS) t => Wd D k A a G1 t.heap) A) 0 0 A := by
  refine Met.ofW (cc := cX12_readAll) (maxL := 1) (ret := none) (by decide) rfl ?_
  intro p e s m args below meth c s₁ B hml hv
  obtain ⟨rfl, hW, hB_G, hK, hZ⟩ := hv
  have hx := B.exec
  have hb := B.bytes
  have hr := B.returns
  have hts := atoms_spec (ws := WS yX12_readAll cX12_readAll 1 none) B.pre
  have hgd : ∀ w ∈ gd, w ∈ WS yX12_readAll cX12_readAll 1 none := fun w h => List.mem_cons_of_mem _ h
  have hg : ∀ w ∈ gd, w.before _ s = true := fun w h => hts w (hgd w h)
  have hown : s.vm.findClass RX12 = some m.cls := findClass_of_methodNamed B.named
  have hS : va_S A s.heap s.heap [] := va_S.rf
  have hF : Fr [68, 69, 70, 71, 75, 77, 78, 79, 80, 81, 82, 83, 84, 85, 86] [(66, 1), (66, 2), (66, 3), (66, 4), (66, 5), (66, 6), (66, 7), (66, 8), (66, 9), (66, 19), (66, 20), (66, 21), (66, 23), (66, 24), (66, 45), (66, 46), (66, 47), (66, 48), (66, 49), (66, 50), (66, 51)] G G := Fr.rf
  have hl := lv_entry ([.ref (a 66)]) (n := 1) (Nat.le_of_ble_eq_true rfl)
  rw [lg_entry_eq]
  generalize (lg_sl ([.ref (a 66)]) ++ List.replicate (1 - (lg_sl ([.ref (a 66)])).length) Slot.unset).toArray = ls at hl ⊢
  have hl : lv_has ls 1 [(0, .ref (a 66))] := hl
  refine lv_aload_n hx hb dX12_readAll_0 rfl (lv_at hl 0 rfl) ?_
  refine lv_aload_n hx hb dX12_readAll_1 rfl (lv_at hl 0 rfl) ?_
  have b_1 : 0 ≤ (G.1 66 1).toInt ∧ (G.1 66 1).toInt ≤ 1600 := hB_G.i 66 1 rfl rfl
  refine S_getI (v := (G.1 66 1)) (C := RX12) (T := TX12) (N := 89) hx hb hg iX12 hown hK hW kd_66 rfl 1 (by decide) (hg (Cond.fieldLink RX12 178 "SlabWalkModel" "taped" "I") m1315) (fun _ h9 => h9) rfl rfl dX12_readAll_2 ?_
  refine S_putI (ty := .int) (C := RX12) (T := TX12) (N := 89) hx hb hg iX12 tyX12 tyX12_ok nmX12 hown hK hW hS kd_66 rfl 5 (by decide) (hg (Cond.fieldLink RX12 188 "SlabWalkModel" "size" "I") m1319) (fun _ h9 => h9) rfl (by decide +kernel) rfl rfl rfl dX12_readAll_5 (fun G_2 H locs eG_2 hW hS => ?_)
  have hB_G_2 : Bd G_2 := hB_G.put (V := (G.1 66 1).toInt) (lo := 0) (hi := 1600) eG_2 rfl rfl rfl (by omega) (by omega) (hB_G.2.put eG_2 rfl)
  have hF := hF.put eG_2 (Or.inr (by decide))
  refine lv_aload_n hx hb dX12_readAll_8 rfl (lv_at hl 0 rfl) ?_
  refine lv_iconst (v := 0) hx hb dX12_readAll_9 (by decide) ?_
  refine S_putI (ty := .int) (C := RX12) (T := TX12) (N := 89) hx hb hg iX12 tyX12 tyX12_ok nmX12 hown hK hW hS kd_66 rfl 1 (by decide) (hg (Cond.fieldLink RX12 178 "SlabWalkModel" "taped" "I") m1315) (fun _ h9 => h9) rfl (by decide +kernel) rfl rfl rfl dX12_readAll_10 (fun G_3 H locs eG_3 hW hS => ?_)
  have hB_G_3 : Bd G_3 := hB_G_2.put (V := 0) (lo := 0) (hi := 1600) eG_3 rfl rfl rfl (by omega) (by omega) (hB_G_2.2.put eG_3 rfl)
  have hF := hF.put eG_3 (Or.inr (by decide))
  refine lv_aload_n hx hb dX12_readAll_13 rfl (lv_at hl 0 rfl) ?_
  refine lv_iconst (v := 0) hx hb dX12_readAll_14 (by decide) ?_
  refine S_putI (ty := .int) (C := RX12) (T := TX12) (N := 89) hx hb hg iX12 tyX12 tyX12_ok nmX12 hown hK hW hS kd_66 rfl 4 (by decide) (hg (Cond.fieldLink RX12 185 "SlabWalkModel" "at" "I") m1318) (fun _ h9 => h9) rfl (by decide +kernel) rfl rfl rfl dX12_readAll_15 (fun G_4 H locs eG_4 hW hS => ?_)
  have hB_G_4 : Bd G_4 := hB_G_3.put (V := 0) (lo := 0) (hi := 1600) eG_4 rfl rfl rfl (by omega) (by omega) (hB_G_3.2.put eG_4 rfl)
  have hF := hF.put eG_4 (Or.inr (by decide))
  refine lv_aload_n hx hb dX12_readAll_18 rfl (lv_at hl 0 rfl) ?_
  refine lv_iconst (v := 0) hx hb dX12_readAll_19 (by decide) ?_
  refine S_putI (ty := .int) (C := RX12) (T := TX12) (N := 89) hx hb hg iX12 tyX12 tyX12_ok nmX12 hown hK hW hS kd_66 rfl 2 (by decide) (hg (Cond.fieldLink RX12 218 "SlabWalkModel" "fault" "I") m1316) (fun _ h9 => h9) rfl (by decide +kernel) rfl rfl rfl dX12_readAll_20 (fun G_5 H locs eG_5 hW hS => ?_)
  have hB_G_5 : Bd G_5 := hB_G_4.put (V := 0) (lo := 0) (hi := 4) eG_5 rfl rfl rfl (by omega) (by omega) (hB_G_4.2.put eG_5 rfl)
  have hF := hF.put eG_5 (Or.inr (by decide))
  refine lv_aload_n hx hb dX12_readAll_23 rfl (lv_at hl 0 rfl) ?_
  refine lv_iconst (v := (-1)) hx hb dX12_readAll_24 (by decide) ?_
  refine S_putI (ty := .int) (C := RX12) (T := TX12) (N := 89) hx hb hg iX12 tyX12 tyX12_ok nmX12 hown hK hW hS kd_66 rfl 3 (by decide) (hg (Cond.fieldLink RX12 13 "SlabWalkModel" "faultPlace" "I") m1317) (fun _ h9 => h9) rfl (by decide +kernel) rfl rfl rfl dX12_readAll_25 (fun G_6 H locs eG_6 hW hS => ?_)
  have hB_G_6 : Bd G_6 := hB_G_5.put (V := (-1)) (lo := (-1)) (hi := 1600) eG_6 rfl rfl rfl (by omega) (by omega) (hB_G_5.2.put eG_6 rfl)
  have hF := hF.put eG_6 (Or.inr (by decide))
  refine lv_aload_n hx hb dX12_readAll_28 rfl (lv_at hl 0 rfl) ?_
  refine lv_iconst (v := 0) hx hb dX12_readAll_29 (by decide) ?_
  refine S_putI (ty := .int) (C := RX12) (T := TX12) (N := 89) hx hb hg iX12 tyX12 tyX12_ok nmX12 hown hK hW hS kd_66 rfl 45 (by decide) (hg (Cond.fieldLink RX12 359 "SlabWalkModel" "nStreets" "I") m1359) (fun _ h9 => h9) rfl (by decide +kernel) rfl rfl rfl dX12_readAll_30 (fun G_7 H locs eG_7 hW hS => ?_)
  have hB_G_7 : Bd G_7 := hB_G_6.put (V := 0) (lo := 0) (hi := 3) eG_7 rfl rfl rfl (by omega) (by omega) (hB_G_6.2.put eG_7 rfl)
  have hF := hF.put eG_7 (Or.inr (by decide))
  refine lv_aload_n hx hb dX12_readAll_33 rfl (lv_at hl 0 rfl) ?_
  refine lv_iconst (v := 0) hx hb dX12_readAll_34 (by decide) ?_
  refine S_putI (ty := .int) (C := RX12) (T := TX12) (N := 89) hx hb hg iX12 tyX12 tyX12_ok nmX12 hown hK hW hS kd_66 rfl 46 (by decide) (hg (Cond.fieldLink RX12 379 "SlabWalkModel" "nWalkers" "I") m1360) (fun _ h9 => h9) rfl (by decide +kernel) rfl rfl rfl dX12_readAll_35 (fun G_8 H locs eG_8 hW hS => ?_)
  have hB_G_8 : Bd G_8 := hB_G_7.put (V := 0) (lo := 0) (hi := 4) eG_8 rfl rfl rfl (by omega) (by omega) (hB_G_7.2.put eG_8 rfl)
  have hF := hF.put eG_8 (Or.inr (by decide))
  have u_9 := gN_0 (G := G_8) (gp_eq eG_8)
  refine lv_aload_n hx hb dX12_readAll_38 rfl (lv_at hl 0 rfl) ?_
  refine lv_iconst (v := 0) hx hb dX12_readAll_39 (by decide) ?_
  refine S_putI (ty := .int) (C := RX12) (T := TX12) (N := 89) hx hb hg iX12 tyX12 tyX12_ok nmX12 hown hK hW hS kd_66 rfl 47 (by decide) (hg (Cond.fieldLink RX12 385 "SlabWalkModel" "nRules" "I") m1361) (fun _ h9 => h9) rfl (by decide +kernel) rfl rfl rfl dX12_readAll_40 (fun G_10 H locs eG_10 hW hS => ?_)
  have hB_G_10 : Bd G_10 := hB_G_8.put (V := 0) (lo := 0) (hi := 6) eG_10 rfl rfl rfl (by omega) (by omega) (hB_G_8.2.put eG_10 rfl)
  have hF := hF.put eG_10 (Or.inr (by decide))
  have u_11 := gE_0 (G := G_10) (gp_eq eG_10)
  refine lv_aload_n hx hb dX12_readAll_43 rfl (lv_at hl 0 rfl) ?_
  refine S_getR (n := 86) (C := RX12) (T := TX12) (N := 89) hx hb hg iX12 hown hK hW kd_66 rfl 34 (by decide) (hg (Cond.fieldLink RX12 72 "SlabWalkModel" "nSlips" "[I") m1348) (fun _ h9 => h9) rfl dX12_readAll_44 ?_
  refine lv_iconst (v := 0) hx hb dX12_readAll_47 (by decide) ?_
  refine lv_iconst (v := 0) hx hb dX12_readAll_48 (by decide) ?_
  refine S_iast hx hb hK hW hS kd_86 (vin (by decide) (by decide)) dX12_readAll_49 (fun G_12 H locs eG_12 hW hS => ?_)
  have hB_G_12 : Bd G_12 := hB_G_10.put (lo := (-2147483648)) (hi := 2147483647) eG_12 rfl rfl rfl (tI_rng _).1 (tI_rng _).2 (hB_G_10.2.put eG_12 rfl)
  have hF := hF.put eG_12 (Or.inl (by decide))
  refine lv_aload_n hx hb dX12_readAll_50 rfl (lv_at hl 0 rfl) ?_
  refine S_getR (n := 86) (C := RX12) (T := TX12) (N := 89) hx hb hg iX12 hown hK hW kd_66 rfl 34 (by decide) (hg (Cond.fieldLink RX12 72 "SlabWalkModel" "nSlips" "[I") m1348) (fun _ h9 => h9) rfl dX12_readAll_51 ?_
  refine lv_iconst (v := 1) hx hb dX12_readAll_54 (by decide) ?_
  refine lv_iconst (v := 1) hx hb dX12_readAll_55 (by decide) ?_
  refine S_iast hx hb hK hW hS kd_86 (vin (by decide) (by decide)) dX12_readAll_56 (fun G_13 H locs eG_13 hW hS => ?_)
  have hB_G_13 : Bd G_13 := hB_G_12.put (lo := (-2147483648)) (hi := 2147483647) eG_13 rfl rfl rfl (tI_rng _).1 (tI_rng _).2 (hB_G_12.2.put eG_13 rfl)
  have hF := hF.put eG_13 (Or.inl (by decide))
  refine lv_aload_n hx hb dX12_readAll_57 rfl (lv_at hl 0 rfl) ?_
  refine S_getR (n := 86) (C := RX12) (T := TX12) (N := 89) hx hb hg iX12 hown hK hW kd_66 rfl 34 (by decide) (hg (Cond.fieldLink RX12 72 "SlabWalkModel" "nSlips" "[I") m1348) (fun _ h9 => h9) rfl dX12_readAll_58 ?_
  refine lv_iconst (v := 2) hx hb dX12_readAll_61 (by decide) ?_
  refine lv_iconst (v := 0) hx hb dX12_readAll_62 (by decide) ?_
  refine S_iast hx hb hK hW hS kd_86 (vin (by decide) (by decide)) dX12_readAll_63 (fun G_14 H locs eG_14 hW hS => ?_)
  have hB_G_14 : Bd G_14 := hB_G_13.put (lo := (-2147483648)) (hi := 2147483647) eG_14 rfl rfl rfl (tI_rng _).1 (tI_rng _).2 (hB_G_13.2.put eG_14 rfl)
  have hF := hF.put eG_14 (Or.inl (by decide))
  refine lv_aload_n hx hb dX12_readAll_64 rfl (lv_at hl 0 rfl) ?_
  refine lv_bipush (v := 30) hx hb dX12_readAll_65 (by decide) ?_
  refine S_putI (ty := .int) (C := RX12) (T := TX12) (N := 89) hx hb hg iX12 tyX12 tyX12_ok nmX12 hown hK hW hS kd_66 rfl 48 (by decide) (hg (Cond.fieldLink RX12 410 "SlabWalkModel" "nHand" "I") m1362) (fun _ h9 => h9) rfl (by decide +kernel) rfl rfl rfl dX12_readAll_67 (fun G_15 H locs eG_15 hW hS => ?_)
  have hB_G_15 : Bd G_15 := hB_G_14.put (lo := (-2147483648)) (hi := 2147483647) eG_15 rfl rfl rfl (tI_rng _).1 (tI_rng _).2 (hB_G_14.2.put eG_15 rfl)
  have hF := hF.put eG_15 (Or.inr (by decide))
  refine lv_aload_n hx hb dX12_readAll_70 rfl (lv_at hl 0 rfl) ?_
  refine lv_bipush (v := 10) hx hb dX12_readAll_71 (by decide) ?_
  refine S_putI (ty := .int) (C := RX12) (T := TX12) (N := 89) hx hb hg iX12 tyX12 tyX12_ok nmX12 hown hK hW hS kd_66 rfl 49 (by decide) (hg (Cond.fieldLink RX12 413 "SlabWalkModel" "nSlack" "I") m1363) (fun _ h9 => h9) rfl (by decide +kernel) rfl rfl rfl dX12_readAll_73 (fun G_16 H locs eG_16 hW hS => ?_)
  have hB_G_16 : Bd G_16 := hB_G_15.put (lo := (-2147483648)) (hi := 2147483647) eG_16 rfl rfl rfl (tI_rng _).1 (tI_rng _).2 (hB_G_15.2.put eG_16 rfl)
  have hF := hF.put eG_16 (Or.inr (by decide))
  refine lv_aload_n hx hb dX12_readAll_76 rfl (lv_at hl 0 rfl) ?_
  refine lv_iconst (v := 0) hx hb dX12_readAll_77 (by decide) ?_
  refine S_putI (ty := .int) (C := RX12) (T := TX12) (N := 89) hx hb hg iX12 tyX12 tyX12_ok nmX12 hown hK hW hS kd_66 rfl 50 (by decide) (hg (Cond.fieldLink RX12 416 "SlabWalkModel" "nDraw" "I") m1364) (fun _ h9 => h9) rfl (by decide +kernel) rfl rfl rfl dX12_readAll_78 (fun G_17 H locs eG_17 hW hS => ?_)
  have hB_G_17 : Bd G_17 := hB_G_16.put (lo := (-2147483648)) (hi := 2147483647) eG_17 rfl rfl rfl (tI_rng _).1 (tI_rng _).2 (hB_G_16.2.put eG_17 rfl)
  have hF := hF.put eG_17 (Or.inr (by decide))
  refine lv_aload_n hx hb dX12_readAll_81 rfl (lv_at hl 0 rfl) ?_
  refine lv_iconst (v := 0) hx hb dX12_readAll_82 (by decide) ?_
  refine S_putI (ty := .int) (C := RX12) (T := TX12) (N := 89) hx hb hg iX12 tyX12 tyX12_ok nmX12 hown hK hW hS kd_66 rfl 51 (by decide) (hg (Cond.fieldLink RX12 391 "SlabWalkModel" "nOnce" "I") m1365) (fun _ h9 => h9) rfl (by decide +kernel) rfl rfl rfl dX12_readAll_83 (fun G_18 H locs eG_18 hW hS => ?_)
  have hB_G_18 : Bd G_18 := hB_G_17.put (lo := (-2147483648)) (hi := 2147483647) eG_18 rfl rfl rfl (tI_rng _).1 (tI_rng _).2 (hB_G_17.2.put eG_18 rfl)
  have hF := hF.put eG_18 (Or.inr (by decide))
  refine lv_aload_n hx hb dX12_readAll_86 rfl (lv_at hl 0 rfl) ?_
  refine lv_iconst (v := 0) hx hb dX12_readAll_87 (by decide) ?_
  refine S_putI (ty := .int) (C := RX12) (T := TX12) (N := 89) hx hb hg iX12 tyX12 tyX12_ok nmX12 hown hK hW hS kd_66 rfl 21 (by decide) (hg (Cond.fieldLink RX12 312 "SlabWalkModel" "nUnits" "I") m1335) (fun _ h9 => h9) rfl (by decide +kernel) rfl rfl rfl dX12_readAll_88 (fun G_19 H locs eG_19 hW hS => ?_)
  have hB_G_19 : Bd G_19 := hB_G_18.put (lo := (-2147483648)) (hi := 2147483647) eG_19 rfl rfl rfl (tI_rng _).1 (tI_rng _).2 (hB_G_18.2.put eG_19 rfl)
  have hF := hF.put eG_19 (Or.inr (by decide))
  refine lv_aload_n hx hb dX12_readAll_91 rfl (lv_at hl 0 rfl) ?_
  have g_20 : (G_19.1 66 4).toInt = 0 := by rw [show G_19.1 66 4 = 0 from ((gp_ne eG_19 (by decide)).trans ((gp_ne eG_18 (by decide)).trans ((gp_ne eG_17 (by decide)).trans ((gp_ne eG_16 (by decide)).trans ((gp_ne eG_15 (by decide)).trans ((gp_ne eG_14 (fun q => absurd q.1 (by decide))).trans ((gp_ne eG_13 (fun q => absurd q.1 (by decide))).trans ((gp_ne eG_12 (fun q => absurd q.1 (by decide))).trans ((gp_ne eG_10 (by decide)).trans ((gp_ne eG_8 (by decide)).trans ((gp_ne eG_7 (by decide)).trans ((gp_ne eG_6 (by decide)).trans ((gp_ne eG_5 (by decide)).trans (gp_eq eG_4))))))))))))))]; rfl
  have g_21 : (G_19.1 66 6).toInt = (G.1 66 6).toInt := by rw [show G_19.1 66 6 = (G.1 66 6) from ((gp_ne eG_19 (by decide)).trans ((gp_ne eG_18 (by decide)).trans ((gp_ne eG_17 (by decide)).trans ((gp_ne eG_16 (by decide)).trans ((gp_ne eG_15 (by decide)).trans ((gp_ne eG_14 (fun q => absurd q.1 (by decide))).trans ((gp_ne eG_13 (fun q => absurd q.1 (by decide))).trans ((gp_ne eG_12 (fun q => absurd q.1 (by decide))).trans ((gp_ne eG_10 (by decide)).trans ((gp_ne eG_8 (by decide)).trans ((gp_ne eG_7 (by decide)).trans ((gp_ne eG_6 (by decide)).trans ((gp_ne eG_5 (by decide)).trans ((gp_ne eG_4 (by decide)).trans ((gp_ne eG_3 (by decide)).trans (gp_ne eG_2 (by decide)))))))))))))))))]
  refine S_callv (va_runV (As := []) (rest := []) ⟨hx, hb, hml, hown, hts⟩ (n_token l D k A a z G_19  ) (cwV 0 hts (gd_V hgd m1602 m1604 m50 m131 m1605) rfl rfl rfl (by decide +kernel) ⟨Nat.le_of_ble_eq_true rfl, Nat.le_of_ble_eq_true rfl⟩) (pre_V hW hB_G_19 hK hZ hS kd_66 rfl) rfl rfl hl.1 rfl (lv_room (Nat.le_of_ble_eq_true rfl)) dX12_readAll_92 ⟨Nat.le_of_ble_eq_true rfl, Nat.le_of_ble_eq_true rfl⟩) hS (fun G_23 H locs hpo hW hS => ?_)
  have hX_26 : Q_token G_19 G_23 := hpo
  obtain ⟨hB_G_23, hq_24, hp_25, -⟩ := hpo
  have hF := hF.call hq_24 (by decide) (by decide)
  have g_32 : (G_23.1 66 2).toInt = 0 := by rw [show G_23.1 66 2 = 0 from ((hq_24.i 66 2 (by decide) (by decide)).trans ((gp_ne eG_19 (by decide)).trans ((gp_ne eG_18 (by decide)).trans ((gp_ne eG_17 (by decide)).trans ((gp_ne eG_16 (by decide)).trans ((gp_ne eG_15 (by decide)).trans ((gp_ne eG_14 (fun q => absurd q.1 (by decide))).trans ((gp_ne eG_13 (fun q => absurd q.1 (by decide))).trans ((gp_ne eG_12 (fun q => absurd q.1 (by decide))).trans ((gp_ne eG_10 (by decide)).trans ((gp_ne eG_8 (by decide)).trans ((gp_ne eG_7 (by decide)).trans ((gp_ne eG_6 (by decide)).trans (gp_eq eG_5))))))))))))))]; rfl
  have b_33 : 0 ≤ (G_23.1 66 4).toInt ∧ (G_23.1 66 4).toInt ≤ 1600 := hB_G_23.i 66 4 rfl rfl
  have g_34 : gE G_23 = gE G_10 := gE_fr (rs := [86]) (fs := [(66, 4), (66, 6), (66, 7), (66, 8), (66, 9), (66, 21), (66, 48), (66, 49), (66, 50), (66, 51)]) (((((((((Fr.rf.put eG_12 (Or.inl (by decide))).put eG_13 (Or.inl (by decide))).put eG_14 (Or.inl (by decide))).put eG_15 (Or.inr (by decide))).put eG_16 (Or.inr (by decide))).put eG_17 (Or.inr (by decide))).put eG_18 (Or.inr (by decide))).put eG_19 (Or.inr (by decide))).call hq_24 (by decide) (by decide)) (by decide) (by decide)
  have g_35 : gN G_23 = gN G_8 := gN_fr (rs := [86]) (fs := [(66, 4), (66, 6), (66, 7), (66, 8), (66, 9), (66, 21), (66, 47), (66, 48), (66, 49), (66, 50), (66, 51)]) ((((((((((Fr.rf.put eG_10 (Or.inr (by decide))).put eG_12 (Or.inl (by decide))).put eG_13 (Or.inl (by decide))).put eG_14 (Or.inl (by decide))).put eG_15 (Or.inr (by decide))).put eG_16 (Or.inr (by decide))).put eG_17 (Or.inr (by decide))).put eG_18 (Or.inr (by decide))).put eG_19 (Or.inr (by decide))).call hq_24 (by decide) (by decide)) (by decide) (by decide)
  have g_36 : (G_23.1 66 2).toInt = 0 := by rw [show G_23.1 66 2 = 0 from ((hq_24.i 66 2 (by decide) (by decide)).trans ((gp_ne eG_19 (by decide)).trans ((gp_ne eG_18 (by decide)).trans ((gp_ne eG_17 (by decide)).trans ((gp_ne eG_16 (by decide)).trans ((gp_ne eG_15 (by decide)).trans ((gp_ne eG_14 (fun q => absurd q.1 (by decide))).trans ((gp_ne eG_13 (fun q => absurd q.1 (by decide))).trans ((gp_ne eG_12 (fun q => absurd q.1 (by decide))).trans ((gp_ne eG_10 (by decide)).trans ((gp_ne eG_8 (by decide)).trans ((gp_ne eG_7 (by decide)).trans ((gp_ne eG_6 (by decide)).trans (gp_eq eG_5))))))))))))))]; rfl
  have g_37 : (G_23.1 86 0).toInt = 0 := by rw [show G_23.1 86 0 = 0 from ((hq_24.i 86 0 (by decide) (by decide)).trans ((gp_ne eG_19 (by decide)).trans ((gp_ne eG_18 (by decide)).trans ((gp_ne eG_17 (by decide)).trans ((gp_ne eG_16 (by decide)).trans ((gp_ne eG_15 (by decide)).trans ((gp_ne eG_14 (fun q => absurd q.2 (by decide))).trans ((gp_ne eG_13 (fun q => absurd q.2 (by decide))).trans (gp_eq eG_12)))))))))]; rfl
  have g_38 : (G_23.1 86 1).toInt = 1 := by rw [show G_23.1 86 1 = 1 from ((hq_24.i 86 1 (by decide) (by decide)).trans ((gp_ne eG_19 (by decide)).trans ((gp_ne eG_18 (by decide)).trans ((gp_ne eG_17 (by decide)).trans ((gp_ne eG_16 (by decide)).trans ((gp_ne eG_15 (by decide)).trans ((gp_ne eG_14 (fun q => absurd q.2 (by decide))).trans (gp_eq eG_13))))))))]; rfl
  have g_39 : (G_23.1 86 2).toInt = 0 := by rw [show G_23.1 86 2 = 0 from ((hq_24.i 86 2 (by decide) (by decide)).trans ((gp_ne eG_19 (by decide)).trans ((gp_ne eG_18 (by decide)).trans ((gp_ne eG_17 (by decide)).trans ((gp_ne eG_16 (by decide)).trans ((gp_ne eG_15 (by decide)).trans (gp_eq eG_14)))))))]; rfl
  refine loop_N (Inv := fun n H locs ls => ∃ (G_27 : GS), (n : Int) = 1604 - (G_27.1 66 4).toInt - (G_27.1 66 2).toInt ∧ ((G_27.1 66 2).toInt = 0 → gE G_27 = 1 ∧ gN G_27 = 1 ∧ 0 ≤ (G_27.1 86 0).toInt ∧ (G_27.1 86 0).toInt ≤ 9 ∧ 0 ≤ (G_27.1 86 1).toInt ∧ (G_27.1 86 1).toInt ≤ 9 ∧ 0 ≤ (G_27.1 86 2).toInt ∧ (G_27.1 86 2).toInt ≤ 9 ∧ 1 ≤ (G_27.1 86 0).toInt + (G_27.1 86 1).toInt + (G_27.1 86 2).toInt) ∧ Rc (St_n_readAll_1) G_23 G_27 ∧ Wd D k A a G_27 H ∧ Bd G_27 ∧ Fr [68, 69, 70, 71, 75, 77, 78, 79, 80, 81, 82, 83, 84, 85, 86] [(66, 1), (66, 2), (66, 3), (66, 4), (66, 5), (66, 6), (66, 7), (66, 8), (66, 9), (66, 19), (66, 20), (66, 21), (66, 23), (66, 24), (66, 45), (66, 46), (66, 47), (66, 48), (66, 49), (66, 50), (66, 51)] G G_27 ∧ Fr [68, 69, 70, 71, 75, 77, 78, 79, 80, 81, 82, 83, 84, 85, 86] [(66, 2), (66, 3), (66, 4), (66, 6), (66, 7), (66, 8), (66, 9), (66, 19), (66, 20), (66, 21), (66, 23), (66, 24), (66, 45), (66, 46), (66, 47), (66, 48), (66, 49), (66, 50), (66, 51)] G_23 G_27 ∧ va_S A s.heap H locs ∧ lv_has ls 1 [(0, .ref (a 66))]) (fun n_30 H locs ls ih_29 hI => ?_) (1604 - (G_23.1 66 4).toInt - (G_23.1 66 2).toInt : Int).toNat ⟨G_23, (Int.toNat_of_nonneg (by omega)), (by omega), Rc.rf, hW, hB_G_23, hF, Fr.rf, hS, lv_sub hl [0] rfl⟩
  obtain ⟨G_27, hn_41, f_40, hX_31, hW, hB_G_27, hF, hq_28, hS, hl⟩ := hI
  have b_42 : 0 ≤ (G_27.1 66 2).toInt ∧ (G_27.1 66 2).toInt ≤ 4 := hB_G_27.i 66 2 rfl rfl
  refine lv_aload_n hx hb dX12_readAll_95 rfl (lv_at hl 0 rfl) ?_
  refine S_getI (v := (G_27.1 66 2)) (C := RX12) (T := TX12) (N := 89) hx hb hg iX12 hown hK hW kd_66 rfl 2 (by decide) (hg (Cond.fieldLink RX12 218 "SlabWalkModel" "fault" "I") m1316) (fun _ h9 => h9) rfl rfl dX12_readAll_96 ?_
  refine lv_if_ne (tgt := 116) hx hb dX12_readAll_99 (by decide) (fun c_43 => ?_) (fun c_43 => ?_)
  · have c_43 : (G_27.1 66 2).toInt ≠ 0 := xI_ne rfl rfl c_43
    have g_44 : (G_27.1 66 1).toInt = 0 := by rw [show G_27.1 66 1 = 0 from ((hq_28.i 66 1 (by decide) (by decide)).trans ((hq_24.i 66 1 (by decide) (by decide)).trans ((gp_ne eG_19 (by decide)).trans ((gp_ne eG_18 (by decide)).trans ((gp_ne eG_17 (by decide)).trans ((gp_ne eG_16 (by decide)).trans ((gp_ne eG_15 (by decide)).trans ((gp_ne eG_14 (fun q => absurd q.1 (by decide))).trans ((gp_ne eG_13 (fun q => absurd q.1 (by decide))).trans ((gp_ne eG_12 (fun q => absurd q.1 (by decide))).trans ((gp_ne eG_10 (by decide)).trans ((gp_ne eG_8 (by decide)).trans ((gp_ne eG_7 (by decide)).trans ((gp_ne eG_6 (by decide)).trans ((gp_ne eG_5 (by decide)).trans ((gp_ne eG_4 (by decide)).trans (gp_eq eG_3)))))))))))))))))]; rfl
    exact W.vret hx hb hr (fun t ht _ => ⟨⟨G_27, rfl, (Q_readAll_mk ⟨hB_G_27, hF, (by omega), ⟨G_19, hB_G_19, ((((((((((((((((Fr.rf.put eG_2 (Or.inr (by decide))).put eG_3 (Or.inr (by decide))).put eG_4 (Or.inr (by decide))).put eG_5 (Or.inr (by decide))).put eG_6 (Or.inr (by decide))).put eG_7 (Or.inr (by decide))).put eG_8 (Or.inr (by decide))).put eG_10 (Or.inr (by decide))).put eG_12 (Or.inl (by decide))).put eG_13 (Or.inl (by decide))).put eG_14 (Or.inl (by decide))).put eG_15 (Or.inr (by decide))).put eG_16 (Or.inr (by decide))).put eG_17 (Or.inr (by decide))).put eG_18 (Or.inr (by decide))).put eG_19 (Or.inr (by decide))), ((gp_ne eG_19 (by decide)).trans ((gp_ne eG_18 (by decide)).trans ((gp_ne eG_17 (by decide)).trans ((gp_ne eG_16 (by decide)).trans ((gp_ne eG_15 (by decide)).trans ((gp_ne eG_14 (fun q => absurd q.1 (by decide))).trans ((gp_ne eG_13 (fun q => absurd q.1 (by decide))).trans ((gp_ne eG_12 (fun q => absurd q.1 (by decide))).trans ((gp_ne eG_10 (by decide)).trans ((gp_ne eG_8 (by decide)).trans ((gp_ne eG_7 (by decide)).trans ((gp_ne eG_6 (by decide)).trans ((gp_ne eG_5 (by decide)).trans ((gp_ne eG_4 (by decide)).trans (gp_eq eG_3))))))))))))))), ((gp_ne eG_19 (by decide)).trans ((gp_ne eG_18 (by decide)).trans ((gp_ne eG_17 (by decide)).trans ((gp_ne eG_16 (by decide)).trans ((gp_ne eG_15 (by decide)).trans ((gp_ne eG_14 (fun q => absurd q.1 (by decide))).trans ((gp_ne eG_13 (fun q => absurd q.1 (by decide))).trans ((gp_ne eG_12 (fun q => absurd q.1 (by decide))).trans ((gp_ne eG_10 (by decide)).trans ((gp_ne eG_8 (by decide)).trans ((gp_ne eG_7 (by decide)).trans ((gp_ne eG_6 (by decide)).trans (gp_eq eG_5))))))))))))), ((gp_ne eG_19 (by decide)).trans ((gp_ne eG_18 (by decide)).trans ((gp_ne eG_17 (by decide)).trans ((gp_ne eG_16 (by decide)).trans ((gp_ne eG_15 (by decide)).trans ((gp_ne eG_14 (fun q => absurd q.1 (by decide))).trans ((gp_ne eG_13 (fun q => absurd q.1 (by decide))).trans ((gp_ne eG_12 (fun q => absurd q.1 (by decide))).trans ((gp_ne eG_10 (by decide)).trans ((gp_ne eG_8 (by decide)).trans ((gp_ne eG_7 (by decide)).trans (gp_eq eG_6)))))))))))), ((gp_ne eG_19 (by decide)).trans ((gp_ne eG_18 (by decide)).trans ((gp_ne eG_17 (by decide)).trans ((gp_ne eG_16 (by decide)).trans ((gp_ne eG_15 (by decide)).trans ((gp_ne eG_14 (fun q => absurd q.1 (by decide))).trans ((gp_ne eG_13 (fun q => absurd q.1 (by decide))).trans ((gp_ne eG_12 (fun q => absurd q.1 (by decide))).trans ((gp_ne eG_10 (by decide)).trans ((gp_ne eG_8 (by decide)).trans ((gp_ne eG_7 (by decide)).trans ((gp_ne eG_6 (by decide)).trans ((gp_ne eG_5 (by decide)).trans (gp_eq eG_4)))))))))))))), ((gp_ne eG_19 (by decide)).trans ((gp_ne eG_18 (by decide)).trans ((gp_ne eG_17 (by decide)).trans ((gp_ne eG_16 (by decide)).trans ((gp_ne eG_15 (by decide)).trans ((gp_ne eG_14 (fun q => absurd q.1 (by decide))).trans ((gp_ne eG_13 (fun q => absurd q.1 (by decide))).trans ((gp_ne eG_12 (fun q => absurd q.1 (by decide))).trans ((gp_ne eG_10 (by decide)).trans ((gp_ne eG_8 (by decide)).trans ((gp_ne eG_7 (by decide)).trans ((gp_ne eG_6 (by decide)).trans ((gp_ne eG_5 (by decide)).trans ((gp_ne eG_4 (by decide)).trans ((gp_ne eG_3 (by decide)).trans (gp_eq eG_2)))))))))))))))), (gp_eq eG_19), ((gp_ne eG_19 (by decide)).trans ((gp_ne eG_18 (by decide)).trans ((gp_ne eG_17 (by decide)).trans ((gp_ne eG_16 (by decide)).trans ((gp_ne eG_15 (by decide)).trans ((gp_ne eG_14 (fun q => absurd q.1 (by decide))).trans ((gp_ne eG_13 (fun q => absurd q.1 (by decide))).trans ((gp_ne eG_12 (fun q => absurd q.1 (by decide))).trans ((gp_ne eG_10 (by decide)).trans ((gp_ne eG_8 (by decide)).trans (gp_eq eG_7))))))))))), ((gp_ne eG_19 (by decide)).trans ((gp_ne eG_18 (by decide)).trans ((gp_ne eG_17 (by decide)).trans ((gp_ne eG_16 (by decide)).trans ((gp_ne eG_15 (by decide)).trans ((gp_ne eG_14 (fun q => absurd q.1 (by decide))).trans ((gp_ne eG_13 (fun q => absurd q.1 (by decide))).trans ((gp_ne eG_12 (fun q => absurd q.1 (by decide))).trans ((gp_ne eG_10 (by decide)).trans (gp_eq eG_8)))))))))), ((gp_ne eG_19 (by decide)).trans ((gp_ne eG_18 (by decide)).trans ((gp_ne eG_17 (by decide)).trans ((gp_ne eG_16 (by decide)).trans ((gp_ne eG_15 (by decide)).trans ((gp_ne eG_14 (fun q => absurd q.1 (by decide))).trans ((gp_ne eG_13 (fun q => absurd q.1 (by decide))).trans ((gp_ne eG_12 (fun q => absurd q.1 (by decide))).trans (gp_eq eG_10))))))))), ((gp_ne eG_19 (by decide)).trans ((gp_ne eG_18 (by decide)).trans ((gp_ne eG_17 (by decide)).trans ((gp_ne eG_16 (by decide)).trans (gp_eq eG_15))))), ((gp_ne eG_19 (by decide)).trans ((gp_ne eG_18 (by decide)).trans ((gp_ne eG_17 (by decide)).trans (gp_eq eG_16)))), ((gp_ne eG_19 (by decide)).trans ((gp_ne eG_18 (by decide)).trans (gp_eq eG_17))), ((gp_ne eG_19 (by decide)).trans (gp_eq eG_18)), (rw_put eG_19 (by decide)).trans ((rw_put eG_18 (by decide)).trans ((rw_put eG_17 (by decide)).trans ((rw_put eG_16 (by decide)).trans ((rw_put eG_15 (by decide)).trans ((rw_ast eG_14).trans (congrArg (fun q => upd q ((2 : Int32).toNatClampNeg) 0) ((rw_ast eG_13).trans (congrArg (fun q => upd q ((1 : Int32).toNatClampNeg) 1) ((rw_ast eG_12).trans (congrArg (fun q => upd q ((0 : Int32).toNatClampNeg) 0) ((rw_put eG_10 (by decide)).trans ((rw_put eG_8 (by decide)).trans ((rw_put eG_7 (by decide)).trans ((rw_put eG_6 (by decide)).trans ((rw_put eG_5 (by decide)).trans ((rw_put eG_4 (by decide)).trans ((rw_put eG_3 (by decide)).trans (rw_put eG_2 (by decide))))))))))))))))))), ⟨G_23, hX_26, ⟨G_27, hX_31, f_40, hB_G_27, hq_28, (Or.inr ⟨c_43, rfl⟩)⟩⟩⟩⟩), wd_t ht hW⟩, hS.F ht⟩) hS.2.2 dX12_readAll_116
  · have c_43 : (G_27.1 66 2).toInt = 0 := xI_eq rfl rfl c_43
    refine lv_aload_n hx hb dX12_readAll_102 rfl (lv_at hl 0 rfl) ?_
    refine S_getI (v := (G_27.1 66 6)) (C := RX12) (T := TX12) (N := 89) hx hb hg iX12 hown hK hW kd_66 rfl 6 (by decide) (hg (Cond.fieldLink RX12 205 "SlabWalkModel" "sort" "I") m1320) (fun _ h9 => h9) rfl rfl dX12_readAll_103 ?_
    refine lv_if_eq (tgt := 116) hx hb dX12_readAll_106 (by decide) (fun c_45 => ?_) (fun c_45 => ?_)
    · have c_45 : (G_27.1 66 6).toInt = 0 := xI_eq rfl rfl c_45
      have g_46 : (G_27.1 66 1).toInt = 0 := by rw [show G_27.1 66 1 = 0 from ((hq_28.i 66 1 (by decide) (by decide)).trans ((hq_24.i 66 1 (by decide) (by decide)).trans ((gp_ne eG_19 (by decide)).trans ((gp_ne eG_18 (by decide)).trans ((gp_ne eG_17 (by decide)).trans ((gp_ne eG_16 (by decide)).trans ((gp_ne eG_15 (by decide)).trans ((gp_ne eG_14 (fun q => absurd q.1 (by decide))).trans ((gp_ne eG_13 (fun q => absurd q.1 (by decide))).trans ((gp_ne eG_12 (fun q => absurd q.1 (by decide))).trans ((gp_ne eG_10 (by decide)).trans ((gp_ne eG_8 (by decide)).trans ((gp_ne eG_7 (by decide)).trans ((gp_ne eG_6 (by decide)).trans ((gp_ne eG_5 (by decide)).trans ((gp_ne eG_4 (by decide)).trans (gp_eq eG_3)))))))))))))))))]; rfl
      exact W.vret hx hb hr (fun t ht _ => ⟨⟨G_27, rfl, (Q_readAll_mk ⟨hB_G_27, hF, (by omega), ⟨G_19, hB_G_19, ((((((((((((((((Fr.rf.put eG_2 (Or.inr (by decide))).put eG_3 (Or.inr (by decide))).put eG_4 (Or.inr (by decide))).put eG_5 (Or.inr (by decide))).put eG_6 (Or.inr (by decide))).put eG_7 (Or.inr (by decide))).put eG_8 (Or.inr (by decide))).put eG_10 (Or.inr (by decide))).put eG_12 (Or.inl (by decide))).put eG_13 (Or.inl (by decide))).put eG_14 (Or.inl (by decide))).put eG_15 (Or.inr (by decide))).put eG_16 (Or.inr (by decide))).put eG_17 (Or.inr (by decide))).put eG_18 (Or.inr (by decide))).put eG_19 (Or.inr (by decide))), ((gp_ne eG_19 (by decide)).trans ((gp_ne eG_18 (by decide)).trans ((gp_ne eG_17 (by decide)).trans ((gp_ne eG_16 (by decide)).trans ((gp_ne eG_15 (by decide)).trans ((gp_ne eG_14 (fun q => absurd q.1 (by decide))).trans ((gp_ne eG_13 (fun q => absurd q.1 (by decide))).trans ((gp_ne eG_12 (fun q => absurd q.1 (by decide))).trans ((gp_ne eG_10 (by decide)).trans ((gp_ne eG_8 (by decide)).trans ((gp_ne eG_7 (by decide)).trans ((gp_ne eG_6 (by decide)).trans ((gp_ne eG_5 (by decide)).trans ((gp_ne eG_4 (by decide)).trans (gp_eq eG_3))))))))))))))), ((gp_ne eG_19 (by decide)).trans ((gp_ne eG_18 (by decide)).trans ((gp_ne eG_17 (by decide)).trans ((gp_ne eG_16 (by decide)).trans ((gp_ne eG_15 (by decide)).trans ((gp_ne eG_14 (fun q => absurd q.1 (by decide))).trans ((gp_ne eG_13 (fun q => absurd q.1 (by decide))).trans ((gp_ne eG_12 (fun q => absurd q.1 (by decide))).trans ((gp_ne eG_10 (by decide)).trans ((gp_ne eG_8 (by decide)).trans ((gp_ne eG_7 (by decide)).trans ((gp_ne eG_6 (by decide)).trans (gp_eq eG_5))))))))))))), ((gp_ne eG_19 (by decide)).trans ((gp_ne eG_18 (by decide)).trans ((gp_ne eG_17 (by decide)).trans ((gp_ne eG_16 (by decide)).trans ((gp_ne eG_15 (by decide)).trans ((gp_ne eG_14 (fun q => absurd q.1 (by decide))).trans ((gp_ne eG_13 (fun q => absurd q.1 (by decide))).trans ((gp_ne eG_12 (fun q => absurd q.1 (by decide))).trans ((gp_ne eG_10 (by decide)).trans ((gp_ne eG_8 (by decide)).trans ((gp_ne eG_7 (by decide)).trans (gp_eq eG_6)))))))))))), ((gp_ne eG_19 (by decide)).trans ((gp_ne eG_18 (by decide)).trans ((gp_ne eG_17 (by decide)).trans ((gp_ne eG_16 (by decide)).trans ((gp_ne eG_15 (by decide)).trans ((gp_ne eG_14 (fun q => absurd q.1 (by decide))).trans ((gp_ne eG_13 (fun q => absurd q.1 (by decide))).trans ((gp_ne eG_12 (fun q => absurd q.1 (by decide))).trans ((gp_ne eG_10 (by decide)).trans ((gp_ne eG_8 (by decide)).trans ((gp_ne eG_7 (by decide)).trans ((gp_ne eG_6 (by decide)).trans ((gp_ne eG_5 (by decide)).trans (gp_eq eG_4)))))))))))))), ((gp_ne eG_19 (by decide)).trans ((gp_ne eG_18 (by decide)).trans ((gp_ne eG_17 (by decide)).trans ((gp_ne eG_16 (by decide)).trans ((gp_ne eG_15 (by decide)).trans ((gp_ne eG_14 (fun q => absurd q.1 (by decide))).trans ((gp_ne eG_13 (fun q => absurd q.1 (by decide))).trans ((gp_ne eG_12 (fun q => absurd q.1 (by decide))).trans ((gp_ne eG_10 (by decide)).trans ((gp_ne eG_8 (by decide)).trans ((gp_ne eG_7 (by decide)).trans ((gp_ne eG_6 (by decide)).trans ((gp_ne eG_5 (by decide)).trans ((gp_ne eG_4 (by decide)).trans ((gp_ne eG_3 (by decide)).trans (gp_eq eG_2)))))))))))))))), (gp_eq eG_19), ((gp_ne eG_19 (by decide)).trans ((gp_ne eG_18 (by decide)).trans ((gp_ne eG_17 (by decide)).trans ((gp_ne eG_16 (by decide)).trans ((gp_ne eG_15 (by decide)).trans ((gp_ne eG_14 (fun q => absurd q.1 (by decide))).trans ((gp_ne eG_13 (fun q => absurd q.1 (by decide))).trans ((gp_ne eG_12 (fun q => absurd q.1 (by decide))).trans ((gp_ne eG_10 (by decide)).trans ((gp_ne eG_8 (by decide)).trans (gp_eq eG_7))))))))))), ((gp_ne eG_19 (by decide)).trans ((gp_ne eG_18 (by decide)).trans ((gp_ne eG_17 (by decide)).trans ((gp_ne eG_16 (by decide)).trans ((gp_ne eG_15 (by decide)).trans ((gp_ne eG_14 (fun q => absurd q.1 (by decide))).trans ((gp_ne eG_13 (fun q => absurd q.1 (by decide))).trans ((gp_ne eG_12 (fun q => absurd q.1 (by decide))).trans ((gp_ne eG_10 (by decide)).trans (gp_eq eG_8)))))))))), ((gp_ne eG_19 (by decide)).trans ((gp_ne eG_18 (by decide)).trans ((gp_ne eG_17 (by decide)).trans ((gp_ne eG_16 (by decide)).trans ((gp_ne eG_15 (by decide)).trans ((gp_ne eG_14 (fun q => absurd q.1 (by decide))).trans ((gp_ne eG_13 (fun q => absurd q.1 (by decide))).trans ((gp_ne eG_12 (fun q => absurd q.1 (by decide))).trans (gp_eq eG_10))))))))), ((gp_ne eG_19 (by decide)).trans ((gp_ne eG_18 (by decide)).trans ((gp_ne eG_17 (by decide)).trans ((gp_ne eG_16 (by decide)).trans (gp_eq eG_15))))), ((gp_ne eG_19 (by decide)).trans ((gp_ne eG_18 (by decide)).trans ((gp_ne eG_17 (by decide)).trans (gp_eq eG_16)))), ((gp_ne eG_19 (by decide)).trans ((gp_ne eG_18 (by decide)).trans (gp_eq eG_17))), ((gp_ne eG_19 (by decide)).trans (gp_eq eG_18)), (rw_put eG_19 (by decide)).trans ((rw_put eG_18 (by decide)).trans ((rw_put eG_17 (by decide)).trans ((rw_put eG_16 (by decide)).trans ((rw_put eG_15 (by decide)).trans ((rw_ast eG_14).trans (congrArg (fun q => upd q ((2 : Int32).toNatClampNeg) 0) ((rw_ast eG_13).trans (congrArg (fun q => upd q ((1 : Int32).toNatClampNeg) 1) ((rw_ast eG_12).trans (congrArg (fun q => upd q ((0 : Int32).toNatClampNeg) 0) ((rw_put eG_10 (by decide)).trans ((rw_put eG_8 (by decide)).trans ((rw_put eG_7 (by decide)).trans ((rw_put eG_6 (by decide)).trans ((rw_put eG_5 (by decide)).trans ((rw_put eG_4 (by decide)).trans ((rw_put eG_3 (by decide)).trans (rw_put eG_2 (by decide))))))))))))))))))), ⟨G_23, hX_26, ⟨G_27, hX_31, f_40, hB_G_27, hq_28, (Or.inl ⟨c_43, ⟨c_45, rfl⟩⟩)⟩⟩⟩⟩), wd_t ht hW⟩, hS.F ht⟩) hS.2.2 dX12_readAll_116
    · have c_45 : (G_27.1 66 6).toInt ≠ 0 := xI_ne rfl rfl c_45
      refine lv_aload_n hx hb dX12_readAll_109 rfl (lv_at hl 0 rfl) ?_
      have b_47 : 0 ≤ (G_27.1 66 4).toInt ∧ (G_27.1 66 4).toInt ≤ 1600 := hB_G_27.i 66 4 rfl rfl
      refine S_callv (va_runV (As := []) (rest := []) ⟨hx, hb, hml, hown, hts⟩ (n_readLine l D k A a z G_27  (by omega) (by omega) (by omega) (by omega)) (cwV 0 hts (gd_V hgd m1619 m1621 m52 m131 m1622) rfl rfl rfl (by decide +kernel) ⟨Nat.le_of_ble_eq_true rfl, Nat.le_of_ble_eq_true rfl⟩) (pre_V hW hB_G_27 hK hZ hS kd_66 rfl) rfl rfl hl.1 rfl (lv_room (Nat.le_of_ble_eq_true rfl)) dX12_readAll_110 ⟨Nat.le_of_ble_eq_true rfl, Nat.le_of_ble_eq_true rfl⟩) hS (fun G_49 H locs hpo hW hS => ?_)
      have hX_52 : Q_readLine G_27 G_49 := hpo
      obtain ⟨hB_G_49, hq_50, hp_51, -⟩ := hpo
      have hF := hF.call hq_50 (by decide) (by decide)
      refine lv_goto (tgt := 95) hx hb dX12_readAll_113 (by decide) ?_
      have b_53 : 0 ≤ (G_49.1 66 2).toInt ∧ (G_49.1 66 2).toInt ≤ 4 := hB_G_49.i 66 2 rfl rfl
      have b_54 : 0 ≤ (G_49.1 66 4).toInt ∧ (G_49.1 66 4).toInt ≤ 1600 := hB_G_49.i 66 4 rfl rfl
      exact ih_29 (1604 - (G_49.1 66 4).toInt - (G_49.1 66 2).toInt : Int).toNat (by omega) _ _ _ ⟨G_49, (Int.toNat_of_nonneg (by omega)), (by omega), (hX_31.st (St_n_readAll_1_mk ⟨G_27, G_49, rfl, rfl, f_40, hB_G_27, ⟨c_43, ⟨c_45, ⟨G_49, hX_52, rfl⟩⟩⟩⟩)), hW, hB_G_49, hF, ((Fr.rf.call hq_28 (by decide) (by decide)).call hq_50 (by decide) (by decide)), hS, lv_sub hl [0] rfl⟩
