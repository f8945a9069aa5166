theorem m493 : Cond.fieldLink RX11 246 "SlabWalk$Earnest" "now" "[I" ∈ gd := gdc_2_8 9 rfl gw_fieldLink
theorem m572 : Cond.fieldLink RX11 19 "SlabWalk" "tape" "[B" ∈ gd := gdc_2_13 8 rfl gw_fieldLink
theorem m578 : Cond.fieldLink RX11 65 "SlabWalk" "earnest" "LSlabWalk$Earnest;" ∈ gd := gdc_2_13 14 rfl gw_fieldLink
theorem m580 : Cond.fieldLink RX11 76 "SlabWalk" "lying" "[I" ∈ gd := gdc_2_14 0 rfl gw_fieldLink
theorem m581 : Cond.fieldLink RX11 83 "SlabWalk" "taped" "I" ∈ gd := gdc_2_14 1 rfl gw_fieldLink
theorem m582 : Cond.fieldLink RX11 150 "SlabWalk" "lie" "I" ∈ gd := gdc_2_14 2 rfl gw_fieldLink
def rbX11_commonDivisor_0 : List (Nat × List Nat) := [(0, [3]), (1, [54, 4]), (3, [21, 4]), (5, [17, 0, 200]), (8, [162, 0, 25]), (11, [32]), (12, [9]), (13, [148]), (14, [153, 0, 19]), (17, [30]), (18, [32]), (19, [113]), (20, [55, 5]), (22, [32]), (23, [63]), (24, [22, 5]), (26, [65]), (27, [132, 4, 1]), (30, [167, 255, 229]), (33, [30]), (34, [173])]
theorem rcX11_commonDivisor_0 : dgo (lb cX11_commonDivisor) 0 rbX11_commonDivisor_0 = true := by decide +kernel
theorem dX11_commonDivisor_0 : decode cX11_commonDivisor 0 = .ok (.iconst 0, 1) := dk_3 (dw rcX11_commonDivisor_0 0 rfl)
theorem dX11_commonDivisor_1 : decode cX11_commonDivisor 1 = .ok (.istore 4, 2) := dk_54 (dw rcX11_commonDivisor_0 1 rfl)
theorem dX11_commonDivisor_3 : decode cX11_commonDivisor 3 = .ok (.iload 4, 2) := dk_21 (dw rcX11_commonDivisor_0 2 rfl)
theorem dX11_commonDivisor_5 : decode cX11_commonDivisor 5 = .ok (.sipush 200, 3) := dk_17 (dw rcX11_commonDivisor_0 3 rfl) rfl
theorem dX11_commonDivisor_8 : decode cX11_commonDivisor 8 = .ok (.if_icmp .ge 25, 3) := dk_162 (dw rcX11_commonDivisor_0 4 rfl) rfl
theorem dX11_commonDivisor_11 : decode cX11_commonDivisor 11 = .ok (.lload_n 2, 1) := dk_32 (dw rcX11_commonDivisor_0 5 rfl)
theorem dX11_commonDivisor_12 : decode cX11_commonDivisor 12 = .ok (.lconst 0, 1) := dk_9 (dw rcX11_commonDivisor_0 6 rfl)
theorem dX11_commonDivisor_13 : decode cX11_commonDivisor 13 = .ok (.lcmp, 1) := dk_148 (dw rcX11_commonDivisor_0 7 rfl)
theorem dX11_commonDivisor_14 : decode cX11_commonDivisor 14 = .ok (.ifCond .eq 19, 3) := dk_153 (dw rcX11_commonDivisor_0 8 rfl) rfl
theorem dX11_commonDivisor_17 : decode cX11_commonDivisor 17 = .ok (.lload_n 0, 1) := dk_30 (dw rcX11_commonDivisor_0 9 rfl)
theorem dX11_commonDivisor_18 : decode cX11_commonDivisor 18 = .ok (.lload_n 2, 1) := dk_32 (dw rcX11_commonDivisor_0 10 rfl)
theorem dX11_commonDivisor_19 : decode cX11_commonDivisor 19 = .ok (.lrem, 1) := dk_113 (dw rcX11_commonDivisor_0 11 rfl)
theorem dX11_commonDivisor_20 : decode cX11_commonDivisor 20 = .ok (.lstore 5, 2) := dk_55 (dw rcX11_commonDivisor_0 12 rfl)
theorem dX11_commonDivisor_22 : decode cX11_commonDivisor 22 = .ok (.lload_n 2, 1) := dk_32 (dw rcX11_commonDivisor_0 13 rfl)
theorem dX11_commonDivisor_23 : decode cX11_commonDivisor 23 = .ok (.lstore_n 0, 1) := dk_63 (dw rcX11_commonDivisor_0 14 rfl)
theorem dX11_commonDivisor_24 : decode cX11_commonDivisor 24 = .ok (.lload 5, 2) := dk_22 (dw rcX11_commonDivisor_0 15 rfl)
theorem dX11_commonDivisor_26 : decode cX11_commonDivisor 26 = .ok (.lstore_n 2, 1) := dk_65 (dw rcX11_commonDivisor_0 16 rfl)
theorem dX11_commonDivisor_27 : decode cX11_commonDivisor 27 = .ok (.iinc 4 1, 3) := dk_132 (dw rcX11_commonDivisor_0 17 rfl) rfl
theorem dX11_commonDivisor_30 : decode cX11_commonDivisor 30 = .ok (.goto (-27), 3) := dk_167 (dw rcX11_commonDivisor_0 18 rfl) rfl
theorem dX11_commonDivisor_33 : decode cX11_commonDivisor 33 = .ok (.lload_n 0, 1) := dk_30 (dw rcX11_commonDivisor_0 19 rfl)
theorem dX11_commonDivisor_34 : decode cX11_commonDivisor 34 = .ok (.lreturn, 1) := dk_173 (dw rcX11_commonDivisor_0 20 rfl)
def rbX11_layDown_0 : List (Nat × List Nat) := [(0, [42]), (1, [180, 0, 150]), (4, [17, 1, 144]), (7, [162, 0, 20]), (10, [42]), (11, [180, 0, 76]), (14, [42]), (15, [89]), (16, [180, 0, 150]), (19, [90]), (20, [4]), (21, [96]), (22, [181, 0, 150]), (25, [27]), (26, [79]), (27, [177])]
theorem rcX11_layDown_0 : dgo (lb cX11_layDown) 0 rbX11_layDown_0 = true := by decide +kernel
theorem dX11_layDown_0 : decode cX11_layDown 0 = .ok (.aload_n 0, 1) := dk_42 (dw rcX11_layDown_0 0 rfl)
theorem dX11_layDown_1 : decode cX11_layDown 1 = .ok (.getfield 150, 3) := dk_180 (dw rcX11_layDown_0 1 rfl) rfl
theorem dX11_layDown_4 : decode cX11_layDown 4 = .ok (.sipush 400, 3) := dk_17 (dw rcX11_layDown_0 2 rfl) rfl
theorem dX11_layDown_7 : decode cX11_layDown 7 = .ok (.if_icmp .ge 20, 3) := dk_162 (dw rcX11_layDown_0 3 rfl) rfl
theorem dX11_layDown_10 : decode cX11_layDown 10 = .ok (.aload_n 0, 1) := dk_42 (dw rcX11_layDown_0 4 rfl)
theorem dX11_layDown_11 : decode cX11_layDown 11 = .ok (.getfield 76, 3) := dk_180 (dw rcX11_layDown_0 5 rfl) rfl
theorem dX11_layDown_14 : decode cX11_layDown 14 = .ok (.aload_n 0, 1) := dk_42 (dw rcX11_layDown_0 6 rfl)
theorem dX11_layDown_15 : decode cX11_layDown 15 = .ok (.dup, 1) := dk_89 (dw rcX11_layDown_0 7 rfl)
theorem dX11_layDown_16 : decode cX11_layDown 16 = .ok (.getfield 150, 3) := dk_180 (dw rcX11_layDown_0 8 rfl) rfl
theorem dX11_layDown_19 : decode cX11_layDown 19 = .ok (.dup_x1, 1) := dk_90 (dw rcX11_layDown_0 9 rfl)
theorem dX11_layDown_20 : decode cX11_layDown 20 = .ok (.iconst 1, 1) := dk_4 (dw rcX11_layDown_0 10 rfl)
theorem dX11_layDown_21 : decode cX11_layDown 21 = .ok (.iadd, 1) := dk_96 (dw rcX11_layDown_0 11 rfl)
theorem dX11_layDown_22 : decode cX11_layDown 22 = .ok (.putfield 150, 3) := dk_181 (dw rcX11_layDown_0 12 rfl) rfl
theorem dX11_layDown_25 : decode cX11_layDown 25 = .ok (.iload_n 1, 1) := dk_27 (dw rcX11_layDown_0 13 rfl)
theorem dX11_layDown_26 : decode cX11_layDown 26 = .ok (.iastore, 1) := dk_79 (dw rcX11_layDown_0 14 rfl)
theorem dX11_layDown_27 : decode cX11_layDown 27 = .ok (.return_, 1) := dk_177 (dw rcX11_layDown_0 15 rfl)
def rbX11_putOnTape_0 : List (Nat × List Nat) := [(0, [16, 24]), (2, [61]), (3, [28]), (4, [155, 0, 39]), (7, [42]), (8, [180, 0, 83]), (11, [17, 6, 64]), (14, [162, 0, 23]), (17, [42]), (18, [180, 0, 19]), (21, [42]), (22, [89]), (23, [180, 0, 83]), (26, [90]), (27, [4]), (28, [96]), (29, [181, 0, 83]), (32, [27]), (33, [28]), (34, [122]), (35, [145]), (36, [84]), (37, [132, 2, 248]), (40, [167, 255, 219])]
theorem rcX11_putOnTape_0 : dgo (lb cX11_putOnTape) 0 rbX11_putOnTape_0 = true := by decide +kernel
theorem dX11_putOnTape_0 : decode cX11_putOnTape 0 = .ok (.bipush 24, 2) := dk_16 (dw rcX11_putOnTape_0 0 rfl) rfl
theorem dX11_putOnTape_2 : decode cX11_putOnTape 2 = .ok (.istore_n 2, 1) := dk_61 (dw rcX11_putOnTape_0 1 rfl)
theorem dX11_putOnTape_3 : decode cX11_putOnTape 3 = .ok (.iload_n 2, 1) := dk_28 (dw rcX11_putOnTape_0 2 rfl)
theorem dX11_putOnTape_4 : decode cX11_putOnTape 4 = .ok (.ifCond .lt 39, 3) := dk_155 (dw rcX11_putOnTape_0 3 rfl) rfl
theorem dX11_putOnTape_7 : decode cX11_putOnTape 7 = .ok (.aload_n 0, 1) := dk_42 (dw rcX11_putOnTape_0 4 rfl)
theorem dX11_putOnTape_8 : decode cX11_putOnTape 8 = .ok (.getfield 83, 3) := dk_180 (dw rcX11_putOnTape_0 5 rfl) rfl
theorem dX11_putOnTape_11 : decode cX11_putOnTape 11 = .ok (.sipush 1600, 3) := dk_17 (dw rcX11_putOnTape_0 6 rfl) rfl
theorem dX11_putOnTape_14 : decode cX11_putOnTape 14 = .ok (.if_icmp .ge 23, 3) := dk_162 (dw rcX11_putOnTape_0 7 rfl) rfl
theorem dX11_putOnTape_17 : decode cX11_putOnTape 17 = .ok (.aload_n 0, 1) := dk_42 (dw rcX11_putOnTape_0 8 rfl)
theorem dX11_putOnTape_18 : decode cX11_putOnTape 18 = .ok (.getfield 19, 3) := dk_180 (dw rcX11_putOnTape_0 9 rfl) rfl
theorem dX11_putOnTape_21 : decode cX11_putOnTape 21 = .ok (.aload_n 0, 1) := dk_42 (dw rcX11_putOnTape_0 10 rfl)
theorem dX11_putOnTape_22 : decode cX11_putOnTape 22 = .ok (.dup, 1) := dk_89 (dw rcX11_putOnTape_0 11 rfl)
theorem dX11_putOnTape_23 : decode cX11_putOnTape 23 = .ok (.getfield 83, 3) := dk_180 (dw rcX11_putOnTape_0 12 rfl) rfl
theorem dX11_putOnTape_26 : decode cX11_putOnTape 26 = .ok (.dup_x1, 1) := dk_90 (dw rcX11_putOnTape_0 13 rfl)
theorem dX11_putOnTape_27 : decode cX11_putOnTape 27 = .ok (.iconst 1, 1) := dk_4 (dw rcX11_putOnTape_0 14 rfl)
theorem dX11_putOnTape_28 : decode cX11_putOnTape 28 = .ok (.iadd, 1) := dk_96 (dw rcX11_putOnTape_0 15 rfl)
theorem dX11_putOnTape_29 : decode cX11_putOnTape 29 = .ok (.putfield 83, 3) := dk_181 (dw rcX11_putOnTape_0 16 rfl) rfl
theorem dX11_putOnTape_32 : decode cX11_putOnTape 32 = .ok (.iload_n 1, 1) := dk_27 (dw rcX11_putOnTape_0 17 rfl)
theorem dX11_putOnTape_33 : decode cX11_putOnTape 33 = .ok (.iload_n 2, 1) := dk_28 (dw rcX11_putOnTape_0 18 rfl)
theorem dX11_putOnTape_34 : decode cX11_putOnTape 34 = .ok (.ishr, 1) := dk_122 (dw rcX11_putOnTape_0 19 rfl)
theorem dX11_putOnTape_35 : decode cX11_putOnTape 35 = .ok (.i2b, 1) := dk_145 (dw rcX11_putOnTape_0 20 rfl)
theorem dX11_putOnTape_36 : decode cX11_putOnTape 36 = .ok (.bastore, 1) := dk_84 (dw rcX11_putOnTape_0 21 rfl)
theorem dX11_putOnTape_37 : decode cX11_putOnTape 37 = .ok (.iinc 2 (-8), 3) := dk_132 (dw rcX11_putOnTape_0 22 rfl) rfl
theorem dX11_putOnTape_40 : decode cX11_putOnTape 40 = .ok (.goto (-37), 3) := dk_167 (dw rcX11_putOnTape_0 23 rfl) rfl
theorem dX11_putOnTape_43 : decode cX11_putOnTape 43 = .ok (.return_, 1) := dq_of (by decide +kernel)
def rbX11_today_0 : List (Nat × List Nat) := [(0, [42]), (1, [180, 0, 65]), (4, [180, 0, 246]), (7, [16, 6]), (9, [46]), (10, [172])]
theorem rcX11_today_0 : dgo (lb cX11_today) 0 rbX11_today_0 = true := by decide +kernel
theorem dX11_today_0 : decode cX11_today 0 = .ok (.aload_n 0, 1) := dk_42 (dw rcX11_today_0 0 rfl)
theorem dX11_today_1 : decode cX11_today 1 = .ok (.getfield 65, 3) := dk_180 (dw rcX11_today_0 1 rfl) rfl
theorem dX11_today_4 : decode cX11_today 4 = .ok (.getfield 246, 3) := dk_180 (dw rcX11_today_0 2 rfl) rfl
theorem dX11_today_7 : decode cX11_today 7 = .ok (.bipush 6, 2) := dk_16 (dw rcX11_today_0 3 rfl) rfl
theorem dX11_today_9 : decode cX11_today 9 = .ok (.iaload, 1) := dk_46 (dw rcX11_today_0 4 rfl)
theorem dX11_today_10 : decode cX11_today 10 = .ok (.ireturn, 1) := dk_172 (dw rcX11_today_0 5 rfl)
set_option maxHeartbeats 4000000 in
set_option maxRecDepth 100000 in
theorem k_lLookB_1 (l : Launch) (D : va_G) (k : KT) (A : Nat → Prop) (a : Nat → Nat) (z : SK) (G : GS)   : Met l yX3_lookAt (WS yX3_lookAt cX3_lookAt 2 none) ({ frames := 1, cells := 0, slots := 0, locals := 23 }) (va_Pc [.ref (a 6), .ref (a 1)] (cW D k A a z G)) (va_Qv (fun (G1 : GS) => P_lLookB_1 G G1) (fun (G1 : GS) t => Wd D k A a G1 t.heap) A) 0 0 A := by
  refine Met.ofW (cc := cX3_lookAt) (maxL := 2) (ret := none) (by decide) rfl ?_
  intro p e s m args below meth c s₁ B hml hv
  obtain ⟨rfl, hW, hB_G, hK, hZ⟩ := hv
  have hx := B.exec
  have hb := B.bytes
  have hr := B.returns
  have hts := atoms_spec (ws := WS yX3_lookAt cX3_lookAt 2 none) B.pre
  have hgd : ∀ w ∈ gd, w ∈ WS yX3_lookAt cX3_lookAt 2 none := fun w h => List.mem_cons_of_mem _ h
  have hg : ∀ w ∈ gd, w.before _ s = true := fun w h => hts w (hgd w h)
  have hown : s.vm.findClass RX3 = some m.cls := findClass_of_methodNamed B.named
  have hS : va_S A s.heap s.heap [] := va_S.rf
  have hF : Fr [38] [(6, 4)] G G := Fr.rf
  have hl := lv_entry ([.ref (a 6), .ref (a 1)]) (n := 2) (Nat.le_of_ble_eq_true rfl)
  rw [lg_entry_eq]
  generalize (lg_sl ([.ref (a 6), .ref (a 1)]) ++ List.replicate (2 - (lg_sl ([.ref (a 6), .ref (a 1)])).length) Slot.unset).toArray = ls at hl ⊢
  have hl : lv_has ls 2 [(0, .ref (a 6)), (1, .ref (a 1))] := hl
  refine lv_aload_n hx hb dX3_lookAt_0 rfl (lv_at hl 0 rfl) ?_
  refine lv_aload_n hx hb dX3_lookAt_1 rfl (lv_at hl 1 rfl) ?_
  refine S_putV (ty := .object "SlabWalk$Paving") (n := 1) (C := RX3) (T := TX3) (N := 5) hx hb hg iX3 tyX3 tyX3_ok nmX3 hown hK hW hS kd_6 rfl 4 (lt_b rfl) (hg (Cond.fieldLink RX3 21 "SlabWalk$Lines" "paving" "LSlabWalk$Paving;") m353) (fun _ h9 => h9) rfl (by decide +kernel) rfl rfl rfl dX3_lookAt_2 (fun G_1 H locs eG_1 hW hS => ?_)
  have hB_G_1 : Bd G_1 := hB_G.putr eG_1 (by decide) (by decide)
  have hF := hF.putr eG_1 (Or.inr (by decide))
  refine lv_aload_n hx hb dX3_lookAt_5 rfl (lv_at hl 0 rfl) ?_
  refine S_getR (n := 38) (C := RX3) (T := TX3) (N := 5) hx hb hg iX3 hown hK hW kd_6 rfl 1 (lt_b rfl) (hg (Cond.fieldLink RX3 15 "SlabWalk$Lines" "foundOn" "[I") m350) (fun _ h9 => h9) rfl dX3_lookAt_6 ?_
  refine ic_m1 hx hb dX3_lookAt_9 ?_
  refine S_callv (va_runS (As := [.ref (a 38), .int (-1)]) (rest := []) ⟨hx, hb, hml, hown, hts⟩ (k_fill_38 l D k A a z G_1 (-1) ) (va_cwS 2 hts (gd_S hgd m555 m556 m129 m557) rfl rfl rfl hd_J7_fill_53178.2 ⟨Nat.le_of_ble_eq_true rfl, Nat.le_of_ble_eq_true rfl⟩) (pre_S hW hB_G_1 hK hZ hS) rfl rfl hl.1 rfl (lv_room (Nat.le_of_ble_eq_true rfl)) dX3_lookAt_10 ⟨Nat.le_of_ble_eq_true rfl, Nat.le_of_ble_eq_true rfl⟩) hS (fun G_3 H locs hpo hW hS => ?_)
  have hX_6 : P_fill_38 (-1) G_1 G_3 := hpo
  obtain ⟨hB_G_3, hq_4, -⟩ := hpo
  have hF := hF.call9 hq_4 rfl rfl
  exact W.vret hx hb hr (fun t ht _ => ⟨⟨G_3, rfl, (P_lLookB_1_mk ⟨hB_G_3, hF, ((hq_4.r9 6 4 rfl rfl).trans (gp_re eG_1)), ⟨G_1, hB_G_1, (Fr.putr (rs := []) (fs := [(6, 4)]) Fr.rf eG_1 (Or.inr (by decide))), (gp_re eG_1), ⟨G_3, hX_6, rfl⟩⟩⟩), wd_t ht hW⟩, hS.F ht⟩) hS.2.2 dX3_lookAt_13

set_option maxHeartbeats 4000000 in
set_option maxRecDepth 100000 in
theorem k_lLookB_2 (l : Launch) (D : va_G) (k : KT) (A : Nat → Prop) (a : Nat → Nat) (z : SK) (G : GS)   : Met l yX3_lookAt (WS yX3_lookAt cX3_lookAt 2 none) ({ frames := 1, cells := 0, slots := 0, locals := 23 }) (va_Pc [.ref (a 6), .ref (a 2)] (cW D k A a z G)) (va_Qv (fun (G1 : GS) => P_lLookB_2 G G1) (fun (G1 : GS) t => Wd D k A a G1 t.heap) A) 0 0 A := by
  refine Met.ofW (cc := cX3_lookAt) (maxL := 2) (ret := none) (by decide) rfl ?_
  intro p e s m args below meth c s₁ B hml hv
  obtain ⟨rfl, hW, hB_G, hK, hZ⟩ := hv
  have hx := B.exec
  have hb := B.bytes
  have hr := B.returns
  have hts := atoms_spec (ws := WS yX3_lookAt cX3_lookAt 2 none) B.pre
  have hgd : ∀ w ∈ gd, w ∈ WS yX3_lookAt cX3_lookAt 2 none := fun w h => List.mem_cons_of_mem _ h
  have hg : ∀ w ∈ gd, w.before _ s = true := fun w h => hts w (hgd w h)
  have hown : s.vm.findClass RX3 = some m.cls := findClass_of_methodNamed B.named
  have hS : va_S A s.heap s.heap [] := va_S.rf
  have hF : Fr [38] [(6, 4)] G G := Fr.rf
  have hl := lv_entry ([.ref (a 6), .ref (a 2)]) (n := 2) (Nat.le_of_ble_eq_true rfl)
  rw [lg_entry_eq]
  generalize (lg_sl ([.ref (a 6), .ref (a 2)]) ++ List.replicate (2 - (lg_sl ([.ref (a 6), .ref (a 2)])).length) Slot.unset).toArray = ls at hl ⊢
  have hl : lv_has ls 2 [(0, .ref (a 6)), (1, .ref (a 2))] := hl
  refine lv_aload_n hx hb dX3_lookAt_0 rfl (lv_at hl 0 rfl) ?_
  refine lv_aload_n hx hb dX3_lookAt_1 rfl (lv_at hl 1 rfl) ?_
  refine S_putV (ty := .object "SlabWalk$Paving") (n := 2) (C := RX3) (T := TX3) (N := 5) hx hb hg iX3 tyX3 tyX3_ok nmX3 hown hK hW hS kd_6 rfl 4 (lt_b rfl) (hg (Cond.fieldLink RX3 21 "SlabWalk$Lines" "paving" "LSlabWalk$Paving;") m353) (fun _ h9 => h9) rfl (by decide +kernel) rfl rfl rfl dX3_lookAt_2 (fun G_1 H locs eG_1 hW hS => ?_)
  have hB_G_1 : Bd G_1 := hB_G.putr eG_1 (by decide) (by decide)
  have hF := hF.putr eG_1 (Or.inr (by decide))
  refine lv_aload_n hx hb dX3_lookAt_5 rfl (lv_at hl 0 rfl) ?_
  refine S_getR (n := 38) (C := RX3) (T := TX3) (N := 5) hx hb hg iX3 hown hK hW kd_6 rfl 1 (lt_b rfl) (hg (Cond.fieldLink RX3 15 "SlabWalk$Lines" "foundOn" "[I") m350) (fun _ h9 => h9) rfl dX3_lookAt_6 ?_
  refine ic_m1 hx hb dX3_lookAt_9 ?_
  refine S_callv (va_runS (As := [.ref (a 38), .int (-1)]) (rest := []) ⟨hx, hb, hml, hown, hts⟩ (k_fill_38 l D k A a z G_1 (-1) ) (va_cwS 2 hts (gd_S hgd m555 m556 m129 m557) rfl rfl rfl hd_J7_fill_53178.2 ⟨Nat.le_of_ble_eq_true rfl, Nat.le_of_ble_eq_true rfl⟩) (pre_S hW hB_G_1 hK hZ hS) rfl rfl hl.1 rfl (lv_room (Nat.le_of_ble_eq_true rfl)) dX3_lookAt_10 ⟨Nat.le_of_ble_eq_true rfl, Nat.le_of_ble_eq_true rfl⟩) hS (fun G_3 H locs hpo hW hS => ?_)
  have hX_6 : P_fill_38 (-1) G_1 G_3 := hpo
  obtain ⟨hB_G_3, hq_4, -⟩ := hpo
  have hF := hF.call9 hq_4 rfl rfl
  exact W.vret hx hb hr (fun t ht _ => ⟨⟨G_3, rfl, (P_lLookB_2_mk ⟨hB_G_3, hF, ((hq_4.r9 6 4 rfl rfl).trans (gp_re eG_1)), ⟨G_1, hB_G_1, (Fr.putr (rs := []) (fs := [(6, 4)]) Fr.rf eG_1 (Or.inr (by decide))), (gp_re eG_1), ⟨G_3, hX_6, rfl⟩⟩⟩), wd_t ht hW⟩, hS.F ht⟩) hS.2.2 dX3_lookAt_13

set_option maxHeartbeats 4000000 in
set_option maxRecDepth 100000 in
theorem k_gcd (l : Launch) (D : va_G) (k : KT) (A : Nat → Prop) (a : Nat → Nat) (z : SK) (G : GS) (p0 : Int64) (p1 : Int64)  : Met l yX11_commonDivisor (WS yX11_commonDivisor cX11_commonDivisor 7 (some .long)) ({ frames := 0, cells := 0, slots := 0, locals := 0 }) (va_Pc [.long p0, .long p1] (cW D k A a z G)) (va_Ql (fun (r : Int64) (G1 : GS) => P_gcd p0 p1 G r G1) (fun (G1 : GS) t => Wd D k A a G1 t.heap) A) 0 0 A := by
  refine Met.ofW (cc := cX11_commonDivisor) (maxL := 7) (ret := (some .long)) (by decide) rfl ?_
  intro p e s m args below meth c s₁ B hml hv
  obtain ⟨rfl, hW, hB_G, hK, hZ⟩ := hv
  have hx := B.exec
  have hb := B.bytes
  have hr := B.returns
  have hts := atoms_spec (ws := WS yX11_commonDivisor cX11_commonDivisor 7 (some .long)) B.pre
  have hgd : ∀ w ∈ gd, w ∈ WS yX11_commonDivisor cX11_commonDivisor 7 (some .long) := fun w h => List.mem_cons_of_mem _ h
  have hg : ∀ w ∈ gd, w.before _ s = true := fun w h => hts w (hgd w h)
  have hown : s.vm.findClass RX11 = some m.cls := findClass_of_methodNamed B.named
  have hS : va_S A s.heap s.heap [] := va_S.rf
  have hF : Fr [] [] G G := Fr.rf
  have hl := lv_entry ([.long p0, .long p1]) (n := 7) (Nat.le_of_ble_eq_true rfl)
  rw [lg_entry_eq]
  generalize (lg_sl ([.long p0, .long p1]) ++ List.replicate (7 - (lg_sl ([.long p0, .long p1])).length) Slot.unset).toArray = ls at hl ⊢
  have hl : lv_has ls 7 [(0, .long p0), (2, .long p1)] := hl
  refine ic_0 hx hb dX11_commonDivisor_0 ?_
  refine lv_istore (lv' := [(4, .int 0), (0, .long p0), (2, .long p1)]) hx hb dX11_commonDivisor_1 hl (lt_b rfl) rfl (fun ls hl => ?_)
  have qc_9 : (0 : Int32).toInt = 0 := rfl
  refine loop_N (Inv := fun n H locs ls => ∃ (G_1 : GS) (x_5 : Int32) (x_6 : Int64) (x_7 : Int64), (n : Int) = 200 - x_5.toInt ∧ (0 ≤ x_5.toInt ∧ x_5.toInt ≤ 200) ∧ Rc (St_k_gcd_1) (0, p0, p1, G) (x_5, x_6, x_7, G_1) ∧ Wd D k A a G_1 H ∧ Bd G_1 ∧ Fr [] [] G G_1 ∧ Fr [] [] G G_1 ∧ va_S A s.heap H locs ∧ lv_has ls 7 [(4, .int x_5), (0, .long x_6), (2, .long x_7)]) (fun n_4 H locs ls ih_3 hI => ?_) (200 - 0 : Int).toNat ⟨G, 0, p0, p1, (Int.toNat_of_nonneg (by omega)), ⟨by omega, by omega⟩, Rc.rf, hW, hB_G, hF, Fr.rf, hS, lv_sub hl [0, 1, 2] rfl⟩
  obtain ⟨G_1, x_5, x_6, x_7, hn_11, f_10, hX_8, hW, hB_G_1, hF, hq_2, hS, hl⟩ := hI
  refine lv_iload hx hb dX11_commonDivisor_3 (lv_at hl 0 rfl) ?_
  refine lv_sipush (v := 200) hx hb dX11_commonDivisor_5 (by decide) ?_
  refine lv_icmp_ge (tgt := 33) hx hb dX11_commonDivisor_8 rfl (fun c_12 => ?_) (fun c_12 => ?_)
  · have c_12 : 200 ≤ x_5.toInt := xI_le rfl rfl c_12
    refine lv_lload_n hx hb dX11_commonDivisor_33 rfl (lv_at hl 1 rfl) ?_
    exact W.lret (v := x_6) hx hb hr (fun t ht _ => ⟨⟨x_6, G_1, rfl, (P_gcd_mk ⟨hB_G_1, hF, ⟨x_5, x_6, x_7, G_1, hX_8, f_10, hB_G_1, hq_2, (Or.inl ⟨c_12, ⟨rfl, rfl⟩⟩)⟩⟩), wd_t ht hW⟩, hS.F ht⟩) hS.2.2 dX11_commonDivisor_34
  · have c_12 : x_5.toInt < 200 := xI_nle rfl rfl c_12
    refine lv_lload_n hx hb dX11_commonDivisor_11 rfl (lv_at hl 2 rfl) ?_
    refine lv_lconst (v := 0) hx hb dX11_commonDivisor_12 (by decide) ?_
    refine W.lcmp hx hb dX11_commonDivisor_13 ?_
    refine lv_topi (fun y_13 ey_13 => ?_)
    have ty_13 := lcmp_rng ey_13
    refine lv_if_eq (tgt := 33) hx hb dX11_commonDivisor_14 rfl (fun c_14 => ?_) (fun c_14 => ?_)
    · have c_14 : y_13.toInt = 0 := xI_eq rfl rfl c_14
      refine lv_lload_n hx hb dX11_commonDivisor_33 rfl (lv_at hl 1 rfl) ?_
      exact W.lret (v := x_6) hx hb hr (fun t ht _ => ⟨⟨x_6, G_1, rfl, (P_gcd_mk ⟨hB_G_1, hF, ⟨x_5, x_6, x_7, G_1, hX_8, f_10, hB_G_1, hq_2, (Or.inr ⟨c_12, ⟨y_13, ey_13, ⟨c_14, ⟨rfl, rfl⟩⟩⟩⟩)⟩⟩), wd_t ht hW⟩, hS.F ht⟩) hS.2.2 dX11_commonDivisor_34
    · have c_14 : y_13.toInt ≠ 0 := xI_ne rfl rfl c_14
      refine lv_lload_n hx hb dX11_commonDivisor_17 rfl (lv_at hl 1 rfl) ?_
      refine lv_lload_n hx hb dX11_commonDivisor_18 rfl (lv_at hl 2 rfl) ?_
      refine lv_lrem hx hb dX11_commonDivisor_19 (lc_ne ey_13 (by omega)) ?_
      refine lv_topl (fun y_15 ey_15 => ?_)
      refine lv_lstore (lv' := [(5, .long y_15), (4, .int x_5), (0, .long x_6), (2, .long x_7)]) hx hb dX11_commonDivisor_20 hl (lt_b rfl) rfl (fun ls hl => ?_)
      refine lv_lload_n hx hb dX11_commonDivisor_22 rfl (lv_at hl 3 rfl) ?_
      refine lv_lstore_n (lv' := [(0, .long x_7), (5, .long y_15), (4, .int x_5), (2, .long x_7)]) hx hb dX11_commonDivisor_23 rfl hl (lt_b rfl) rfl (fun ls hl => ?_)
      refine lv_lload hx hb dX11_commonDivisor_24 (lv_at hl 1 rfl) ?_
      refine lv_lstore_n (lv' := [(2, .long y_15), (0, .long x_7), (5, .long y_15), (4, .int x_5)]) hx hb dX11_commonDivisor_26 rfl hl (lt_b rfl) rfl (fun ls hl => ?_)
      obtain ⟨y_16, ey_16⟩ : ∃ q, q = x_5 + 1 := ⟨_, rfl⟩
      have ty_16 : y_16.toInt = x_5.toInt + 1 := xI_add rfl rfl ey_16 (by omega) (by omega)
      refine lv_iinc (v := y_16) (lv' := [(4, .int y_16), (2, .long y_15), (0, .long x_7), (5, .long y_15)]) hx hb dX11_commonDivisor_27 hl (k := 3) rfl (by rw [ey_16]; rfl) (lt_b rfl) rfl (fun ls hl => ?_)
      refine lv_goto (tgt := 3) hx hb dX11_commonDivisor_30 rfl ?_
      exact ih_3 (200 - y_16.toInt : Int).toNat (by omega) _ _ _ ⟨G_1, y_16, x_7, y_15, (Int.toNat_of_nonneg (by omega)), ⟨by omega, by omega⟩, (hX_8.st (St_k_gcd_1_mk ⟨x_5, x_6, x_7, G_1, y_16, x_7, y_15, G_1, rfl, rfl, f_10, hB_G_1, ⟨c_12, ⟨y_13, ey_13, ⟨c_14, ⟨y_15, ey_15, ⟨y_16, ty_16, ⟨rfl, rfl, rfl, rfl⟩⟩⟩⟩⟩⟩⟩)), hW, hB_G_1, hF, (Fr.call9 (rs := []) (fs := []) Fr.rf hq_2 rfl rfl), hS, lv_sub hl [0, 2, 1] rfl⟩

set_option maxHeartbeats 4000000 in
set_option maxRecDepth 100000 in
theorem k_wToday (l : Launch) (D : va_G) (k : KT) (A : Nat → Prop) (a : Nat → Nat) (z : SK) (G : GS)   : Met l yX11_today (WS yX11_today cX11_today 1 (some .int)) ({ frames := 0, cells := 0, slots := 0, locals := 0 }) (va_Pc [.ref (a 0)] (cW D k A a z G)) (va_Qi (fun (r : Int32) (G1 : GS) => P_wToday G r G1) (fun (G1 : GS) t => Wd D k A a G1 t.heap) A) 0 0 A := by
  refine Met.ofW (cc := cX11_today) (maxL := 1) (ret := (some .int)) (by decide) rfl ?_
  intro p e s m args below meth c s₁ B hml hv
  obtain ⟨rfl, hW, hB_G, hK, hZ⟩ := hv
  have hx := B.exec
  have hb := B.bytes
  have hr := B.returns
  have hts := atoms_spec (ws := WS yX11_today cX11_today 1 (some .int)) B.pre
  have hgd : ∀ w ∈ gd, w ∈ WS yX11_today cX11_today 1 (some .int) := fun w h => List.mem_cons_of_mem _ h
  have hg : ∀ w ∈ gd, w.before _ s = true := fun w h => hts w (hgd w h)
  have hown : s.vm.findClass RX11 = some m.cls := findClass_of_methodNamed B.named
  have hS : va_S A s.heap s.heap [] := va_S.rf
  have hF : Fr [] [] G G := Fr.rf
  have hl := lv_entry ([.ref (a 0)]) (n := 1) (Nat.le_of_ble_eq_true rfl)
  rw [lg_entry_eq]
  generalize (lg_sl ([.ref (a 0)]) ++ List.replicate (1 - (lg_sl ([.ref (a 0)])).length) Slot.unset).toArray = ls at hl ⊢
  have hl : lv_has ls 1 [(0, .ref (a 0))] := hl
  refine lv_aload_n hx hb dX11_today_0 rfl (lv_at hl 0 rfl) ?_
  refine S_getR (n := 30) (C := RX11) (T := TX11) (N := 13) hx hb hg iX11 hown hK hW kd_0 rfl 8 (lt_b rfl) (hg (Cond.fieldLink RX11 65 "SlabWalk" "earnest" "LSlabWalk$Earnest;") m578) (fun _ h9 => h9) rfl dX11_today_1 ?_
  refine S_getR (n := 58) (C := RX1) (T := TX1) (N := 6) hx hb hg iX1 hown hK hW kd_30 rfl 0 (lt_b rfl) (hg (Cond.fieldLink RX11 246 "SlabWalk$Earnest" "now" "[I") m493) (fun _ h9 => h9) rfl dX11_today_4 ?_
  refine lv_bipush (v := 6) hx hb dX11_today_7 (by decide) ?_
  refine S_iald hx hb hK hW kd_58 (vin (by decide) (by decide)) dX11_today_9 (fun y_1 ey_1 => ?_)
  exact W.iret (v := y_1) hx hb hr (fun t ht _ => ⟨⟨y_1, G, rfl, (P_wToday_mk ⟨hB_G, hF, ⟨y_1, ey_1, ⟨rfl, rfl⟩⟩⟩), wd_t ht hW⟩, hS.F ht⟩) hS.2.2 dX11_today_10

set_option maxHeartbeats 4000000 in
set_option maxRecDepth 100000 in
theorem k_wLay (l : Launch) (D : va_G) (k : KT) (A : Nat → Prop) (a : Nat → Nat) (z : SK) (G : GS) (p0 : Int32)  : Met l yX11_layDown (WS yX11_layDown cX11_layDown 2 none) ({ frames := 0, cells := 0, slots := 0, locals := 0 }) (va_Pc [.ref (a 0), .int p0] (cW D k A a z G)) (va_Qv (fun (G1 : GS) => P_wLay p0 G G1) (fun (G1 : GS) t => Wd D k A a G1 t.heap) A) 0 0 A := by
  refine Met.ofW (cc := cX11_layDown) (maxL := 2) (ret := none) (by decide) rfl ?_
  intro p e s m args below meth c s₁ B hml hv
  obtain ⟨rfl, hW, hB_G, hK, hZ⟩ := hv
  have hx := B.exec
  have hb := B.bytes
  have hr := B.returns
  have hts := atoms_spec (ws := WS yX11_layDown cX11_layDown 2 none) B.pre
  have hgd : ∀ w ∈ gd, w ∈ WS yX11_layDown cX11_layDown 2 none := fun w h => List.mem_cons_of_mem _ h
  have hg : ∀ w ∈ gd, w.before _ s = true := fun w h => hts w (hgd w h)
  have hown : s.vm.findClass RX11 = some m.cls := findClass_of_methodNamed B.named
  have hS : va_S A s.heap s.heap [] := va_S.rf
  have hF : Fr [33] [(0, 12)] G G := Fr.rf
  have hl := lv_entry ([.ref (a 0), .int p0]) (n := 2) (Nat.le_of_ble_eq_true rfl)
  rw [lg_entry_eq]
  generalize (lg_sl ([.ref (a 0), .int p0]) ++ List.replicate (2 - (lg_sl ([.ref (a 0), .int p0])).length) Slot.unset).toArray = ls at hl ⊢
  have hl : lv_has ls 2 [(0, .ref (a 0)), (1, .int p0)] := hl
  refine lv_aload_n hx hb dX11_layDown_0 rfl (lv_at hl 0 rfl) ?_
  have b_1 : 0 ≤ (G.1 0 12).toInt ∧ (G.1 0 12).toInt ≤ 400 := bd_0_12 hB_G
  refine S_getI (v := (G.1 0 12)) (C := RX11) (T := TX11) (N := 13) hx hb hg iX11 hown hK hW kd_0 rfl 12 (lt_b rfl) (hg (Cond.fieldLink RX11 150 "SlabWalk" "lie" "I") m582) (fun _ h9 => h9) rfl rfl dX11_layDown_1 ?_
  refine lv_sipush (v := 400) hx hb dX11_layDown_4 (by decide) ?_
  refine lv_icmp_ge (tgt := 27) hx hb dX11_layDown_7 rfl (fun c_2 => ?_) (fun c_2 => ?_)
  · have c_2 : 400 ≤ (G.1 0 12).toInt := xI_le rfl rfl c_2
    exact W.vret hx hb hr (fun t ht _ => ⟨⟨G, rfl, (P_wLay_mk ⟨hB_G, hF, (Or.inl ⟨c_2, rfl⟩)⟩), wd_t ht hW⟩, hS.F ht⟩) hS.2.2 dX11_layDown_27
  · have c_2 : (G.1 0 12).toInt < 400 := xI_nle rfl rfl c_2
    refine lv_aload_n hx hb dX11_layDown_10 rfl (lv_at hl 0 rfl) ?_
    refine S_getR (n := 33) (C := RX11) (T := TX11) (N := 13) hx hb hg iX11 hown hK hW kd_0 rfl 10 (lt_b rfl) (hg (Cond.fieldLink RX11 76 "SlabWalk" "lying" "[I") m580) (fun _ h9 => h9) rfl dX11_layDown_11 ?_
    refine lv_aload_n hx hb dX11_layDown_14 rfl (lv_at hl 0 rfl) ?_
    refine lv_dup hx hb dX11_layDown_15 rfl ?_
    refine S_getI (v := (G.1 0 12)) (C := RX11) (T := TX11) (N := 13) hx hb hg iX11 hown hK hW kd_0 rfl 12 (lt_b rfl) (hg (Cond.fieldLink RX11 150 "SlabWalk" "lie" "I") m582) (fun _ h9 => h9) rfl rfl dX11_layDown_16 ?_
    refine lv_dup_x1 hx hb dX11_layDown_19 rfl rfl ?_
    refine ic_1 hx hb dX11_layDown_20 ?_
    refine lv_iadd hx hb dX11_layDown_21 ?_
    refine lv_topi (fun y_3 ey_3 => ?_)
    have ty_3 : y_3.toInt = (G.1 0 12).toInt + 1 := xI_add rfl rfl ey_3 (by omega) (by omega)
    refine S_putI (ty := .int) (C := RX11) (T := TX11) (N := 13) hx hb hg iX11 tyX11 tyX11_ok nmX11 hown hK hW hS kd_0 rfl 12 (lt_b rfl) (hg (Cond.fieldLink RX11 150 "SlabWalk" "lie" "I") m582) (fun _ h9 => h9) rfl (by decide +kernel) rfl rfl rfl dX11_layDown_22 (fun G_4 H locs eG_4 hW hS => ?_)
    have hB_G_4 : Bd G_4 := hB_G.put (V := y_3.toInt) (lo := 0) (hi := 400) eG_4 rfl rfl rfl (by omega) (by omega) (hB_G.2.put eG_4 rfl)
    have hF := hF.put eG_4 (Or.inr (by decide))
    refine lv_iload_n hx hb dX11_layDown_25 rfl (lv_at hl 1 rfl) ?_
    refine S_iast hx hb hK hW hS kd_33 (vin (by omega) (by omega)) dX11_layDown_26 (fun G_5 H locs eG_5 hW hS => ?_)
    have hB_G_5 : Bd G_5 := hB_G_4.put (lo := (-2147483648)) (hi := 2147483647) eG_5 rfl rfl rfl (tI_rng _).1 (tI_rng _).2 (hB_G_4.2.put eG_5 rfl)
    have hF := hF.put eG_5 (Or.inl (by decide))
    exact W.vret hx hb hr (fun t ht _ => ⟨⟨G_5, rfl, (P_wLay_mk ⟨hB_G_5, hF, (Or.inr ⟨c_2, ⟨y_3, ty_3, ⟨(Fr.put (rs := [33]) (fs := [(0, 12)]) (Fr.put (rs := [33]) (fs := [(0, 12)]) Fr.rf eG_4 (Or.inr (by decide))) eG_5 (Or.inl (by decide))), ((gp_ne eG_5 (fun q => absurd q.1 (Nat.ne_of_beq_eq_false rfl))).trans (gp_eq eG_4)), (rw_ast eG_5).trans (congrArg (fun q => upd q ((G.1 0 12).toNatClampNeg) p0) (rw_put eG_4 (by decide)))⟩⟩⟩)⟩), wd_t ht hW⟩, hS.F ht⟩) hS.2.2 dX11_layDown_27

set_option maxHeartbeats 4000000 in
set_option maxRecDepth 100000 in
theorem k_wTape (l : Launch) (D : va_G) (k : KT) (A : Nat → Prop) (a : Nat → Nat) (z : SK) (G : GS) (p0 : Int32)  : Met l yX11_putOnTape (WS yX11_putOnTape cX11_putOnTape 3 none) ({ frames := 0, cells := 0, slots := 0, locals := 0 }) (va_Pc [.ref (a 0), .int p0] (cW D k A a z G)) (va_Qv (fun (G1 : GS) => P_wTape p0 G G1) (fun (G1 : GS) t => Wd D k A a G1 t.heap) A) 0 0 A := by
  refine Met.ofW (cc := cX11_putOnTape) (maxL := 3) (ret := none) (by decide) rfl ?_
  intro p e s m args below meth c s₁ B hml hv
  obtain ⟨rfl, hW, hB_G, hK, hZ⟩ := hv
  have hx := B.exec
  have hb := B.bytes
  have hr := B.returns
  have hts := atoms_spec (ws := WS yX11_putOnTape cX11_putOnTape 3 none) B.pre
  have hgd : ∀ w ∈ gd, w ∈ WS yX11_putOnTape cX11_putOnTape 3 none := fun w h => List.mem_cons_of_mem _ h
  have hg : ∀ w ∈ gd, w.before _ s = true := fun w h => hts w (hgd w h)
  have hown : s.vm.findClass RX11 = some m.cls := findClass_of_methodNamed B.named
  have hS : va_S A s.heap s.heap [] := va_S.rf
  have hF : Fr [32] [(0, 11)] G G := Fr.rf
  have hl := lv_entry ([.ref (a 0), .int p0]) (n := 3) (Nat.le_of_ble_eq_true rfl)
  rw [lg_entry_eq]
  generalize (lg_sl ([.ref (a 0), .int p0]) ++ List.replicate (3 - (lg_sl ([.ref (a 0), .int p0])).length) Slot.unset).toArray = ls at hl ⊢
  have hl : lv_has ls 3 [(0, .ref (a 0)), (1, .int p0)] := hl
  refine lv_bipush (v := 24) hx hb dX11_putOnTape_0 (by decide) ?_
  refine lv_istore_n (lv' := [(2, .int 24), (0, .ref (a 0)), (1, .int p0)]) hx hb dX11_putOnTape_2 rfl hl (lt_b rfl) rfl (fun ls hl => ?_)
  have qc_7 : (24 : Int32).toInt = 24 := rfl
  refine loop_N (Inv := fun n H locs ls => ∃ (G_1 : GS) (x_5 : Int32), (n : Int) = x_5.toInt - (-8) ∧ ((-8) ≤ x_5.toInt ∧ x_5.toInt ≤ 24) ∧ Rc (St_k_wTape_1 p0) (24, G) (x_5, G_1) ∧ Wd D k A a G_1 H ∧ Bd G_1 ∧ Fr [32] [(0, 11)] G G_1 ∧ Fr [32] [(0, 11)] G G_1 ∧ va_S A s.heap H locs ∧ lv_has ls 3 [(2, .int x_5), (0, .ref (a 0)), (1, .int p0)]) (fun n_4 H locs ls ih_3 hI => ?_) (24 - (-8) : Int).toNat ⟨G, 24, (Int.toNat_of_nonneg (by omega)), ⟨by omega, by omega⟩, Rc.rf, hW, hB_G, hF, Fr.rf, hS, lv_sub hl [0, 1, 2] rfl⟩
  obtain ⟨G_1, x_5, hn_9, f_8, hX_6, hW, hB_G_1, hF, hq_2, hS, hl⟩ := hI
  refine lv_iload_n hx hb dX11_putOnTape_3 rfl (lv_at hl 0 rfl) ?_
  refine lv_if_lt (tgt := 43) hx hb dX11_putOnTape_4 rfl (fun c_10 => ?_) (fun c_10 => ?_)
  · have c_10 : x_5.toInt < 0 := xI_lt rfl rfl c_10
    exact W.vret hx hb hr (fun t ht _ => ⟨⟨G_1, rfl, (P_wTape_mk ⟨hB_G_1, hF, ⟨x_5, G_1, hX_6, f_8, hB_G_1, hq_2, ⟨c_10, rfl⟩⟩⟩), wd_t ht hW⟩, hS.F ht⟩) hS.2.2 dX11_putOnTape_43
  · have c_10 : 0 ≤ x_5.toInt := xI_nlt rfl rfl c_10
    refine lv_aload_n hx hb dX11_putOnTape_7 rfl (lv_at hl 1 rfl) ?_
    have b_11 : 0 ≤ (G_1.1 0 11).toInt ∧ (G_1.1 0 11).toInt ≤ 1600 := bd_0_11 hB_G_1
    refine S_getI (v := (G_1.1 0 11)) (C := RX11) (T := TX11) (N := 13) hx hb hg iX11 hown hK hW kd_0 rfl 11 (lt_b rfl) (hg (Cond.fieldLink RX11 83 "SlabWalk" "taped" "I") m581) (fun _ h9 => h9) rfl rfl dX11_putOnTape_8 ?_
    refine lv_sipush (v := 1600) hx hb dX11_putOnTape_11 (by decide) ?_
    refine lv_icmp_ge (tgt := 37) hx hb dX11_putOnTape_14 rfl (fun c_12 => ?_) (fun c_12 => ?_)
    · have c_12 : 1600 ≤ (G_1.1 0 11).toInt := xI_le rfl rfl c_12
      obtain ⟨y_13, ey_13⟩ : ∃ q, q = x_5 + (-8) := ⟨_, rfl⟩
      have ty_13 : y_13.toInt = x_5.toInt + (-8) := xI_add rfl rfl ey_13 ((by first | (clear hn_9 b_11 c_12; omega) | omega)) ((by first | (clear hn_9 b_11 c_12; omega) | omega))
      refine lv_iinc (v := y_13) (lv' := [(2, .int y_13), (0, .ref (a 0)), (1, .int p0)]) hx hb dX11_putOnTape_37 hl (k := 0) rfl (by rw [ey_13]; rfl) (lt_b rfl) rfl (fun ls hl => ?_)
      refine lv_goto (tgt := 3) hx hb dX11_putOnTape_40 rfl ?_
      exact ih_3 (y_13.toInt - (-8) : Int).toNat (by omega) _ _ _ ⟨G_1, y_13, (Int.toNat_of_nonneg ((by first | (clear hn_9 b_11 c_12; omega) | omega))), ⟨(by first | (clear hn_9 b_11 c_12; omega) | omega), (by first | (clear hn_9 b_11 c_12; omega) | omega)⟩, (hX_6.st (St_k_wTape_1_mk ⟨x_5, G_1, y_13, G_1, rfl, rfl, f_8, hB_G_1, ⟨c_10, (Or.inl ⟨c_12, ⟨y_13, ty_13, ⟨rfl, rfl⟩⟩⟩)⟩⟩)), hW, hB_G_1, hF, (Fr.call9 (rs := [32]) (fs := [(0, 11)]) Fr.rf hq_2 rfl rfl), hS, lv_sub hl [0, 1, 2] rfl⟩
    · have c_12 : (G_1.1 0 11).toInt < 1600 := xI_nle rfl rfl c_12
      refine lv_aload_n hx hb dX11_putOnTape_17 rfl (lv_at hl 1 rfl) ?_
      refine S_getR (n := 32) (C := RX11) (T := TX11) (N := 13) hx hb hg iX11 hown hK hW kd_0 rfl 2 (lt_b rfl) (hg (Cond.fieldLink RX11 19 "SlabWalk" "tape" "[B") m572) (fun _ h9 => h9) rfl dX11_putOnTape_18 ?_
      refine lv_aload_n hx hb dX11_putOnTape_21 rfl (lv_at hl 1 rfl) ?_
      refine lv_dup hx hb dX11_putOnTape_22 rfl ?_
      refine S_getI (v := (G_1.1 0 11)) (C := RX11) (T := TX11) (N := 13) hx hb hg iX11 hown hK hW kd_0 rfl 11 (lt_b rfl) (hg (Cond.fieldLink RX11 83 "SlabWalk" "taped" "I") m581) (fun _ h9 => h9) rfl rfl dX11_putOnTape_23 ?_
      refine lv_dup_x1 hx hb dX11_putOnTape_26 rfl rfl ?_
      refine ic_1 hx hb dX11_putOnTape_27 ?_
      refine lv_iadd hx hb dX11_putOnTape_28 ?_
      refine lv_topi (fun y_14 ey_14 => ?_)
      have ty_14 : y_14.toInt = (G_1.1 0 11).toInt + 1 := xI_add rfl rfl ey_14 ((by first | (clear hn_9 f_8 c_10; omega) | omega)) ((by first | (clear hn_9 f_8 c_10; omega) | omega))
      refine S_putI (ty := .int) (C := RX11) (T := TX11) (N := 13) hx hb hg iX11 tyX11 tyX11_ok nmX11 hown hK hW hS kd_0 rfl 11 (lt_b rfl) (hg (Cond.fieldLink RX11 83 "SlabWalk" "taped" "I") m581) (fun _ h9 => h9) rfl (by decide +kernel) rfl rfl rfl dX11_putOnTape_29 (fun G_15 H locs eG_15 hW hS => ?_)
      have hB_G_15 : Bd G_15 := hB_G_1.put (V := y_14.toInt) (lo := 0) (hi := 1600) eG_15 rfl rfl rfl ((by first | (clear hn_9 f_8 c_10; omega) | omega)) ((by first | (clear hn_9 f_8 c_10; omega) | omega)) (hB_G_1.2.put eG_15 rfl)
      have hF := hF.put eG_15 (Or.inr (by decide))
      refine lv_iload_n hx hb dX11_putOnTape_32 rfl (lv_at hl 2 rfl) ?_
      refine lv_iload_n hx hb dX11_putOnTape_33 rfl (lv_at hl 0 rfl) ?_
      refine lv_ishr hx hb dX11_putOnTape_34 ?_
      refine lv_topi (fun y_16 ey_16 => ?_)
      refine lv_i2b hx hb dX11_putOnTape_35 rfl ?_
      refine lv_topi (fun y_17 ey_17 => ?_)
      refine S_bast hx hb hK hW hS kd_32 (vin ((by first | (clear hn_9 f_8 c_10; omega) | omega)) ((by first | (clear hn_9 f_8 c_10; omega) | omega))) dX11_putOnTape_36 (fun G_18 H locs eG_18 hW hS => ?_)
      have hB_G_18 : Bd G_18 := hB_G_15.put (lo := (-128)) (hi := 127) eG_18 rfl rfl rfl nz_byte.1 nz_byte.2 (hB_G_15.2.put eG_18 rfl)
      have hF := hF.put eG_18 (Or.inl (by decide))
      obtain ⟨y_19, ey_19⟩ : ∃ q, q = x_5 + (-8) := ⟨_, rfl⟩
      have ty_19 : y_19.toInt = x_5.toInt + (-8) := xI_add rfl rfl ey_19 ((by first | (clear hn_9 b_11 c_12 ty_14; omega) | omega)) ((by first | (clear hn_9 b_11 c_12 ty_14; omega) | omega))
      refine lv_iinc (v := y_19) (lv' := [(2, .int y_19), (0, .ref (a 0)), (1, .int p0)]) hx hb dX11_putOnTape_37 hl (k := 0) rfl (by rw [ey_19]; rfl) (lt_b rfl) rfl (fun ls hl => ?_)
      refine lv_goto (tgt := 3) hx hb dX11_putOnTape_40 rfl ?_
      exact ih_3 (y_19.toInt - (-8) : Int).toNat ((by first | (clear b_11 c_12 ty_14; omega) | omega)) _ _ _ ⟨G_18, y_19, (Int.toNat_of_nonneg ((by first | (clear hn_9 b_11 c_12 ty_14; omega) | omega))), ⟨(by first | (clear hn_9 b_11 c_12 ty_14; omega) | omega), (by first | (clear hn_9 b_11 c_12 ty_14; omega) | omega)⟩, (hX_6.st (St_k_wTape_1_mk ⟨x_5, G_1, y_19, G_18, rfl, rfl, f_8, hB_G_1, ⟨c_10, (Or.inr ⟨c_12, ⟨y_14, ty_14, ⟨y_16, ey_16, ⟨y_17, ey_17, ⟨y_19, ty_19, ⟨rfl, (Fr.put (rs := [32]) (fs := [(0, 11)]) (Fr.put (rs := [32]) (fs := [(0, 11)]) Fr.rf eG_15 (Or.inr (by decide))) eG_18 (Or.inl (by decide))), ((gp_ne eG_18 (fun q => absurd q.1 (Nat.ne_of_beq_eq_false rfl))).trans (gp_eq eG_15)), (rw_ast eG_18).trans (congrArg (fun q => upd q ((G_1.1 0 11).toNatClampNeg) (vp_nar .byte y_17)) (rw_put eG_15 (by decide)))⟩⟩⟩⟩⟩⟩)⟩⟩)), hW, hB_G_18, hF, (Fr.put (rs := [32]) (fs := [(0, 11)]) (Fr.put (rs := [32]) (fs := [(0, 11)]) (Fr.call9 (rs := [32]) (fs := [(0, 11)]) Fr.rf hq_2 rfl rfl) eG_15 (Or.inr (by decide))) eG_18 (Or.inl (by decide))), hS, lv_sub hl [0, 1, 2] rfl⟩
