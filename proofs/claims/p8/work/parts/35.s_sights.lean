theorem m520 : Cond.fieldLink RX8 11 "SlabWalk$Sights" "walker" "[I" ∈ gd := gdc_2_10 4 rfl gw_fieldLink
theorem m522 : Cond.fieldLink RX8 15 "SlabWalk$Sights" "street" "[I" ∈ gd := gdc_2_10 6 rfl gw_fieldLink
theorem m524 : Cond.fieldLink RX8 18 "SlabWalk$Sights" "heel" "[I" ∈ gd := gdc_2_10 8 rfl gw_fieldLink
theorem m526 : Cond.fieldLink RX8 21 "SlabWalk$Sights" "told" "[I" ∈ gd := gdc_2_10 10 rfl gw_fieldLink
theorem m527 : Cond.fieldLink RX8 24 "SlabWalk$Sights" "untold" "[I" ∈ gd := gdc_2_10 11 rfl gw_fieldLink
theorem m528 : Cond.fieldLink RX8 27 "SlabWalk$Sights" "count" "I" ∈ gd := gdc_2_10 12 rfl gw_fieldLink
theorem m530 : Cond.fieldLink RX8 31 "SlabWalk$Sights" "time" "I" ∈ gd := gdc_2_10 14 rfl gw_fieldLink
def rbX8_counts_0 : List (Nat × List Nat) := [(0, [42]), (1, [180, 0, 21]), (4, [27]), (5, [46]), (6, [28]), (7, [163, 0, 27]), (10, [42]), (11, [180, 0, 24]), (14, [27]), (15, [46]), (16, [2]), (17, [159, 0, 13]), (20, [42]), (21, [180, 0, 24]), (24, [27]), (25, [46]), (26, [28]), (27, [164, 0, 7]), (30, [4]), (31, [167, 0, 4]), (34, [3]), (35, [172])]
theorem rcX8_counts_0 : dgo (lb cX8_counts) 0 rbX8_counts_0 = true := by decide +kernel
theorem dX8_counts_0 : decode cX8_counts 0 = .ok (.aload_n 0, 1) := dk_42 (dw rcX8_counts_0 0 rfl)
theorem dX8_counts_1 : decode cX8_counts 1 = .ok (.getfield 21, 3) := dk_180 (dw rcX8_counts_0 1 rfl) rfl
theorem dX8_counts_4 : decode cX8_counts 4 = .ok (.iload_n 1, 1) := dk_27 (dw rcX8_counts_0 2 rfl)
theorem dX8_counts_5 : decode cX8_counts 5 = .ok (.iaload, 1) := dk_46 (dw rcX8_counts_0 3 rfl)
theorem dX8_counts_6 : decode cX8_counts 6 = .ok (.iload_n 2, 1) := dk_28 (dw rcX8_counts_0 4 rfl)
theorem dX8_counts_7 : decode cX8_counts 7 = .ok (.if_icmp .gt 27, 3) := dk_163 (dw rcX8_counts_0 5 rfl) rfl
theorem dX8_counts_10 : decode cX8_counts 10 = .ok (.aload_n 0, 1) := dk_42 (dw rcX8_counts_0 6 rfl)
theorem dX8_counts_11 : decode cX8_counts 11 = .ok (.getfield 24, 3) := dk_180 (dw rcX8_counts_0 7 rfl) rfl
theorem dX8_counts_14 : decode cX8_counts 14 = .ok (.iload_n 1, 1) := dk_27 (dw rcX8_counts_0 8 rfl)
theorem dX8_counts_15 : decode cX8_counts 15 = .ok (.iaload, 1) := dk_46 (dw rcX8_counts_0 9 rfl)
theorem dX8_counts_16 : decode cX8_counts 16 = .ok (.iconst (-1), 1) := dk_2 (dw rcX8_counts_0 10 rfl)
theorem dX8_counts_17 : decode cX8_counts 17 = .ok (.if_icmp .eq 13, 3) := dk_159 (dw rcX8_counts_0 11 rfl) rfl
theorem dX8_counts_20 : decode cX8_counts 20 = .ok (.aload_n 0, 1) := dk_42 (dw rcX8_counts_0 12 rfl)
theorem dX8_counts_21 : decode cX8_counts 21 = .ok (.getfield 24, 3) := dk_180 (dw rcX8_counts_0 13 rfl) rfl
theorem dX8_counts_24 : decode cX8_counts 24 = .ok (.iload_n 1, 1) := dk_27 (dw rcX8_counts_0 14 rfl)
theorem dX8_counts_25 : decode cX8_counts 25 = .ok (.iaload, 1) := dk_46 (dw rcX8_counts_0 15 rfl)
theorem dX8_counts_26 : decode cX8_counts 26 = .ok (.iload_n 2, 1) := dk_28 (dw rcX8_counts_0 16 rfl)
theorem dX8_counts_27 : decode cX8_counts 27 = .ok (.if_icmp .le 7, 3) := dk_164 (dw rcX8_counts_0 17 rfl) rfl
theorem dX8_counts_30 : decode cX8_counts 30 = .ok (.iconst 1, 1) := dk_4 (dw rcX8_counts_0 18 rfl)
theorem dX8_counts_31 : decode cX8_counts 31 = .ok (.goto 4, 3) := dk_167 (dw rcX8_counts_0 19 rfl) rfl
theorem dX8_counts_34 : decode cX8_counts 34 = .ok (.iconst 0, 1) := dk_3 (dw rcX8_counts_0 20 rfl)
theorem dX8_counts_35 : decode cX8_counts 35 = .ok (.ireturn, 1) := dk_172 (dw rcX8_counts_0 21 rfl)
def rbX8_takeFrom_0 : List (Nat × List Nat) := [(0, [27]), (1, [155, 0, 21]), (4, [27]), (5, [42]), (6, [180, 0, 27]), (9, [162, 0, 13]), (12, [42]), (13, [180, 0, 24]), (16, [27]), (17, [46]), (18, [2]), (19, [159, 0, 5]), (22, [3]), (23, [172]), (24, [42]), (25, [180, 0, 24]), (28, [27]), (29, [42]), (30, [180, 0, 31]), (33, [79]), (34, [4]), (35, [172])]
theorem rcX8_takeFrom_0 : dgo (lb cX8_takeFrom) 0 rbX8_takeFrom_0 = true := by decide +kernel
theorem dX8_takeFrom_0 : decode cX8_takeFrom 0 = .ok (.iload_n 1, 1) := dk_27 (dw rcX8_takeFrom_0 0 rfl)
theorem dX8_takeFrom_1 : decode cX8_takeFrom 1 = .ok (.ifCond .lt 21, 3) := dk_155 (dw rcX8_takeFrom_0 1 rfl) rfl
theorem dX8_takeFrom_4 : decode cX8_takeFrom 4 = .ok (.iload_n 1, 1) := dk_27 (dw rcX8_takeFrom_0 2 rfl)
theorem dX8_takeFrom_5 : decode cX8_takeFrom 5 = .ok (.aload_n 0, 1) := dk_42 (dw rcX8_takeFrom_0 3 rfl)
theorem dX8_takeFrom_6 : decode cX8_takeFrom 6 = .ok (.getfield 27, 3) := dk_180 (dw rcX8_takeFrom_0 4 rfl) rfl
theorem dX8_takeFrom_9 : decode cX8_takeFrom 9 = .ok (.if_icmp .ge 13, 3) := dk_162 (dw rcX8_takeFrom_0 5 rfl) rfl
theorem dX8_takeFrom_12 : decode cX8_takeFrom 12 = .ok (.aload_n 0, 1) := dk_42 (dw rcX8_takeFrom_0 6 rfl)
theorem dX8_takeFrom_13 : decode cX8_takeFrom 13 = .ok (.getfield 24, 3) := dk_180 (dw rcX8_takeFrom_0 7 rfl) rfl
theorem dX8_takeFrom_16 : decode cX8_takeFrom 16 = .ok (.iload_n 1, 1) := dk_27 (dw rcX8_takeFrom_0 8 rfl)
theorem dX8_takeFrom_17 : decode cX8_takeFrom 17 = .ok (.iaload, 1) := dk_46 (dw rcX8_takeFrom_0 9 rfl)
theorem dX8_takeFrom_18 : decode cX8_takeFrom 18 = .ok (.iconst (-1), 1) := dk_2 (dw rcX8_takeFrom_0 10 rfl)
theorem dX8_takeFrom_19 : decode cX8_takeFrom 19 = .ok (.if_icmp .eq 5, 3) := dk_159 (dw rcX8_takeFrom_0 11 rfl) rfl
theorem dX8_takeFrom_22 : decode cX8_takeFrom 22 = .ok (.iconst 0, 1) := dk_3 (dw rcX8_takeFrom_0 12 rfl)
theorem dX8_takeFrom_23 : decode cX8_takeFrom 23 = .ok (.ireturn, 1) := dk_172 (dw rcX8_takeFrom_0 13 rfl)
theorem dX8_takeFrom_24 : decode cX8_takeFrom 24 = .ok (.aload_n 0, 1) := dk_42 (dw rcX8_takeFrom_0 14 rfl)
theorem dX8_takeFrom_25 : decode cX8_takeFrom 25 = .ok (.getfield 24, 3) := dk_180 (dw rcX8_takeFrom_0 15 rfl) rfl
theorem dX8_takeFrom_28 : decode cX8_takeFrom 28 = .ok (.iload_n 1, 1) := dk_27 (dw rcX8_takeFrom_0 16 rfl)
theorem dX8_takeFrom_29 : decode cX8_takeFrom 29 = .ok (.aload_n 0, 1) := dk_42 (dw rcX8_takeFrom_0 17 rfl)
theorem dX8_takeFrom_30 : decode cX8_takeFrom 30 = .ok (.getfield 31, 3) := dk_180 (dw rcX8_takeFrom_0 18 rfl) rfl
theorem dX8_takeFrom_33 : decode cX8_takeFrom 33 = .ok (.iastore, 1) := dk_79 (dw rcX8_takeFrom_0 19 rfl)
theorem dX8_takeFrom_34 : decode cX8_takeFrom 34 = .ok (.iconst 1, 1) := dk_4 (dw rcX8_takeFrom_0 20 rfl)
theorem dX8_takeFrom_35 : decode cX8_takeFrom 35 = .ok (.ireturn, 1) := dk_172 (dw rcX8_takeFrom_0 21 rfl)
def rbX8_tell_0 : List (Nat × List Nat) := [(0, [42]), (1, [180, 0, 27]), (4, [16, 20]), (6, [161, 0, 5]), (9, [2]), (10, [172]), (11, [42]), (12, [180, 0, 11]), (15, [42]), (16, [180, 0, 27]), (19, [27]), (20, [79]), (21, [42]), (22, [180, 0, 15]), (25, [42]), (26, [180, 0, 27]), (29, [28]), (30, [79]), (31, [42]), (32, [180, 0, 18]), (35, [42]), (36, [180, 0, 27]), (39, [29]), (40, [79])]
theorem rcX8_tell_0 : dgo (lb cX8_tell) 0 rbX8_tell_0 = true := by decide +kernel
theorem dX8_tell_0 : decode cX8_tell 0 = .ok (.aload_n 0, 1) := dk_42 (dw rcX8_tell_0 0 rfl)
theorem dX8_tell_1 : decode cX8_tell 1 = .ok (.getfield 27, 3) := dk_180 (dw rcX8_tell_0 1 rfl) rfl
theorem dX8_tell_4 : decode cX8_tell 4 = .ok (.bipush 20, 2) := dk_16 (dw rcX8_tell_0 2 rfl) rfl
theorem dX8_tell_6 : decode cX8_tell 6 = .ok (.if_icmp .lt 5, 3) := dk_161 (dw rcX8_tell_0 3 rfl) rfl
theorem dX8_tell_9 : decode cX8_tell 9 = .ok (.iconst (-1), 1) := dk_2 (dw rcX8_tell_0 4 rfl)
theorem dX8_tell_10 : decode cX8_tell 10 = .ok (.ireturn, 1) := dk_172 (dw rcX8_tell_0 5 rfl)
theorem dX8_tell_11 : decode cX8_tell 11 = .ok (.aload_n 0, 1) := dk_42 (dw rcX8_tell_0 6 rfl)
theorem dX8_tell_12 : decode cX8_tell 12 = .ok (.getfield 11, 3) := dk_180 (dw rcX8_tell_0 7 rfl) rfl
theorem dX8_tell_15 : decode cX8_tell 15 = .ok (.aload_n 0, 1) := dk_42 (dw rcX8_tell_0 8 rfl)
theorem dX8_tell_16 : decode cX8_tell 16 = .ok (.getfield 27, 3) := dk_180 (dw rcX8_tell_0 9 rfl) rfl
theorem dX8_tell_19 : decode cX8_tell 19 = .ok (.iload_n 1, 1) := dk_27 (dw rcX8_tell_0 10 rfl)
theorem dX8_tell_20 : decode cX8_tell 20 = .ok (.iastore, 1) := dk_79 (dw rcX8_tell_0 11 rfl)
theorem dX8_tell_21 : decode cX8_tell 21 = .ok (.aload_n 0, 1) := dk_42 (dw rcX8_tell_0 12 rfl)
theorem dX8_tell_22 : decode cX8_tell 22 = .ok (.getfield 15, 3) := dk_180 (dw rcX8_tell_0 13 rfl) rfl
theorem dX8_tell_25 : decode cX8_tell 25 = .ok (.aload_n 0, 1) := dk_42 (dw rcX8_tell_0 14 rfl)
theorem dX8_tell_26 : decode cX8_tell 26 = .ok (.getfield 27, 3) := dk_180 (dw rcX8_tell_0 15 rfl) rfl
theorem dX8_tell_29 : decode cX8_tell 29 = .ok (.iload_n 2, 1) := dk_28 (dw rcX8_tell_0 16 rfl)
theorem dX8_tell_30 : decode cX8_tell 30 = .ok (.iastore, 1) := dk_79 (dw rcX8_tell_0 17 rfl)
theorem dX8_tell_31 : decode cX8_tell 31 = .ok (.aload_n 0, 1) := dk_42 (dw rcX8_tell_0 18 rfl)
theorem dX8_tell_32 : decode cX8_tell 32 = .ok (.getfield 18, 3) := dk_180 (dw rcX8_tell_0 19 rfl) rfl
theorem dX8_tell_35 : decode cX8_tell 35 = .ok (.aload_n 0, 1) := dk_42 (dw rcX8_tell_0 20 rfl)
theorem dX8_tell_36 : decode cX8_tell 36 = .ok (.getfield 27, 3) := dk_180 (dw rcX8_tell_0 21 rfl) rfl
theorem dX8_tell_39 : decode cX8_tell 39 = .ok (.iload_n 3, 1) := dk_29 (dw rcX8_tell_0 22 rfl)
theorem dX8_tell_40 : decode cX8_tell 40 = .ok (.iastore, 1) := dk_79 (dw rcX8_tell_0 23 rfl)
def rbX8_tell_41 : List (Nat × List Nat) := [(41, [42]), (42, [180, 0, 21]), (45, [42]), (46, [180, 0, 27]), (49, [42]), (50, [180, 0, 31]), (53, [79]), (54, [42]), (55, [180, 0, 24]), (58, [42]), (59, [180, 0, 27]), (62, [2]), (63, [79]), (64, [42]), (65, [89]), (66, [180, 0, 27]), (69, [90]), (70, [4]), (71, [96]), (72, [181, 0, 27]), (75, [172])]
theorem rcX8_tell_41 : dgo (lb cX8_tell) 0 rbX8_tell_41 = true := by decide +kernel
theorem dX8_tell_41 : decode cX8_tell 41 = .ok (.aload_n 0, 1) := dk_42 (dw rcX8_tell_41 0 rfl)
theorem dX8_tell_42 : decode cX8_tell 42 = .ok (.getfield 21, 3) := dk_180 (dw rcX8_tell_41 1 rfl) rfl
theorem dX8_tell_45 : decode cX8_tell 45 = .ok (.aload_n 0, 1) := dk_42 (dw rcX8_tell_41 2 rfl)
theorem dX8_tell_46 : decode cX8_tell 46 = .ok (.getfield 27, 3) := dk_180 (dw rcX8_tell_41 3 rfl) rfl
theorem dX8_tell_49 : decode cX8_tell 49 = .ok (.aload_n 0, 1) := dk_42 (dw rcX8_tell_41 4 rfl)
theorem dX8_tell_50 : decode cX8_tell 50 = .ok (.getfield 31, 3) := dk_180 (dw rcX8_tell_41 5 rfl) rfl
theorem dX8_tell_53 : decode cX8_tell 53 = .ok (.iastore, 1) := dk_79 (dw rcX8_tell_41 6 rfl)
theorem dX8_tell_54 : decode cX8_tell 54 = .ok (.aload_n 0, 1) := dk_42 (dw rcX8_tell_41 7 rfl)
theorem dX8_tell_55 : decode cX8_tell 55 = .ok (.getfield 24, 3) := dk_180 (dw rcX8_tell_41 8 rfl) rfl
theorem dX8_tell_58 : decode cX8_tell 58 = .ok (.aload_n 0, 1) := dk_42 (dw rcX8_tell_41 9 rfl)
theorem dX8_tell_59 : decode cX8_tell 59 = .ok (.getfield 27, 3) := dk_180 (dw rcX8_tell_41 10 rfl) rfl
theorem dX8_tell_62 : decode cX8_tell 62 = .ok (.iconst (-1), 1) := dk_2 (dw rcX8_tell_41 11 rfl)
theorem dX8_tell_63 : decode cX8_tell 63 = .ok (.iastore, 1) := dk_79 (dw rcX8_tell_41 12 rfl)
theorem dX8_tell_64 : decode cX8_tell 64 = .ok (.aload_n 0, 1) := dk_42 (dw rcX8_tell_41 13 rfl)
theorem dX8_tell_65 : decode cX8_tell 65 = .ok (.dup, 1) := dk_89 (dw rcX8_tell_41 14 rfl)
theorem dX8_tell_66 : decode cX8_tell 66 = .ok (.getfield 27, 3) := dk_180 (dw rcX8_tell_41 15 rfl) rfl
theorem dX8_tell_69 : decode cX8_tell 69 = .ok (.dup_x1, 1) := dk_90 (dw rcX8_tell_41 16 rfl)
theorem dX8_tell_70 : decode cX8_tell 70 = .ok (.iconst 1, 1) := dk_4 (dw rcX8_tell_41 17 rfl)
theorem dX8_tell_71 : decode cX8_tell 71 = .ok (.iadd, 1) := dk_96 (dw rcX8_tell_41 18 rfl)
theorem dX8_tell_72 : decode cX8_tell 72 = .ok (.putfield 27, 3) := dk_181 (dw rcX8_tell_41 19 rfl) rfl
theorem dX8_tell_75 : decode cX8_tell 75 = .ok (.ireturn, 1) := dk_172 (dw rcX8_tell_41 20 rfl)
set_option maxHeartbeats 4000000 in
set_option maxRecDepth 100000 in
theorem k_sTell (l : Launch) (D : va_G) (k : KT) (A : Nat → Prop) (a : Nat → Nat) (z : SK) (G : GS) (p0 : Int32) (p1 : Int32) (p2 : Int32)  : Met l yX8_tell (WS yX8_tell cX8_tell 4 (some .int)) ({ frames := 0, cells := 0, slots := 0, locals := 0 }) (va_Pc [.ref (a 31), .int p0, .int p1, .int p2] (cW D k A a z G)) (va_Qi (fun (r : Int32) (G1 : GS) => P_sTell p0 p1 p2 G r G1) (fun (G1 : GS) t => Wd D k A a G1 t.heap) A) 0 0 A := by
  refine Met.ofW (cc := cX8_tell) (maxL := 4) (ret := (some .int)) (by decide) rfl ?_
  intro p e s m args below meth c s₁ B hml hv
  obtain ⟨rfl, hW, hB_G, hK, hZ⟩ := hv
  have hx := B.exec
  have hb := B.bytes
  have hr := B.returns
  have hts := atoms_spec (ws := WS yX8_tell cX8_tell 4 (some .int)) B.pre
  have hgd : ∀ w ∈ gd, w ∈ WS yX8_tell cX8_tell 4 (some .int) := fun w h => List.mem_cons_of_mem _ h
  have hg : ∀ w ∈ gd, w.before _ s = true := fun w h => hts w (hgd w h)
  have hown : s.vm.findClass RX8 = some m.cls := findClass_of_methodNamed B.named
  have hS : va_S A s.heap s.heap [] := va_S.rf
  have hF : Fr [61, 62, 63, 64, 65] [(31, 5)] G G := Fr.rf
  have hl := lv_entry ([.ref (a 31), .int p0, .int p1, .int p2]) (n := 4) (Nat.le_of_ble_eq_true rfl)
  rw [lg_entry_eq]
  generalize (lg_sl ([.ref (a 31), .int p0, .int p1, .int p2]) ++ List.replicate (4 - (lg_sl ([.ref (a 31), .int p0, .int p1, .int p2])).length) Slot.unset).toArray = ls at hl ⊢
  have hl : lv_has ls 4 [(0, .ref (a 31)), (1, .int p0), (2, .int p1), (3, .int p2)] := hl
  refine lv_aload_n hx hb dX8_tell_0 rfl (lv_at hl 0 rfl) ?_
  have b_1 : 0 ≤ (G.1 31 5).toInt ∧ (G.1 31 5).toInt ≤ 20 := bd_31_5 hB_G
  refine S_getI (v := (G.1 31 5)) (C := RX8) (T := TX8) (N := 7) hx hb hg iX8 hown hK hW kd_31 rfl 5 (lt_b rfl) (hg (Cond.fieldLink RX8 27 "SlabWalk$Sights" "count" "I") m528) (fun _ h9 => h9) rfl rfl dX8_tell_1 ?_
  refine lv_bipush (v := 20) hx hb dX8_tell_4 (by decide) ?_
  refine lv_icmp_lt (tgt := 11) hx hb dX8_tell_6 rfl (fun c_2 => ?_) (fun c_2 => ?_)
  · have c_2 : (G.1 31 5).toInt < 20 := xI_lt rfl rfl c_2
    refine lv_aload_n hx hb dX8_tell_11 rfl (lv_at hl 0 rfl) ?_
    refine S_getR (n := 61) (C := RX8) (T := TX8) (N := 7) hx hb hg iX8 hown hK hW kd_31 rfl 0 (lt_b rfl) (hg (Cond.fieldLink RX8 11 "SlabWalk$Sights" "walker" "[I") m520) (fun _ h9 => h9) rfl dX8_tell_12 ?_
    refine lv_aload_n hx hb dX8_tell_15 rfl (lv_at hl 0 rfl) ?_
    refine S_getI (v := (G.1 31 5)) (C := RX8) (T := TX8) (N := 7) hx hb hg iX8 hown hK hW kd_31 rfl 5 (lt_b rfl) (hg (Cond.fieldLink RX8 27 "SlabWalk$Sights" "count" "I") m528) (fun _ h9 => h9) rfl rfl dX8_tell_16 ?_
    refine lv_iload_n hx hb dX8_tell_19 rfl (lv_at hl 1 rfl) ?_
    refine S_iast hx hb hK hW hS kd_61 (vin (by omega) (by omega)) dX8_tell_20 (fun G_3 H locs eG_3 hW hS => ?_)
    have hB_G_3 : Bd G_3 := hB_G.put (lo := (-2147483648)) (hi := 2147483647) eG_3 rfl rfl rfl (tI_rng _).1 (tI_rng _).2 (hB_G.2.put eG_3 rfl)
    have hF := hF.put eG_3 (Or.inl (by decide))
    refine lv_aload_n hx hb dX8_tell_21 rfl (lv_at hl 0 rfl) ?_
    refine S_getR (n := 62) (C := RX8) (T := TX8) (N := 7) hx hb hg iX8 hown hK hW kd_31 rfl 1 (lt_b rfl) (hg (Cond.fieldLink RX8 15 "SlabWalk$Sights" "street" "[I") m522) (fun _ h9 => h9) rfl dX8_tell_22 ?_
    refine lv_aload_n hx hb dX8_tell_25 rfl (lv_at hl 0 rfl) ?_
    refine S_getI (v := (G.1 31 5)) (C := RX8) (T := TX8) (N := 7) hx hb hg iX8 hown hK hW kd_31 rfl 5 (lt_b rfl) (hg (Cond.fieldLink RX8 27 "SlabWalk$Sights" "count" "I") m528) (fun _ h9 => h9) rfl ((gp_ne eG_3 (fun q => absurd q.1 (Nat.ne_of_beq_eq_false rfl))).trans (rfl)) dX8_tell_26 ?_
    refine lv_iload_n hx hb dX8_tell_29 rfl (lv_at hl 2 rfl) ?_
    refine S_iast hx hb hK hW hS kd_62 (vin (by omega) (by omega)) dX8_tell_30 (fun G_4 H locs eG_4 hW hS => ?_)
    have hB_G_4 : Bd G_4 := hB_G_3.put (lo := (-2147483648)) (hi := 2147483647) eG_4 rfl rfl rfl (tI_rng _).1 (tI_rng _).2 (hB_G_3.2.put eG_4 rfl)
    have hF := hF.put eG_4 (Or.inl (by decide))
    refine lv_aload_n hx hb dX8_tell_31 rfl (lv_at hl 0 rfl) ?_
    refine S_getR (n := 63) (C := RX8) (T := TX8) (N := 7) hx hb hg iX8 hown hK hW kd_31 rfl 2 (lt_b rfl) (hg (Cond.fieldLink RX8 18 "SlabWalk$Sights" "heel" "[I") m524) (fun _ h9 => h9) rfl dX8_tell_32 ?_
    refine lv_aload_n hx hb dX8_tell_35 rfl (lv_at hl 0 rfl) ?_
    refine S_getI (v := (G.1 31 5)) (C := RX8) (T := TX8) (N := 7) hx hb hg iX8 hown hK hW kd_31 rfl 5 (lt_b rfl) (hg (Cond.fieldLink RX8 27 "SlabWalk$Sights" "count" "I") m528) (fun _ h9 => h9) rfl ((gp_ne eG_4 (fun q => absurd q.1 (Nat.ne_of_beq_eq_false rfl))).trans ((gp_ne eG_3 (fun q => absurd q.1 (Nat.ne_of_beq_eq_false rfl))).trans (rfl))) dX8_tell_36 ?_
    refine lv_iload_n hx hb dX8_tell_39 rfl (lv_at hl 3 rfl) ?_
    refine S_iast hx hb hK hW hS kd_63 (vin (by omega) (by omega)) dX8_tell_40 (fun G_5 H locs eG_5 hW hS => ?_)
    have hB_G_5 : Bd G_5 := hB_G_4.put (lo := (-2147483648)) (hi := 2147483647) eG_5 rfl rfl rfl (tI_rng _).1 (tI_rng _).2 (hB_G_4.2.put eG_5 rfl)
    have hF := hF.put eG_5 (Or.inl (by decide))
    refine lv_aload_n hx hb dX8_tell_41 rfl (lv_at hl 0 rfl) ?_
    refine S_getR (n := 64) (C := RX8) (T := TX8) (N := 7) hx hb hg iX8 hown hK hW kd_31 rfl 3 (lt_b rfl) (hg (Cond.fieldLink RX8 21 "SlabWalk$Sights" "told" "[I") m526) (fun _ h9 => h9) rfl dX8_tell_42 ?_
    refine lv_aload_n hx hb dX8_tell_45 rfl (lv_at hl 0 rfl) ?_
    refine S_getI (v := (G.1 31 5)) (C := RX8) (T := TX8) (N := 7) hx hb hg iX8 hown hK hW kd_31 rfl 5 (lt_b rfl) (hg (Cond.fieldLink RX8 27 "SlabWalk$Sights" "count" "I") m528) (fun _ h9 => h9) rfl ((gp_ne eG_5 (fun q => absurd q.1 (Nat.ne_of_beq_eq_false rfl))).trans ((gp_ne eG_4 (fun q => absurd q.1 (Nat.ne_of_beq_eq_false rfl))).trans ((gp_ne eG_3 (fun q => absurd q.1 (Nat.ne_of_beq_eq_false rfl))).trans (rfl)))) dX8_tell_46 ?_
    refine lv_aload_n hx hb dX8_tell_49 rfl (lv_at hl 0 rfl) ?_
    have b_6 : 0 ≤ (G.1 31 6).toInt ∧ (G.1 31 6).toInt ≤ 100000 := bd_31_6 hB_G
    refine S_getI (v := (G.1 31 6)) (C := RX8) (T := TX8) (N := 7) hx hb hg iX8 hown hK hW kd_31 rfl 6 (lt_b rfl) (hg (Cond.fieldLink RX8 31 "SlabWalk$Sights" "time" "I") m530) (fun _ h9 => h9) rfl ((gp_ne eG_5 (fun q => absurd q.1 (Nat.ne_of_beq_eq_false rfl))).trans ((gp_ne eG_4 (fun q => absurd q.1 (Nat.ne_of_beq_eq_false rfl))).trans (gp_ne eG_3 (fun q => absurd q.1 (Nat.ne_of_beq_eq_false rfl))))) dX8_tell_50 ?_
    refine S_iast hx hb hK hW hS kd_64 (vin (by omega) (by omega)) dX8_tell_53 (fun G_7 H locs eG_7 hW hS => ?_)
    have hB_G_7 : Bd G_7 := hB_G_5.put (lo := (-2147483648)) (hi := 2147483647) eG_7 rfl rfl rfl (tI_rng _).1 (tI_rng _).2 (hB_G_5.2.put eG_7 rfl)
    have hF := hF.put eG_7 (Or.inl (by decide))
    refine lv_aload_n hx hb dX8_tell_54 rfl (lv_at hl 0 rfl) ?_
    refine S_getR (n := 65) (C := RX8) (T := TX8) (N := 7) hx hb hg iX8 hown hK hW kd_31 rfl 4 (lt_b rfl) (hg (Cond.fieldLink RX8 24 "SlabWalk$Sights" "untold" "[I") m527) (fun _ h9 => h9) rfl dX8_tell_55 ?_
    refine lv_aload_n hx hb dX8_tell_58 rfl (lv_at hl 0 rfl) ?_
    refine S_getI (v := (G.1 31 5)) (C := RX8) (T := TX8) (N := 7) hx hb hg iX8 hown hK hW kd_31 rfl 5 (lt_b rfl) (hg (Cond.fieldLink RX8 27 "SlabWalk$Sights" "count" "I") m528) (fun _ h9 => h9) rfl ((gp_ne eG_7 (fun q => absurd q.1 (Nat.ne_of_beq_eq_false rfl))).trans ((gp_ne eG_5 (fun q => absurd q.1 (Nat.ne_of_beq_eq_false rfl))).trans ((gp_ne eG_4 (fun q => absurd q.1 (Nat.ne_of_beq_eq_false rfl))).trans ((gp_ne eG_3 (fun q => absurd q.1 (Nat.ne_of_beq_eq_false rfl))).trans (rfl))))) dX8_tell_59 ?_
    refine ic_m1 hx hb dX8_tell_62 ?_
    refine S_iast hx hb hK hW hS kd_65 (vin (by omega) (by omega)) dX8_tell_63 (fun G_8 H locs eG_8 hW hS => ?_)
    have hB_G_8 : Bd G_8 := hB_G_7.put (lo := (-2147483648)) (hi := 2147483647) eG_8 rfl rfl rfl (tI_rng _).1 (tI_rng _).2 (hB_G_7.2.put eG_8 rfl)
    have hF := hF.put eG_8 (Or.inl (by decide))
    refine lv_aload_n hx hb dX8_tell_64 rfl (lv_at hl 0 rfl) ?_
    refine lv_dup hx hb dX8_tell_65 rfl ?_
    refine S_getI (v := (G.1 31 5)) (C := RX8) (T := TX8) (N := 7) hx hb hg iX8 hown hK hW kd_31 rfl 5 (lt_b rfl) (hg (Cond.fieldLink RX8 27 "SlabWalk$Sights" "count" "I") m528) (fun _ h9 => h9) rfl ((gp_ne eG_8 (fun q => absurd q.1 (Nat.ne_of_beq_eq_false rfl))).trans ((gp_ne eG_7 (fun q => absurd q.1 (Nat.ne_of_beq_eq_false rfl))).trans ((gp_ne eG_5 (fun q => absurd q.1 (Nat.ne_of_beq_eq_false rfl))).trans ((gp_ne eG_4 (fun q => absurd q.1 (Nat.ne_of_beq_eq_false rfl))).trans ((gp_ne eG_3 (fun q => absurd q.1 (Nat.ne_of_beq_eq_false rfl))).trans (rfl)))))) dX8_tell_66 ?_
    refine lv_dup_x1 hx hb dX8_tell_69 rfl rfl ?_
    refine ic_1 hx hb dX8_tell_70 ?_
    refine lv_iadd hx hb dX8_tell_71 ?_
    refine lv_topi (fun y_9 ey_9 => ?_)
    have ty_9 : y_9.toInt = (G.1 31 5).toInt + 1 := xI_add rfl rfl ey_9 (by omega) (by omega)
    refine S_putI (ty := .int) (C := RX8) (T := TX8) (N := 7) hx hb hg iX8 tyX8 tyX8_ok nmX8 hown hK hW hS kd_31 rfl 5 (lt_b rfl) (hg (Cond.fieldLink RX8 27 "SlabWalk$Sights" "count" "I") m528) (fun _ h9 => h9) rfl (by decide +kernel) rfl rfl rfl dX8_tell_72 (fun G_10 H locs eG_10 hW hS => ?_)
    have hB_G_10 : Bd G_10 := hB_G_8.put (V := y_9.toInt) (lo := 0) (hi := 20) eG_10 rfl rfl rfl (by omega) (by omega) (hB_G_8.2.put eG_10 rfl)
    have hF := hF.put eG_10 (Or.inr (by decide))
    exact W.iret (v := (G.1 31 5)) hx hb hr (fun t ht _ => ⟨⟨(G.1 31 5), G_10, rfl, (P_sTell_mk ⟨hB_G_10, hF, (Or.inl ⟨c_2, ⟨y_9, ty_9, ⟨rfl, (Fr.put (rs := [61, 62, 63, 64, 65]) (fs := [(31, 5)]) (Fr.put (rs := [61, 62, 63, 64, 65]) (fs := [(31, 5)]) (Fr.put (rs := [61, 62, 63, 64, 65]) (fs := [(31, 5)]) (Fr.put (rs := [61, 62, 63, 64, 65]) (fs := [(31, 5)]) (Fr.put (rs := [61, 62, 63, 64, 65]) (fs := [(31, 5)]) (Fr.put (rs := [61, 62, 63, 64, 65]) (fs := [(31, 5)]) Fr.rf eG_3 (Or.inl (by decide))) eG_4 (Or.inl (by decide))) eG_5 (Or.inl (by decide))) eG_7 (Or.inl (by decide))) eG_8 (Or.inl (by decide))) eG_10 (Or.inr (by decide))), (gp_eq eG_10), (rw_put eG_10 (by decide)).trans ((rw_put eG_8 (by decide)).trans ((rw_put eG_7 (by decide)).trans ((rw_put eG_5 (by decide)).trans ((rw_put eG_4 (by decide)).trans (rw_ast eG_3))))), (rw_put eG_10 (by decide)).trans ((rw_put eG_8 (by decide)).trans ((rw_put eG_7 (by decide)).trans ((rw_put eG_5 (by decide)).trans ((rw_ast eG_4).trans (congrArg (fun q => upd q ((G.1 31 5).toNatClampNeg) p1) (rw_put eG_3 (by decide))))))), (rw_put eG_10 (by decide)).trans ((rw_put eG_8 (by decide)).trans ((rw_put eG_7 (by decide)).trans ((rw_ast eG_5).trans (congrArg (fun q => upd q ((G.1 31 5).toNatClampNeg) p2) ((rw_put eG_4 (by decide)).trans (rw_put eG_3 (by decide))))))), (rw_put eG_10 (by decide)).trans ((rw_put eG_8 (by decide)).trans ((rw_ast eG_7).trans (congrArg (fun q => upd q ((G.1 31 5).toNatClampNeg) (G.1 31 6)) ((rw_put eG_5 (by decide)).trans ((rw_put eG_4 (by decide)).trans (rw_put eG_3 (by decide))))))), (rw_put eG_10 (by decide)).trans ((rw_ast eG_8).trans (congrArg (fun q => upd q ((G.1 31 5).toNatClampNeg) (-1)) ((rw_put eG_7 (by decide)).trans ((rw_put eG_5 (by decide)).trans ((rw_put eG_4 (by decide)).trans (rw_put eG_3 (by decide)))))))⟩⟩⟩)⟩), wd_t ht hW⟩, hS.F ht⟩) hS.2.2 dX8_tell_75
  · have c_2 : 20 ≤ (G.1 31 5).toInt := xI_nlt rfl rfl c_2
    refine ic_m1 hx hb dX8_tell_9 ?_
    exact W.iret (v := (-1)) hx hb hr (fun t ht _ => ⟨⟨(-1), G, rfl, (P_sTell_mk ⟨hB_G, hF, (Or.inr ⟨c_2, ⟨rfl, rfl⟩⟩)⟩), wd_t ht hW⟩, hS.F ht⟩) hS.2.2 dX8_tell_10

set_option maxHeartbeats 4000000 in
set_option maxRecDepth 100000 in
theorem k_sTake (l : Launch) (D : va_G) (k : KT) (A : Nat → Prop) (a : Nat → Nat) (z : SK) (G : GS) (p0 : Int32)  : Met l yX8_takeFrom (WS yX8_takeFrom cX8_takeFrom 2 (some .boolean)) ({ frames := 0, cells := 0, slots := 0, locals := 0 }) (va_Pc [.ref (a 31), .int p0] (cW D k A a z G)) (va_Qi (fun (r : Int32) (G1 : GS) => P_sTake p0 G r G1) (fun (G1 : GS) t => Wd D k A a G1 t.heap) A) 0 0 A := by
  refine Met.ofW (cc := cX8_takeFrom) (maxL := 2) (ret := (some .boolean)) (by decide) rfl ?_
  intro p e s m args below meth c s₁ B hml hv
  obtain ⟨rfl, hW, hB_G, hK, hZ⟩ := hv
  have hx := B.exec
  have hb := B.bytes
  have hr := B.returns
  have hts := atoms_spec (ws := WS yX8_takeFrom cX8_takeFrom 2 (some .boolean)) B.pre
  have hgd : ∀ w ∈ gd, w ∈ WS yX8_takeFrom cX8_takeFrom 2 (some .boolean) := fun w h => List.mem_cons_of_mem _ h
  have hg : ∀ w ∈ gd, w.before _ s = true := fun w h => hts w (hgd w h)
  have hown : s.vm.findClass RX8 = some m.cls := findClass_of_methodNamed B.named
  have hS : va_S A s.heap s.heap [] := va_S.rf
  have hF : Fr [65] [] G G := Fr.rf
  have hl := lv_entry ([.ref (a 31), .int p0]) (n := 2) (Nat.le_of_ble_eq_true rfl)
  rw [lg_entry_eq]
  generalize (lg_sl ([.ref (a 31), .int p0]) ++ List.replicate (2 - (lg_sl ([.ref (a 31), .int p0])).length) Slot.unset).toArray = ls at hl ⊢
  have hl : lv_has ls 2 [(0, .ref (a 31)), (1, .int p0)] := hl
  refine lv_iload_n hx hb dX8_takeFrom_0 rfl (lv_at hl 1 rfl) ?_
  refine lv_if_lt (tgt := 22) hx hb dX8_takeFrom_1 rfl (fun c_1 => ?_) (fun c_1 => ?_)
  · have c_1 : p0.toInt < 0 := xI_lt rfl rfl c_1
    refine ic_0 hx hb dX8_takeFrom_22 ?_
    exact W.zret (v := 0) hx hb hr (by decide) (fun t ht _ => ⟨⟨0, G, rfl, (P_sTake_mk ⟨hB_G, hF, ⟨by decide, by decide⟩, (Or.inl ⟨c_1, ⟨rfl, rfl⟩⟩)⟩), wd_t ht hW⟩, hS.F ht⟩) hS.2.2 dX8_takeFrom_23
  · have c_1 : 0 ≤ p0.toInt := xI_nlt rfl rfl c_1
    refine lv_iload_n hx hb dX8_takeFrom_4 rfl (lv_at hl 1 rfl) ?_
    refine lv_aload_n hx hb dX8_takeFrom_5 rfl (lv_at hl 0 rfl) ?_
    have b_2 : 0 ≤ (G.1 31 5).toInt ∧ (G.1 31 5).toInt ≤ 20 := bd_31_5 hB_G
    refine S_getI (v := (G.1 31 5)) (C := RX8) (T := TX8) (N := 7) hx hb hg iX8 hown hK hW kd_31 rfl 5 (lt_b rfl) (hg (Cond.fieldLink RX8 27 "SlabWalk$Sights" "count" "I") m528) (fun _ h9 => h9) rfl rfl dX8_takeFrom_6 ?_
    refine lv_icmp_ge (tgt := 22) hx hb dX8_takeFrom_9 rfl (fun c_3 => ?_) (fun c_3 => ?_)
    · have c_3 : (G.1 31 5).toInt ≤ p0.toInt := xI_le rfl rfl c_3
      refine ic_0 hx hb dX8_takeFrom_22 ?_
      exact W.zret (v := 0) hx hb hr (by decide) (fun t ht _ => ⟨⟨0, G, rfl, (P_sTake_mk ⟨hB_G, hF, ⟨by decide, by decide⟩, (Or.inr ⟨c_1, (Or.inl ⟨c_3, ⟨rfl, rfl⟩⟩)⟩)⟩), wd_t ht hW⟩, hS.F ht⟩) hS.2.2 dX8_takeFrom_23
    · have c_3 : p0.toInt < (G.1 31 5).toInt := xI_nle rfl rfl c_3
      refine lv_aload_n hx hb dX8_takeFrom_12 rfl (lv_at hl 0 rfl) ?_
      refine S_getR (n := 65) (C := RX8) (T := TX8) (N := 7) hx hb hg iX8 hown hK hW kd_31 rfl 4 (lt_b rfl) (hg (Cond.fieldLink RX8 24 "SlabWalk$Sights" "untold" "[I") m527) (fun _ h9 => h9) rfl dX8_takeFrom_13 ?_
      refine lv_iload_n hx hb dX8_takeFrom_16 rfl (lv_at hl 1 rfl) ?_
      refine S_iald hx hb hK hW kd_65 (vin (by omega) (by omega)) dX8_takeFrom_17 (fun y_4 ey_4 => ?_)
      refine ic_m1 hx hb dX8_takeFrom_18 ?_
      refine lv_icmp_eq (tgt := 24) hx hb dX8_takeFrom_19 rfl (fun c_5 => ?_) (fun c_5 => ?_)
      · have c_5 : y_4.toInt = (-1) := xI_eq rfl rfl c_5
        refine lv_aload_n hx hb dX8_takeFrom_24 rfl (lv_at hl 0 rfl) ?_
        refine S_getR (n := 65) (C := RX8) (T := TX8) (N := 7) hx hb hg iX8 hown hK hW kd_31 rfl 4 (lt_b rfl) (hg (Cond.fieldLink RX8 24 "SlabWalk$Sights" "untold" "[I") m527) (fun _ h9 => h9) rfl dX8_takeFrom_25 ?_
        refine lv_iload_n hx hb dX8_takeFrom_28 rfl (lv_at hl 1 rfl) ?_
        refine lv_aload_n hx hb dX8_takeFrom_29 rfl (lv_at hl 0 rfl) ?_
        have b_6 : 0 ≤ (G.1 31 6).toInt ∧ (G.1 31 6).toInt ≤ 100000 := bd_31_6 hB_G
        refine S_getI (v := (G.1 31 6)) (C := RX8) (T := TX8) (N := 7) hx hb hg iX8 hown hK hW kd_31 rfl 6 (lt_b rfl) (hg (Cond.fieldLink RX8 31 "SlabWalk$Sights" "time" "I") m530) (fun _ h9 => h9) rfl rfl dX8_takeFrom_30 ?_
        refine S_iast hx hb hK hW hS kd_65 (vin (by omega) (by omega)) dX8_takeFrom_33 (fun G_7 H locs eG_7 hW hS => ?_)
        have hB_G_7 : Bd G_7 := hB_G.put (lo := (-2147483648)) (hi := 2147483647) eG_7 rfl rfl rfl (tI_rng _).1 (tI_rng _).2 (hB_G.2.put eG_7 rfl)
        have hF := hF.put eG_7 (Or.inl (by decide))
        refine ic_1 hx hb dX8_takeFrom_34 ?_
        exact W.zret (v := 1) hx hb hr (by decide) (fun t ht _ => ⟨⟨1, G_7, rfl, (P_sTake_mk ⟨hB_G_7, hF, ⟨by decide, by decide⟩, (Or.inr ⟨c_1, (Or.inr ⟨c_3, ⟨y_4, ey_4, (Or.inl ⟨c_5, ⟨rfl, (Fr.put (rs := [65]) (fs := []) Fr.rf eG_7 (Or.inl (by decide))), rw_ast eG_7⟩⟩)⟩⟩)⟩)⟩), wd_t ht hW⟩, hS.F ht⟩) hS.2.2 dX8_takeFrom_35
      · have c_5 : y_4.toInt ≠ (-1) := xI_ne rfl rfl c_5
        refine ic_0 hx hb dX8_takeFrom_22 ?_
        exact W.zret (v := 0) hx hb hr (by decide) (fun t ht _ => ⟨⟨0, G, rfl, (P_sTake_mk ⟨hB_G, hF, ⟨by decide, by decide⟩, (Or.inr ⟨c_1, (Or.inr ⟨c_3, ⟨y_4, ey_4, (Or.inr ⟨c_5, ⟨rfl, rfl⟩⟩)⟩⟩)⟩)⟩), wd_t ht hW⟩, hS.F ht⟩) hS.2.2 dX8_takeFrom_23

set_option maxHeartbeats 4000000 in
set_option maxRecDepth 100000 in
theorem k_sCounts (l : Launch) (D : va_G) (k : KT) (A : Nat → Prop) (a : Nat → Nat) (z : SK) (G : GS) (p0 : Int32) (p1 : Int32) (ha_p0 : 0 ≤ p0.toInt ∧ p0.toInt ≤ 19) : Met l yX8_counts (WS yX8_counts cX8_counts 3 (some .boolean)) ({ frames := 0, cells := 0, slots := 0, locals := 0 }) (va_Pc [.ref (a 31), .int p0, .int p1] (cW D k A a z G)) (va_Qi (fun (r : Int32) (G1 : GS) => P_sCounts p0 p1 G r G1) (fun (G1 : GS) t => Wd D k A a G1 t.heap) A) 0 0 A := by
  refine Met.ofW (cc := cX8_counts) (maxL := 3) (ret := (some .boolean)) (by decide) rfl ?_
  intro p e s m args below meth c s₁ B hml hv
  obtain ⟨rfl, hW, hB_G, hK, hZ⟩ := hv
  have hx := B.exec
  have hb := B.bytes
  have hr := B.returns
  have hts := atoms_spec (ws := WS yX8_counts cX8_counts 3 (some .boolean)) B.pre
  have hgd : ∀ w ∈ gd, w ∈ WS yX8_counts cX8_counts 3 (some .boolean) := fun w h => List.mem_cons_of_mem _ h
  have hg : ∀ w ∈ gd, w.before _ s = true := fun w h => hts w (hgd w h)
  have hown : s.vm.findClass RX8 = some m.cls := findClass_of_methodNamed B.named
  have hS : va_S A s.heap s.heap [] := va_S.rf
  have hF : Fr [] [] G G := Fr.rf
  have hl := lv_entry ([.ref (a 31), .int p0, .int p1]) (n := 3) (Nat.le_of_ble_eq_true rfl)
  rw [lg_entry_eq]
  generalize (lg_sl ([.ref (a 31), .int p0, .int p1]) ++ List.replicate (3 - (lg_sl ([.ref (a 31), .int p0, .int p1])).length) Slot.unset).toArray = ls at hl ⊢
  have hl : lv_has ls 3 [(0, .ref (a 31)), (1, .int p0), (2, .int p1)] := hl
  refine lv_aload_n hx hb dX8_counts_0 rfl (lv_at hl 0 rfl) ?_
  refine S_getR (n := 64) (C := RX8) (T := TX8) (N := 7) hx hb hg iX8 hown hK hW kd_31 rfl 3 (lt_b rfl) (hg (Cond.fieldLink RX8 21 "SlabWalk$Sights" "told" "[I") m526) (fun _ h9 => h9) rfl dX8_counts_1 ?_
  refine lv_iload_n hx hb dX8_counts_4 rfl (lv_at hl 1 rfl) ?_
  refine S_iald hx hb hK hW kd_64 (vin (by omega) (by omega)) dX8_counts_5 (fun y_1 ey_1 => ?_)
  refine lv_iload_n hx hb dX8_counts_6 rfl (lv_at hl 2 rfl) ?_
  refine lv_icmp_gt (tgt := 34) hx hb dX8_counts_7 rfl (fun c_2 => ?_) (fun c_2 => ?_)
  · have c_2 : p1.toInt < y_1.toInt := xI_lt rfl rfl c_2
    refine ic_0 hx hb dX8_counts_34 ?_
    exact W.zret (v := 0) hx hb hr (by decide) (fun t ht _ => ⟨⟨0, G, rfl, (P_sCounts_mk ⟨hB_G, hF, ⟨by decide, by decide⟩, ⟨y_1, ey_1, (Or.inl ⟨c_2, ⟨rfl, rfl⟩⟩)⟩⟩), wd_t ht hW⟩, hS.F ht⟩) hS.2.2 dX8_counts_35
  · have c_2 : y_1.toInt ≤ p1.toInt := xI_nlt rfl rfl c_2
    refine lv_aload_n hx hb dX8_counts_10 rfl (lv_at hl 0 rfl) ?_
    refine S_getR (n := 65) (C := RX8) (T := TX8) (N := 7) hx hb hg iX8 hown hK hW kd_31 rfl 4 (lt_b rfl) (hg (Cond.fieldLink RX8 24 "SlabWalk$Sights" "untold" "[I") m527) (fun _ h9 => h9) rfl dX8_counts_11 ?_
    refine lv_iload_n hx hb dX8_counts_14 rfl (lv_at hl 1 rfl) ?_
    refine S_iald hx hb hK hW kd_65 (vin (by omega) (by omega)) dX8_counts_15 (fun y_3 ey_3 => ?_)
    refine ic_m1 hx hb dX8_counts_16 ?_
    refine lv_icmp_eq (tgt := 30) hx hb dX8_counts_17 rfl (fun c_4 => ?_) (fun c_4 => ?_)
    · have c_4 : y_3.toInt = (-1) := xI_eq rfl rfl c_4
      refine ic_1 hx hb dX8_counts_30 ?_
      refine lv_goto (tgt := 35) hx hb dX8_counts_31 rfl ?_
      exact W.zret (v := 1) hx hb hr (by decide) (fun t ht _ => ⟨⟨1, G, rfl, (P_sCounts_mk ⟨hB_G, hF, ⟨by decide, by decide⟩, ⟨y_1, ey_1, (Or.inr ⟨c_2, ⟨y_3, ey_3, (Or.inl ⟨c_4, ⟨rfl, rfl⟩⟩)⟩⟩)⟩⟩), wd_t ht hW⟩, hS.F ht⟩) hS.2.2 dX8_counts_35
    · have c_4 : y_3.toInt ≠ (-1) := xI_ne rfl rfl c_4
      refine lv_aload_n hx hb dX8_counts_20 rfl (lv_at hl 0 rfl) ?_
      refine S_getR (n := 65) (C := RX8) (T := TX8) (N := 7) hx hb hg iX8 hown hK hW kd_31 rfl 4 (lt_b rfl) (hg (Cond.fieldLink RX8 24 "SlabWalk$Sights" "untold" "[I") m527) (fun _ h9 => h9) rfl dX8_counts_21 ?_
      refine lv_iload_n hx hb dX8_counts_24 rfl (lv_at hl 1 rfl) ?_
      refine S_iald hx hb hK hW kd_65 (vin (by omega) (by omega)) dX8_counts_25 (fun y_5 ey_5 => ?_)
      refine lv_iload_n hx hb dX8_counts_26 rfl (lv_at hl 2 rfl) ?_
      refine lv_icmp_le (tgt := 34) hx hb dX8_counts_27 rfl (fun c_6 => ?_) (fun c_6 => ?_)
      · have c_6 : y_5.toInt ≤ p1.toInt := xI_le rfl rfl c_6
        refine ic_0 hx hb dX8_counts_34 ?_
        exact W.zret (v := 0) hx hb hr (by decide) (fun t ht _ => ⟨⟨0, G, rfl, (P_sCounts_mk ⟨hB_G, hF, ⟨by decide, by decide⟩, ⟨y_1, ey_1, (Or.inr ⟨c_2, ⟨y_3, ey_3, (Or.inr ⟨c_4, ⟨y_5, ey_5, (Or.inl ⟨c_6, ⟨rfl, rfl⟩⟩)⟩⟩)⟩⟩)⟩⟩), wd_t ht hW⟩, hS.F ht⟩) hS.2.2 dX8_counts_35
      · have c_6 : p1.toInt < y_5.toInt := xI_nle rfl rfl c_6
        refine ic_1 hx hb dX8_counts_30 ?_
        refine lv_goto (tgt := 35) hx hb dX8_counts_31 rfl ?_
        exact W.zret (v := 1) hx hb hr (by decide) (fun t ht _ => ⟨⟨1, G, rfl, (P_sCounts_mk ⟨hB_G, hF, ⟨by decide, by decide⟩, ⟨y_1, ey_1, (Or.inr ⟨c_2, ⟨y_3, ey_3, (Or.inr ⟨c_4, ⟨y_5, ey_5, (Or.inr ⟨c_6, ⟨rfl, rfl⟩⟩)⟩⟩)⟩⟩)⟩⟩), wd_t ht hW⟩, hS.F ht⟩) hS.2.2 dX8_counts_35
