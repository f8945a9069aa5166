
theorem dX6_part_1 : decode cX6_part 1 = .ok (.tableswitch 59 0 3 #[31, 35, 43, 51], 31) := dq_of (by decide +kernel)
noncomputable def rbX6_part_0 : List (Nat × List Nat) := [(0, [27]), (32, [26]), (33, [4]), (34, [126]), (35, [172]), (36, [26]), (37, [8]), (38, [122]), (39, [17, 1, 255]), (42, [126]), (43, [172]), (44, [26]), (45, [16, 14]), (47, [122]), (48, [16, 63]), (50, [126]), (51, [172]), (52, [26]), (53, [16, 20]), (55, [122]), (56, [16, 63]), (58, [126]), (59, [172]), (60, [26])]
theorem rcX6_part_0 : dgo (lb cX6_part) 0 rbX6_part_0 = true := by decide +kernel
theorem dX6_part_0 : decode cX6_part 0 = .ok (.iload_n 1, 1) := dk_27 (dw rcX6_part_0 0 rfl)
theorem dX6_part_32 : decode cX6_part 32 = .ok (.iload_n 0, 1) := dk_26 (dw rcX6_part_0 1 rfl)
theorem dX6_part_33 : decode cX6_part 33 = .ok (.iconst 1, 1) := dk_4 (dw rcX6_part_0 2 rfl)
theorem dX6_part_34 : decode cX6_part 34 = .ok (.iand, 1) := dk_126 (dw rcX6_part_0 3 rfl)
theorem dX6_part_35 : decode cX6_part 35 = .ok (.ireturn, 1) := dk_172 (dw rcX6_part_0 4 rfl)
theorem dX6_part_36 : decode cX6_part 36 = .ok (.iload_n 0, 1) := dk_26 (dw rcX6_part_0 5 rfl)
theorem dX6_part_37 : decode cX6_part 37 = .ok (.iconst 5, 1) := dk_8 (dw rcX6_part_0 6 rfl)
theorem dX6_part_38 : decode cX6_part 38 = .ok (.ishr, 1) := dk_122 (dw rcX6_part_0 7 rfl)
theorem dX6_part_39 : decode cX6_part 39 = .ok (.sipush 511, 3) := dk_17 (dw rcX6_part_0 8 rfl) rfl
theorem dX6_part_42 : decode cX6_part 42 = .ok (.iand, 1) := dk_126 (dw rcX6_part_0 9 rfl)
theorem dX6_part_43 : decode cX6_part 43 = .ok (.ireturn, 1) := dk_172 (dw rcX6_part_0 10 rfl)
theorem dX6_part_44 : decode cX6_part 44 = .ok (.iload_n 0, 1) := dk_26 (dw rcX6_part_0 11 rfl)
theorem dX6_part_45 : decode cX6_part 45 = .ok (.bipush 14, 2) := dk_16 (dw rcX6_part_0 12 rfl) rfl
theorem dX6_part_47 : decode cX6_part 47 = .ok (.ishr, 1) := dk_122 (dw rcX6_part_0 13 rfl)
theorem dX6_part_48 : decode cX6_part 48 = .ok (.bipush 63, 2) := dk_16 (dw rcX6_part_0 14 rfl) rfl
theorem dX6_part_50 : decode cX6_part 50 = .ok (.iand, 1) := dk_126 (dw rcX6_part_0 15 rfl)
theorem dX6_part_51 : decode cX6_part 51 = .ok (.ireturn, 1) := dk_172 (dw rcX6_part_0 16 rfl)
theorem dX6_part_52 : decode cX6_part 52 = .ok (.iload_n 0, 1) := dk_26 (dw rcX6_part_0 17 rfl)
theorem dX6_part_53 : decode cX6_part 53 = .ok (.bipush 20, 2) := dk_16 (dw rcX6_part_0 18 rfl) rfl
theorem dX6_part_55 : decode cX6_part 55 = .ok (.ishr, 1) := dk_122 (dw rcX6_part_0 19 rfl)
theorem dX6_part_56 : decode cX6_part 56 = .ok (.bipush 63, 2) := dk_16 (dw rcX6_part_0 20 rfl) rfl
theorem dX6_part_58 : decode cX6_part 58 = .ok (.iand, 1) := dk_126 (dw rcX6_part_0 21 rfl)
theorem dX6_part_59 : decode cX6_part 59 = .ok (.ireturn, 1) := dk_172 (dw rcX6_part_0 22 rfl)
theorem dX6_part_60 : decode cX6_part 60 = .ok (.iload_n 0, 1) := dk_26 (dw rcX6_part_0 23 rfl)
noncomputable def rbX6_part_61 : List (Nat × List Nat) := [(61, [4]), (62, [122]), (63, [16, 15]), (65, [126]), (66, [172])]
theorem rcX6_part_61 : dgo (lb cX6_part) 0 rbX6_part_61 = true := by decide +kernel
theorem dX6_part_61 : decode cX6_part 61 = .ok (.iconst 1, 1) := dk_4 (dw rcX6_part_61 0 rfl)
theorem dX6_part_62 : decode cX6_part 62 = .ok (.ishr, 1) := dk_122 (dw rcX6_part_61 1 rfl)
theorem dX6_part_63 : decode cX6_part 63 = .ok (.bipush 15, 2) := dk_16 (dw rcX6_part_61 2 rfl) rfl
theorem dX6_part_65 : decode cX6_part 65 = .ok (.iand, 1) := dk_126 (dw rcX6_part_61 3 rfl)
theorem dX6_part_66 : decode cX6_part 66 = .ok (.ireturn, 1) := dk_172 (dw rcX6_part_61 4 rfl)
set_option maxHeartbeats 4000000 in
set_option maxRecDepth 100000 in
theorem k_part (l : Launch) (D : va_G) (k : KT) (A : Nat → Prop) (a : Nat → Nat) (z : SK) (G : GS) (p0 : Int32) (p1 : Int32)  : Met l yX6_part (WS yX6_part cX6_part 2 (some .int)) ({ frames := 0, cells := 0, slots := 0, locals := 0 }) (va_Pc [.int p0, .int p1] (cW D k A a z G)) (va_Qi (fun (r : Int32) (G1 : GS) => P_part p0 p1 G r G1) (fun (G1 : GS) t => Wd D k A a G1 t.heap) A) 0 0 A := by
  refine Met.ofW (cc := cX6_part) (maxL := 2) (ret := (some .int)) (by decide) rfl ?_
  intro p e s m args below meth c s₁ B hml hv
  obtain ⟨rfl, hW, hB_G, hK, hZ⟩ := hv
  have hx := B.exec
  have hb := B.bytes
  have hr := B.returns
  have hts := atoms_spec (ws := WS yX6_part cX6_part 2 (some .int)) B.pre
  have hgd : ∀ w ∈ gd, w ∈ WS yX6_part cX6_part 2 (some .int) := fun w h => List.mem_cons_of_mem _ h
  have hg : ∀ w ∈ gd, w.before _ s = true := fun w h => hts w (hgd w h)
  have hown : s.vm.findClass RX6 = some m.cls := findClass_of_methodNamed B.named
  have hS : va_S A s.heap s.heap [] := va_S.rf
  have hF : Fr [] [] G G := Fr.rf
  have hl := lv_entry ([.int p0, .int p1]) (n := 2) (Nat.le_of_ble_eq_true rfl)
  rw [lg_entry_eq]
  generalize (lg_sl ([.int p0, .int p1]) ++ List.replicate (2 - (lg_sl ([.int p0, .int p1])).length) Slot.unset).toArray = ls at hl ⊢
  have hl : lv_has ls 2 [(0, .int p0), (1, .int p1)] := hl
  refine lv_iload_n hx hb dX6_part_0 rfl (lv_at hl 1 rfl) ?_
  by_cases c_1 : p1 = 0
  · refine lv_tableIn (tgt := 32) hx hb dX6_part_1 (by rw [c_1]; decide) (by rw [c_1]; decide) (off := 31) (by rw [c_1]; decide) (by decide) ?_
    have c_1 : p1.toInt = 0 := xI_eq rfl rfl c_1
    refine lv_iload_n hx hb dX6_part_32 rfl (lv_at hl 0 rfl) ?_
    refine ic_1 hx hb dX6_part_33 ?_
    refine lv_iand hx hb dX6_part_34 ?_
    refine lv_topi (fun y_2 ey_2 => ?_)
    have ty_2 := xI_and (Y := 1) rfl ey_2 (by decide)
    exact W.iret (v := y_2) hx hb hr (fun t ht _ => ⟨⟨y_2, G, rfl, (P_part_mk ⟨hB_G, hF, (Or.inl ⟨c_1, ⟨y_2, ey_2, ⟨rfl, rfl⟩⟩⟩)⟩), wd_t ht hW⟩, hS.F ht⟩) hS.2.2 dX6_part_35
  by_cases c_3 : p1 = 1
  · refine lv_tableIn (tgt := 36) hx hb dX6_part_1 (by rw [c_3]; decide) (by rw [c_3]; decide) (off := 35) (by rw [c_3]; decide) (by decide) ?_
    have c_3 : p1.toInt = 1 := xI_eq rfl rfl c_3
    refine lv_iload_n hx hb dX6_part_36 rfl (lv_at hl 0 rfl) ?_
    refine ic_5 hx hb dX6_part_37 ?_
    refine lv_ishr hx hb dX6_part_38 ?_
    refine lv_topi (fun y_4 ey_4 => ?_)
    refine lv_sipush (v := 511) hx hb dX6_part_39 (by decide) ?_
    refine lv_iand hx hb dX6_part_42 ?_
    refine lv_topi (fun y_5 ey_5 => ?_)
    have ty_5 := xI_and (Y := 511) rfl ey_5 (by decide)
    exact W.iret (v := y_5) hx hb hr (fun t ht _ => ⟨⟨y_5, G, rfl, (P_part_mk ⟨hB_G, hF, (Or.inr ⟨(xI_ne (Y := 0) rfl rfl c_1), (Or.inl ⟨c_3, ⟨y_4, ey_4, ⟨y_5, ey_5, ⟨rfl, rfl⟩⟩⟩⟩)⟩)⟩), wd_t ht hW⟩, hS.F ht⟩) hS.2.2 dX6_part_43
  by_cases c_6 : p1 = 2
  · refine lv_tableIn (tgt := 44) hx hb dX6_part_1 (by rw [c_6]; decide) (by rw [c_6]; decide) (off := 43) (by rw [c_6]; decide) (by decide) ?_
    have c_6 : p1.toInt = 2 := xI_eq rfl rfl c_6
    refine lv_iload_n hx hb dX6_part_44 rfl (lv_at hl 0 rfl) ?_
    refine lv_bipush (v := 14) hx hb dX6_part_45 (by decide) ?_
    refine lv_ishr hx hb dX6_part_47 ?_
    refine lv_topi (fun y_7 ey_7 => ?_)
    refine lv_bipush (v := 63) hx hb dX6_part_48 (by decide) ?_
    refine lv_iand hx hb dX6_part_50 ?_
    refine lv_topi (fun y_8 ey_8 => ?_)
    have ty_8 := xI_and (Y := 63) rfl ey_8 (by decide)
    exact W.iret (v := y_8) hx hb hr (fun t ht _ => ⟨⟨y_8, G, rfl, (P_part_mk ⟨hB_G, hF, (Or.inr ⟨(xI_ne (Y := 0) rfl rfl c_1), (Or.inr ⟨(xI_ne (Y := 1) rfl rfl c_3), (Or.inl ⟨c_6, ⟨y_7, ey_7, ⟨y_8, ey_8, ⟨rfl, rfl⟩⟩⟩⟩)⟩)⟩)⟩), wd_t ht hW⟩, hS.F ht⟩) hS.2.2 dX6_part_51
  by_cases c_9 : p1 = 3
  · refine lv_tableIn (tgt := 52) hx hb dX6_part_1 (by rw [c_9]; decide) (by rw [c_9]; decide) (off := 51) (by rw [c_9]; decide) (by decide) ?_
    have c_9 : p1.toInt = 3 := xI_eq rfl rfl c_9
    refine lv_iload_n hx hb dX6_part_52 rfl (lv_at hl 0 rfl) ?_
    refine lv_bipush (v := 20) hx hb dX6_part_53 (by decide) ?_
    refine lv_ishr hx hb dX6_part_55 ?_
    refine lv_topi (fun y_10 ey_10 => ?_)
    refine lv_bipush (v := 63) hx hb dX6_part_56 (by decide) ?_
    refine lv_iand hx hb dX6_part_58 ?_
    refine lv_topi (fun y_11 ey_11 => ?_)
    have ty_11 := xI_and (Y := 63) rfl ey_11 (by decide)
    exact W.iret (v := y_11) hx hb hr (fun t ht _ => ⟨⟨y_11, G, rfl, (P_part_mk ⟨hB_G, hF, (Or.inr ⟨(xI_ne (Y := 0) rfl rfl c_1), (Or.inr ⟨(xI_ne (Y := 1) rfl rfl c_3), (Or.inr ⟨(xI_ne (Y := 2) rfl rfl c_6), (Or.inl ⟨c_9, ⟨y_10, ey_10, ⟨y_11, ey_11, ⟨rfl, rfl⟩⟩⟩⟩)⟩)⟩)⟩)⟩), wd_t ht hW⟩, hS.F ht⟩) hS.2.2 dX6_part_59
  refine lv_tableOut (tgt := 60) hx hb dX6_part_1 (tb_out (lo := 0) (hi := 3) (by have c_1 := xI_ne (Y := 0) rfl rfl c_1; have c_3 := xI_ne (Y := 1) rfl rfl c_3; have c_6 := xI_ne (Y := 2) rfl rfl c_6; have c_9 := xI_ne (Y := 3) rfl rfl c_9; omega)) (by decide) ?_
  have c_1 := xI_ne (Y := 0) rfl rfl c_1
  have c_3 := xI_ne (Y := 1) rfl rfl c_3
  have c_6 := xI_ne (Y := 2) rfl rfl c_6
  have c_9 := xI_ne (Y := 3) rfl rfl c_9
  refine lv_iload_n hx hb dX6_part_60 rfl (lv_at hl 0 rfl) ?_
  refine ic_1 hx hb dX6_part_61 ?_
  refine lv_ishr hx hb dX6_part_62 ?_
  refine lv_topi (fun y_12 ey_12 => ?_)
  refine lv_bipush (v := 15) hx hb dX6_part_63 (by decide) ?_
  refine lv_iand hx hb dX6_part_65 ?_
  refine lv_topi (fun y_13 ey_13 => ?_)
  have ty_13 := xI_and (Y := 15) rfl ey_13 (by decide)
  exact W.iret (v := y_13) hx hb hr (fun t ht _ => ⟨⟨y_13, G, rfl, (P_part_mk ⟨hB_G, hF, (Or.inr ⟨c_1, (Or.inr ⟨c_3, (Or.inr ⟨c_6, (Or.inr ⟨c_9, ⟨y_12, ey_12, ⟨y_13, ey_13, ⟨rfl, rfl⟩⟩⟩⟩)⟩)⟩)⟩)⟩), wd_t ht hW⟩, hS.F ht⟩) hS.2.2 dX6_part_66

theorem m118 : Cond.initialized RX6 ∈ gd := gdc_1_0 2 rfl gw_initialized
theorem m132 : Cond.initialized "java/lang/Math" ∈ gd := gdc_1_1 0 rfl gw_initialized
theorem m156 : Cond.fieldLink RX6 9 "SlabWalk$Paving" "length" "[I" ∈ gd := gdc_1_2 8 rfl gw_fieldLink
theorem m161 : Cond.fieldLink RX6 15 "SlabWalk$Paving" "inches" "[I" ∈ gd := gdc_1_2 13 rfl gw_fieldLink
theorem m162 : Cond.fieldLink RX6 18 "SlabWalk$Paving" "foot" "[I" ∈ gd := gdc_1_2 14 rfl gw_fieldLink
theorem m178 : Cond.fieldLink RX6 30 "SlabWalk$Paving" "slip" "[I" ∈ gd := gdc_1_3 14 rfl gw_fieldLink
theorem m181 : Cond.fieldLink RX6 33 "SlabWalk$Paving" "code" "[I" ∈ gd := gdc_1_4 1 rfl gw_fieldLink
theorem m186 : Cond.fieldLink RX6 42 "SlabWalk$Paving" "streets" "I" ∈ gd := gdc_1_4 6 rfl gw_fieldLink
theorem m189 : Cond.fieldLink RX6 46 "SlabWalk$Paving" "walkers" "I" ∈ gd := gdc_1_4 9 rfl gw_fieldLink
theorem m192 : Cond.fieldLink RX6 49 "SlabWalk$Paving" "rules" "I" ∈ gd := gdc_1_4 12 rfl gw_fieldLink
theorem m196 : Cond.fieldLink RX6 52 "SlabWalk$Paving" "units" "I" ∈ gd := gdc_1_5 0 rfl gw_fieldLink
theorem m199 : Cond.fieldLink RX6 55 "SlabWalk$Paving" "coded" "I" ∈ gd := gdc_1_5 3 rfl gw_fieldLink
theorem m201 : Cond.fieldLink RX6 58 "SlabWalk$Paving" "hand" "I" ∈ gd := gdc_1_5 5 rfl gw_fieldLink
theorem m204 : Cond.fieldLink RX6 61 "SlabWalk$Paving" "slack" "I" ∈ gd := gdc_1_5 8 rfl gw_fieldLink
theorem m207 : Cond.fieldLink RX6 64 "SlabWalk$Paving" "draw" "I" ∈ gd := gdc_1_5 11 rfl gw_fieldLink
theorem m636 : Cond.static Lib.Math.min.name ∈ gd := gdc_3_2 8 rfl gw_static
theorem m637 : Cond.code Lib.Math.min.name Lib.Math.min.code 2 (some .int) ∈ gd := gdc_3_2 9 rfl gw_code
theorem m808 : Cond.methodLink RX6 71 Lib.Math.min.name ∈ gd := gdc_3_13 4 rfl gw_methodLink
theorem m883 : Cond.instanceMethod yX6_hasInch ∈ gd := gdc_4_2 15 rfl gw_instanceMethod
theorem m884 : Cond.selects RX6 yX6_hasInch yX6_hasInch ∈ gd := gdc_4_3 0 rfl gw_selects
theorem m885 : Cond.code yX6_hasInch cX6_hasInch 3 (some .boolean) ∈ gd := gdc_4_3 1 rfl gw_code
theorem m886 : Cond.methodLink RX6 77 yX6_hasStreet ∈ gd := gdc_4_3 2 rfl gw_methodLink
theorem m887 : Cond.instanceMethod yX6_hasStreet ∈ gd := gdc_4_3 3 rfl gw_instanceMethod
theorem m888 : Cond.selects RX6 yX6_hasStreet yX6_hasStreet ∈ gd := gdc_4_3 4 rfl gw_selects
theorem m889 : Cond.code yX6_hasStreet cX6_hasStreet 2 (some .boolean) ∈ gd := gdc_4_3 5 rfl gw_code
theorem m894 : Cond.methodLink RX6 67 yX6_hasInch ∈ gd := gdc_4_3 10 rfl gw_methodLink
theorem m958 : Cond.instanceMethod yX6_hasWalker ∈ gd := gdc_4_7 10 rfl gw_instanceMethod
theorem m959 : Cond.selects RX6 yX6_hasWalker yX6_hasWalker ∈ gd := gdc_4_7 11 rfl gw_selects
theorem m960 : Cond.code yX6_hasWalker cX6_hasWalker 2 (some .boolean) ∈ gd := gdc_4_7 12 rfl gw_code
theorem m969 : Cond.methodLink RX6 81 yX6_hasWalker ∈ gd := gdc_4_8 5 rfl gw_methodLink
theorem m1198 : Cond.methodLink RX6 84 yX6_allSlips ∈ gd := gdc_5_7 10 rfl gw_methodLink
theorem m1199 : Cond.instanceMethod yX6_allSlips ∈ gd := gdc_5_7 11 rfl gw_instanceMethod
theorem m1200 : Cond.selects RX6 yX6_allSlips yX6_allSlips ∈ gd := gdc_5_7 12 rfl gw_selects
theorem m1201 : Cond.code yX6_allSlips cX6_allSlips 1 (some .int) ∈ gd := gdc_5_7 13 rfl gw_code
noncomputable def rbX6_allSlips_0 : List (Nat × List Nat) := [(0, [42]), (1, [180, 0, 30]), (4, [3]), (5, [46]), (6, [42]), (7, [180, 0, 30]), (10, [4]), (11, [46]), (12, [96]), (13, [42]), (14, [180, 0, 30]), (17, [5]), (18, [46]), (19, [96]), (20, [172])]
theorem rcX6_allSlips_0 : dgo (lb cX6_allSlips) 0 rbX6_allSlips_0 = true := by decide +kernel
theorem dX6_allSlips_0 : decode cX6_allSlips 0 = .ok (.aload_n 0, 1) := dk_42 (dw rcX6_allSlips_0 0 rfl)
theorem dX6_allSlips_1 : decode cX6_allSlips 1 = .ok (.getfield 30, 3) := dk_180 (dw rcX6_allSlips_0 1 rfl) rfl
theorem dX6_allSlips_4 : decode cX6_allSlips 4 = .ok (.iconst 0, 1) := dk_3 (dw rcX6_allSlips_0 2 rfl)
theorem dX6_allSlips_5 : decode cX6_allSlips 5 = .ok (.iaload, 1) := dk_46 (dw rcX6_allSlips_0 3 rfl)
theorem dX6_allSlips_6 : decode cX6_allSlips 6 = .ok (.aload_n 0, 1) := dk_42 (dw rcX6_allSlips_0 4 rfl)
theorem dX6_allSlips_7 : decode cX6_allSlips 7 = .ok (.getfield 30, 3) := dk_180 (dw rcX6_allSlips_0 5 rfl) rfl
theorem dX6_allSlips_10 : decode cX6_allSlips 10 = .ok (.iconst 1, 1) := dk_4 (dw rcX6_allSlips_0 6 rfl)
theorem dX6_allSlips_11 : decode cX6_allSlips 11 = .ok (.iaload, 1) := dk_46 (dw rcX6_allSlips_0 7 rfl)
theorem dX6_allSlips_12 : decode cX6_allSlips 12 = .ok (.iadd, 1) := dk_96 (dw rcX6_allSlips_0 8 rfl)
theorem dX6_allSlips_13 : decode cX6_allSlips 13 = .ok (.aload_n 0, 1) := dk_42 (dw rcX6_allSlips_0 9 rfl)
theorem dX6_allSlips_14 : decode cX6_allSlips 14 = .ok (.getfield 30, 3) := dk_180 (dw rcX6_allSlips_0 10 rfl) rfl
theorem dX6_allSlips_17 : decode cX6_allSlips 17 = .ok (.iconst 2, 1) := dk_5 (dw rcX6_allSlips_0 11 rfl)
theorem dX6_allSlips_18 : decode cX6_allSlips 18 = .ok (.iaload, 1) := dk_46 (dw rcX6_allSlips_0 12 rfl)
theorem dX6_allSlips_19 : decode cX6_allSlips 19 = .ok (.iadd, 1) := dk_96 (dw rcX6_allSlips_0 13 rfl)
theorem dX6_allSlips_20 : decode cX6_allSlips 20 = .ok (.ireturn, 1) := dk_172 (dw rcX6_allSlips_0 14 rfl)
noncomputable def rbX6_emit_0 : List (Nat × List Nat) := [(0, [42]), (1, [180, 0, 55]), (4, [17, 2, 68]), (7, [162, 0, 25]), (10, [42]), (11, [180, 0, 33]), (14, [42]), (15, [89]), (16, [180, 0, 55]), (19, [90]), (20, [4]), (21, [96]), (22, [181, 0, 55]), (25, [27]), (26, [28]), (27, [16, 10]), (29, [120]), (30, [128]), (31, [79]), (32, [177])]
theorem rcX6_emit_0 : dgo (lb cX6_emit) 0 rbX6_emit_0 = true := by decide +kernel
theorem dX6_emit_0 : decode cX6_emit 0 = .ok (.aload_n 0, 1) := dk_42 (dw rcX6_emit_0 0 rfl)
theorem dX6_emit_1 : decode cX6_emit 1 = .ok (.getfield 55, 3) := dk_180 (dw rcX6_emit_0 1 rfl) rfl
theorem dX6_emit_4 : decode cX6_emit 4 = .ok (.sipush 580, 3) := dk_17 (dw rcX6_emit_0 2 rfl) rfl
theorem dX6_emit_7 : decode cX6_emit 7 = .ok (.if_icmp .ge 25, 3) := dk_162 (dw rcX6_emit_0 3 rfl) rfl
theorem dX6_emit_10 : decode cX6_emit 10 = .ok (.aload_n 0, 1) := dk_42 (dw rcX6_emit_0 4 rfl)
theorem dX6_emit_11 : decode cX6_emit 11 = .ok (.getfield 33, 3) := dk_180 (dw rcX6_emit_0 5 rfl) rfl
theorem dX6_emit_14 : decode cX6_emit 14 = .ok (.aload_n 0, 1) := dk_42 (dw rcX6_emit_0 6 rfl)
theorem dX6_emit_15 : decode cX6_emit 15 = .ok (.dup, 1) := dk_89 (dw rcX6_emit_0 7 rfl)
theorem dX6_emit_16 : decode cX6_emit 16 = .ok (.getfield 55, 3) := dk_180 (dw rcX6_emit_0 8 rfl) rfl
theorem dX6_emit_19 : decode cX6_emit 19 = .ok (.dup_x1, 1) := dk_90 (dw rcX6_emit_0 9 rfl)
theorem dX6_emit_20 : decode cX6_emit 20 = .ok (.iconst 1, 1) := dk_4 (dw rcX6_emit_0 10 rfl)
theorem dX6_emit_21 : decode cX6_emit 21 = .ok (.iadd, 1) := dk_96 (dw rcX6_emit_0 11 rfl)
theorem dX6_emit_22 : decode cX6_emit 22 = .ok (.putfield 55, 3) := dk_181 (dw rcX6_emit_0 12 rfl) rfl
theorem dX6_emit_25 : decode cX6_emit 25 = .ok (.iload_n 1, 1) := dk_27 (dw rcX6_emit_0 13 rfl)
theorem dX6_emit_26 : decode cX6_emit 26 = .ok (.iload_n 2, 1) := dk_28 (dw rcX6_emit_0 14 rfl)
theorem dX6_emit_27 : decode cX6_emit 27 = .ok (.bipush 10, 2) := dk_16 (dw rcX6_emit_0 15 rfl) rfl
theorem dX6_emit_29 : decode cX6_emit 29 = .ok (.ishl, 1) := dk_120 (dw rcX6_emit_0 16 rfl)
theorem dX6_emit_30 : decode cX6_emit 30 = .ok (.ior, 1) := dk_128 (dw rcX6_emit_0 17 rfl)
theorem dX6_emit_31 : decode cX6_emit 31 = .ok (.iastore, 1) := dk_79 (dw rcX6_emit_0 18 rfl)
theorem dX6_emit_32 : decode cX6_emit 32 = .ok (.return_, 1) := dk_177 (dw rcX6_emit_0 19 rfl)
noncomputable def rbX6_empty_0 : List (Nat × List Nat) := [(0, [42]), (1, [3]), (2, [181, 0, 42]), (5, [42]), (6, [3]), (7, [181, 0, 46]), (10, [42]), (11, [3]), (12, [181, 0, 49]), (15, [42]), (16, [3]), (17, [181, 0, 52]), (20, [42]), (21, [3]), (22, [181, 0, 55]), (25, [42]), (26, [16, 30]), (28, [181, 0, 58]), (31, [42]), (32, [16, 10]), (34, [181, 0, 61]), (37, [42]), (38, [3]), (39, [181, 0, 64])]
theorem rcX6_empty_0 : dgo (lb cX6_empty) 0 rbX6_empty_0 = true := by decide +kernel
theorem dX6_empty_0 : decode cX6_empty 0 = .ok (.aload_n 0, 1) := dk_42 (dw rcX6_empty_0 0 rfl)
theorem dX6_empty_1 : decode cX6_empty 1 = .ok (.iconst 0, 1) := dk_3 (dw rcX6_empty_0 1 rfl)
theorem dX6_empty_2 : decode cX6_empty 2 = .ok (.putfield 42, 3) := dk_181 (dw rcX6_empty_0 2 rfl) rfl
theorem dX6_empty_5 : decode cX6_empty 5 = .ok (.aload_n 0, 1) := dk_42 (dw rcX6_empty_0 3 rfl)
theorem dX6_empty_6 : decode cX6_empty 6 = .ok (.iconst 0, 1) := dk_3 (dw rcX6_empty_0 4 rfl)
theorem dX6_empty_7 : decode cX6_empty 7 = .ok (.putfield 46, 3) := dk_181 (dw rcX6_empty_0 5 rfl) rfl
theorem dX6_empty_10 : decode cX6_empty 10 = .ok (.aload_n 0, 1) := dk_42 (dw rcX6_empty_0 6 rfl)
theorem dX6_empty_11 : decode cX6_empty 11 = .ok (.iconst 0, 1) := dk_3 (dw rcX6_empty_0 7 rfl)
theorem dX6_empty_12 : decode cX6_empty 12 = .ok (.putfield 49, 3) := dk_181 (dw rcX6_empty_0 8 rfl) rfl
theorem dX6_empty_15 : decode cX6_empty 15 = .ok (.aload_n 0, 1) := dk_42 (dw rcX6_empty_0 9 rfl)
theorem dX6_empty_16 : decode cX6_empty 16 = .ok (.iconst 0, 1) := dk_3 (dw rcX6_empty_0 10 rfl)
theorem dX6_empty_17 : decode cX6_empty 17 = .ok (.putfield 52, 3) := dk_181 (dw rcX6_empty_0 11 rfl) rfl
theorem dX6_empty_20 : decode cX6_empty 20 = .ok (.aload_n 0, 1) := dk_42 (dw rcX6_empty_0 12 rfl)
theorem dX6_empty_21 : decode cX6_empty 21 = .ok (.iconst 0, 1) := dk_3 (dw rcX6_empty_0 13 rfl)
theorem dX6_empty_22 : decode cX6_empty 22 = .ok (.putfield 55, 3) := dk_181 (dw rcX6_empty_0 14 rfl) rfl
theorem dX6_empty_25 : decode cX6_empty 25 = .ok (.aload_n 0, 1) := dk_42 (dw rcX6_empty_0 15 rfl)
theorem dX6_empty_26 : decode cX6_empty 26 = .ok (.bipush 30, 2) := dk_16 (dw rcX6_empty_0 16 rfl) rfl
theorem dX6_empty_28 : decode cX6_empty 28 = .ok (.putfield 58, 3) := dk_181 (dw rcX6_empty_0 17 rfl) rfl
theorem dX6_empty_31 : decode cX6_empty 31 = .ok (.aload_n 0, 1) := dk_42 (dw rcX6_empty_0 18 rfl)
theorem dX6_empty_32 : decode cX6_empty 32 = .ok (.bipush 10, 2) := dk_16 (dw rcX6_empty_0 19 rfl) rfl
theorem dX6_empty_34 : decode cX6_empty 34 = .ok (.putfield 61, 3) := dk_181 (dw rcX6_empty_0 20 rfl) rfl
theorem dX6_empty_37 : decode cX6_empty 37 = .ok (.aload_n 0, 1) := dk_42 (dw rcX6_empty_0 21 rfl)
theorem dX6_empty_38 : decode cX6_empty 38 = .ok (.iconst 0, 1) := dk_3 (dw rcX6_empty_0 22 rfl)
theorem dX6_empty_39 : decode cX6_empty 39 = .ok (.putfield 64, 3) := dk_181 (dw rcX6_empty_0 23 rfl) rfl
noncomputable def rbX6_empty_42 : List (Nat × List Nat) := [(42, [42]), (43, [180, 0, 30]), (46, [3]), (47, [3]), (48, [79]), (49, [42]), (50, [180, 0, 30]), (53, [4]), (54, [4]), (55, [79]), (56, [42]), (57, [180, 0, 30]), (60, [5]), (61, [3]), (62, [79]), (63, [177])]
theorem rcX6_empty_42 : dgo (lb cX6_empty) 0 rbX6_empty_42 = true := by decide +kernel
theorem dX6_empty_42 : decode cX6_empty 42 = .ok (.aload_n 0, 1) := dk_42 (dw rcX6_empty_42 0 rfl)
theorem dX6_empty_43 : decode cX6_empty 43 = .ok (.getfield 30, 3) := dk_180 (dw rcX6_empty_42 1 rfl) rfl
theorem dX6_empty_46 : decode cX6_empty 46 = .ok (.iconst 0, 1) := dk_3 (dw rcX6_empty_42 2 rfl)
theorem dX6_empty_47 : decode cX6_empty 47 = .ok (.iconst 0, 1) := dk_3 (dw rcX6_empty_42 3 rfl)
theorem dX6_empty_48 : decode cX6_empty 48 = .ok (.iastore, 1) := dk_79 (dw rcX6_empty_42 4 rfl)
theorem dX6_empty_49 : decode cX6_empty 49 = .ok (.aload_n 0, 1) := dk_42 (dw rcX6_empty_42 5 rfl)
theorem dX6_empty_50 : decode cX6_empty 50 = .ok (.getfield 30, 3) := dk_180 (dw rcX6_empty_42 6 rfl) rfl
theorem dX6_empty_53 : decode cX6_empty 53 = .ok (.iconst 1, 1) := dk_4 (dw rcX6_empty_42 7 rfl)
theorem dX6_empty_54 : decode cX6_empty 54 = .ok (.iconst 1, 1) := dk_4 (dw rcX6_empty_42 8 rfl)
theorem dX6_empty_55 : decode cX6_empty 55 = .ok (.iastore, 1) := dk_79 (dw rcX6_empty_42 9 rfl)
theorem dX6_empty_56 : decode cX6_empty 56 = .ok (.aload_n 0, 1) := dk_42 (dw rcX6_empty_42 10 rfl)
theorem dX6_empty_57 : decode cX6_empty 57 = .ok (.getfield 30, 3) := dk_180 (dw rcX6_empty_42 11 rfl) rfl
theorem dX6_empty_60 : decode cX6_empty 60 = .ok (.iconst 2, 1) := dk_5 (dw rcX6_empty_42 12 rfl)
theorem dX6_empty_61 : decode cX6_empty 61 = .ok (.iconst 0, 1) := dk_3 (dw rcX6_empty_42 13 rfl)
theorem dX6_empty_62 : decode cX6_empty 62 = .ok (.iastore, 1) := dk_79 (dw rcX6_empty_42 14 rfl)
theorem dX6_empty_63 : decode cX6_empty 63 = .ok (.return_, 1) := dk_177 (dw rcX6_empty_42 15 rfl)
noncomputable def rbX6_hasInch_0 : List (Nat × List Nat) := [(0, [42]), (1, [27]), (2, [182, 0, 77]), (5, [153, 0, 21]), (8, [28]), (9, [155, 0, 17]), (12, [28]), (13, [42]), (14, [180, 0, 9]), (17, [27]), (18, [46]), (19, [162, 0, 7]), (22, [4]), (23, [167, 0, 4]), (26, [3]), (27, [172])]
theorem rcX6_hasInch_0 : dgo (lb cX6_hasInch) 0 rbX6_hasInch_0 = true := by decide +kernel
theorem dX6_hasInch_0 : decode cX6_hasInch 0 = .ok (.aload_n 0, 1) := dk_42 (dw rcX6_hasInch_0 0 rfl)
theorem dX6_hasInch_1 : decode cX6_hasInch 1 = .ok (.iload_n 1, 1) := dk_27 (dw rcX6_hasInch_0 1 rfl)
theorem dX6_hasInch_2 : decode cX6_hasInch 2 = .ok (.invokevirtual 77, 3) := dk_182 (dw rcX6_hasInch_0 2 rfl) rfl
theorem dX6_hasInch_5 : decode cX6_hasInch 5 = .ok (.ifCond .eq 21, 3) := dk_153 (dw rcX6_hasInch_0 3 rfl) rfl
theorem dX6_hasInch_8 : decode cX6_hasInch 8 = .ok (.iload_n 2, 1) := dk_28 (dw rcX6_hasInch_0 4 rfl)
theorem dX6_hasInch_9 : decode cX6_hasInch 9 = .ok (.ifCond .lt 17, 3) := dk_155 (dw rcX6_hasInch_0 5 rfl) rfl
theorem dX6_hasInch_12 : decode cX6_hasInch 12 = .ok (.iload_n 2, 1) := dk_28 (dw rcX6_hasInch_0 6 rfl)
theorem dX6_hasInch_13 : decode cX6_hasInch 13 = .ok (.aload_n 0, 1) := dk_42 (dw rcX6_hasInch_0 7 rfl)
theorem dX6_hasInch_14 : decode cX6_hasInch 14 = .ok (.getfield 9, 3) := dk_180 (dw rcX6_hasInch_0 8 rfl) rfl
theorem dX6_hasInch_17 : decode cX6_hasInch 17 = .ok (.iload_n 1, 1) := dk_27 (dw rcX6_hasInch_0 9 rfl)
theorem dX6_hasInch_18 : decode cX6_hasInch 18 = .ok (.iaload, 1) := dk_46 (dw rcX6_hasInch_0 10 rfl)
theorem dX6_hasInch_19 : decode cX6_hasInch 19 = .ok (.if_icmp .ge 7, 3) := dk_162 (dw rcX6_hasInch_0 11 rfl) rfl
theorem dX6_hasInch_22 : decode cX6_hasInch 22 = .ok (.iconst 1, 1) := dk_4 (dw rcX6_hasInch_0 12 rfl)
theorem dX6_hasInch_23 : decode cX6_hasInch 23 = .ok (.goto 4, 3) := dk_167 (dw rcX6_hasInch_0 13 rfl) rfl
theorem dX6_hasInch_26 : decode cX6_hasInch 26 = .ok (.iconst 0, 1) := dk_3 (dw rcX6_hasInch_0 14 rfl)
theorem dX6_hasInch_27 : decode cX6_hasInch 27 = .ok (.ireturn, 1) := dk_172 (dw rcX6_hasInch_0 15 rfl)
noncomputable def rbX6_hasRule_0 : List (Nat × List Nat) := [(0, [27]), (1, [155, 0, 21]), (4, [27]), (5, [42]), (6, [180, 0, 49]), (9, [162, 0, 13]), (12, [27]), (13, [16, 6]), (15, [162, 0, 7]), (18, [4]), (19, [167, 0, 4]), (22, [3]), (23, [172])]
theorem rcX6_hasRule_0 : dgo (lb cX6_hasRule) 0 rbX6_hasRule_0 = true := by decide +kernel
theorem dX6_hasRule_0 : decode cX6_hasRule 0 = .ok (.iload_n 1, 1) := dk_27 (dw rcX6_hasRule_0 0 rfl)
theorem dX6_hasRule_1 : decode cX6_hasRule 1 = .ok (.ifCond .lt 21, 3) := dk_155 (dw rcX6_hasRule_0 1 rfl) rfl
theorem dX6_hasRule_4 : decode cX6_hasRule 4 = .ok (.iload_n 1, 1) := dk_27 (dw rcX6_hasRule_0 2 rfl)
theorem dX6_hasRule_5 : decode cX6_hasRule 5 = .ok (.aload_n 0, 1) := dk_42 (dw rcX6_hasRule_0 3 rfl)
theorem dX6_hasRule_6 : decode cX6_hasRule 6 = .ok (.getfield 49, 3) := dk_180 (dw rcX6_hasRule_0 4 rfl) rfl
theorem dX6_hasRule_9 : decode cX6_hasRule 9 = .ok (.if_icmp .ge 13, 3) := dk_162 (dw rcX6_hasRule_0 5 rfl) rfl
theorem dX6_hasRule_12 : decode cX6_hasRule 12 = .ok (.iload_n 1, 1) := dk_27 (dw rcX6_hasRule_0 6 rfl)
theorem dX6_hasRule_13 : decode cX6_hasRule 13 = .ok (.bipush 6, 2) := dk_16 (dw rcX6_hasRule_0 7 rfl) rfl
theorem dX6_hasRule_15 : decode cX6_hasRule 15 = .ok (.if_icmp .ge 7, 3) := dk_162 (dw rcX6_hasRule_0 8 rfl) rfl
theorem dX6_hasRule_18 : decode cX6_hasRule 18 = .ok (.iconst 1, 1) := dk_4 (dw rcX6_hasRule_0 9 rfl)
theorem dX6_hasRule_19 : decode cX6_hasRule 19 = .ok (.goto 4, 3) := dk_167 (dw rcX6_hasRule_0 10 rfl) rfl
theorem dX6_hasRule_22 : decode cX6_hasRule 22 = .ok (.iconst 0, 1) := dk_3 (dw rcX6_hasRule_0 11 rfl)
theorem dX6_hasRule_23 : decode cX6_hasRule 23 = .ok (.ireturn, 1) := dk_172 (dw rcX6_hasRule_0 12 rfl)
noncomputable def rbX6_hasSet_0 : List (Nat × List Nat) := [(0, [27]), (1, [155, 0, 17]), (4, [27]), (5, [4]), (6, [42]), (7, [180, 0, 49]), (10, [120]), (11, [162, 0, 7]), (14, [4]), (15, [167, 0, 4]), (18, [3]), (19, [172])]
theorem rcX6_hasSet_0 : dgo (lb cX6_hasSet) 0 rbX6_hasSet_0 = true := by decide +kernel
theorem dX6_hasSet_0 : decode cX6_hasSet 0 = .ok (.iload_n 1, 1) := dk_27 (dw rcX6_hasSet_0 0 rfl)
theorem dX6_hasSet_1 : decode cX6_hasSet 1 = .ok (.ifCond .lt 17, 3) := dk_155 (dw rcX6_hasSet_0 1 rfl) rfl
theorem dX6_hasSet_4 : decode cX6_hasSet 4 = .ok (.iload_n 1, 1) := dk_27 (dw rcX6_hasSet_0 2 rfl)
theorem dX6_hasSet_5 : decode cX6_hasSet 5 = .ok (.iconst 1, 1) := dk_4 (dw rcX6_hasSet_0 3 rfl)
theorem dX6_hasSet_6 : decode cX6_hasSet 6 = .ok (.aload_n 0, 1) := dk_42 (dw rcX6_hasSet_0 4 rfl)
theorem dX6_hasSet_7 : decode cX6_hasSet 7 = .ok (.getfield 49, 3) := dk_180 (dw rcX6_hasSet_0 5 rfl) rfl
theorem dX6_hasSet_10 : decode cX6_hasSet 10 = .ok (.ishl, 1) := dk_120 (dw rcX6_hasSet_0 6 rfl)
theorem dX6_hasSet_11 : decode cX6_hasSet 11 = .ok (.if_icmp .ge 7, 3) := dk_162 (dw rcX6_hasSet_0 7 rfl) rfl
theorem dX6_hasSet_14 : decode cX6_hasSet 14 = .ok (.iconst 1, 1) := dk_4 (dw rcX6_hasSet_0 8 rfl)
theorem dX6_hasSet_15 : decode cX6_hasSet 15 = .ok (.goto 4, 3) := dk_167 (dw rcX6_hasSet_0 9 rfl) rfl
theorem dX6_hasSet_18 : decode cX6_hasSet 18 = .ok (.iconst 0, 1) := dk_3 (dw rcX6_hasSet_0 10 rfl)
theorem dX6_hasSet_19 : decode cX6_hasSet 19 = .ok (.ireturn, 1) := dk_172 (dw rcX6_hasSet_0 11 rfl)
noncomputable def rbX6_hasStreet_0 : List (Nat × List Nat) := [(0, [27]), (1, [155, 0, 20]), (4, [27]), (5, [42]), (6, [180, 0, 42]), (9, [162, 0, 12]), (12, [27]), (13, [6]), (14, [162, 0, 7]), (17, [4]), (18, [167, 0, 4]), (21, [3]), (22, [172])]
theorem rcX6_hasStreet_0 : dgo (lb cX6_hasStreet) 0 rbX6_hasStreet_0 = true := by decide +kernel
theorem dX6_hasStreet_0 : decode cX6_hasStreet 0 = .ok (.iload_n 1, 1) := dk_27 (dw rcX6_hasStreet_0 0 rfl)
theorem dX6_hasStreet_1 : decode cX6_hasStreet 1 = .ok (.ifCond .lt 20, 3) := dk_155 (dw rcX6_hasStreet_0 1 rfl) rfl
theorem dX6_hasStreet_4 : decode cX6_hasStreet 4 = .ok (.iload_n 1, 1) := dk_27 (dw rcX6_hasStreet_0 2 rfl)
theorem dX6_hasStreet_5 : decode cX6_hasStreet 5 = .ok (.aload_n 0, 1) := dk_42 (dw rcX6_hasStreet_0 3 rfl)
theorem dX6_hasStreet_6 : decode cX6_hasStreet 6 = .ok (.getfield 42, 3) := dk_180 (dw rcX6_hasStreet_0 4 rfl) rfl
theorem dX6_hasStreet_9 : decode cX6_hasStreet 9 = .ok (.if_icmp .ge 12, 3) := dk_162 (dw rcX6_hasStreet_0 5 rfl) rfl
theorem dX6_hasStreet_12 : decode cX6_hasStreet 12 = .ok (.iload_n 1, 1) := dk_27 (dw rcX6_hasStreet_0 6 rfl)
theorem dX6_hasStreet_13 : decode cX6_hasStreet 13 = .ok (.iconst 3, 1) := dk_6 (dw rcX6_hasStreet_0 7 rfl)
theorem dX6_hasStreet_14 : decode cX6_hasStreet 14 = .ok (.if_icmp .ge 7, 3) := dk_162 (dw rcX6_hasStreet_0 8 rfl) rfl
theorem dX6_hasStreet_17 : decode cX6_hasStreet 17 = .ok (.iconst 1, 1) := dk_4 (dw rcX6_hasStreet_0 9 rfl)
theorem dX6_hasStreet_18 : decode cX6_hasStreet 18 = .ok (.goto 4, 3) := dk_167 (dw rcX6_hasStreet_0 10 rfl) rfl
theorem dX6_hasStreet_21 : decode cX6_hasStreet 21 = .ok (.iconst 0, 1) := dk_3 (dw rcX6_hasStreet_0 11 rfl)
theorem dX6_hasStreet_22 : decode cX6_hasStreet 22 = .ok (.ireturn, 1) := dk_172 (dw rcX6_hasStreet_0 12 rfl)
noncomputable def rbX6_hasWalker_0 : List (Nat × List Nat) := [(0, [27]), (1, [155, 0, 20]), (4, [27]), (5, [42]), (6, [180, 0, 46]), (9, [162, 0, 12]), (12, [27]), (13, [7]), (14, [162, 0, 7]), (17, [4]), (18, [167, 0, 4]), (21, [3]), (22, [172])]
theorem rcX6_hasWalker_0 : dgo (lb cX6_hasWalker) 0 rbX6_hasWalker_0 = true := by decide +kernel
theorem dX6_hasWalker_0 : decode cX6_hasWalker 0 = .ok (.iload_n 1, 1) := dk_27 (dw rcX6_hasWalker_0 0 rfl)
theorem dX6_hasWalker_1 : decode cX6_hasWalker 1 = .ok (.ifCond .lt 20, 3) := dk_155 (dw rcX6_hasWalker_0 1 rfl) rfl
theorem dX6_hasWalker_4 : decode cX6_hasWalker 4 = .ok (.iload_n 1, 1) := dk_27 (dw rcX6_hasWalker_0 2 rfl)
theorem dX6_hasWalker_5 : decode cX6_hasWalker 5 = .ok (.aload_n 0, 1) := dk_42 (dw rcX6_hasWalker_0 3 rfl)
theorem dX6_hasWalker_6 : decode cX6_hasWalker 6 = .ok (.getfield 46, 3) := dk_180 (dw rcX6_hasWalker_0 4 rfl) rfl
theorem dX6_hasWalker_9 : decode cX6_hasWalker 9 = .ok (.if_icmp .ge 12, 3) := dk_162 (dw rcX6_hasWalker_0 5 rfl) rfl
theorem dX6_hasWalker_12 : decode cX6_hasWalker 12 = .ok (.iload_n 1, 1) := dk_27 (dw rcX6_hasWalker_0 6 rfl)
theorem dX6_hasWalker_13 : decode cX6_hasWalker 13 = .ok (.iconst 4, 1) := dk_7 (dw rcX6_hasWalker_0 7 rfl)
theorem dX6_hasWalker_14 : decode cX6_hasWalker 14 = .ok (.if_icmp .ge 7, 3) := dk_162 (dw rcX6_hasWalker_0 8 rfl) rfl
theorem dX6_hasWalker_17 : decode cX6_hasWalker 17 = .ok (.iconst 1, 1) := dk_4 (dw rcX6_hasWalker_0 9 rfl)
theorem dX6_hasWalker_18 : decode cX6_hasWalker 18 = .ok (.goto 4, 3) := dk_167 (dw rcX6_hasWalker_0 10 rfl) rfl
theorem dX6_hasWalker_21 : decode cX6_hasWalker 21 = .ok (.iconst 0, 1) := dk_3 (dw rcX6_hasWalker_0 11 rfl)
theorem dX6_hasWalker_22 : decode cX6_hasWalker 22 = .ok (.ireturn, 1) := dk_172 (dw rcX6_hasWalker_0 12 rfl)
noncomputable def rbX6_inchAt_0 : List (Nat × List Nat) := [(0, [42]), (1, [27]), (2, [28]), (3, [182, 0, 67]), (6, [153, 0, 18]), (9, [42]), (10, [180, 0, 15]), (13, [27]), (14, [17, 1, 144]), (17, [104]), (18, [28]), (19, [96]), (20, [46]), (21, [167, 0, 4]), (24, [3]), (25, [172])]
theorem rcX6_inchAt_0 : dgo (lb cX6_inchAt) 0 rbX6_inchAt_0 = true := by decide +kernel
theorem dX6_inchAt_0 : decode cX6_inchAt 0 = .ok (.aload_n 0, 1) := dk_42 (dw rcX6_inchAt_0 0 rfl)
theorem dX6_inchAt_1 : decode cX6_inchAt 1 = .ok (.iload_n 1, 1) := dk_27 (dw rcX6_inchAt_0 1 rfl)
theorem dX6_inchAt_2 : decode cX6_inchAt 2 = .ok (.iload_n 2, 1) := dk_28 (dw rcX6_inchAt_0 2 rfl)
theorem dX6_inchAt_3 : decode cX6_inchAt 3 = .ok (.invokevirtual 67, 3) := dk_182 (dw rcX6_inchAt_0 3 rfl) rfl
theorem dX6_inchAt_6 : decode cX6_inchAt 6 = .ok (.ifCond .eq 18, 3) := dk_153 (dw rcX6_inchAt_0 4 rfl) rfl
theorem dX6_inchAt_9 : decode cX6_inchAt 9 = .ok (.aload_n 0, 1) := dk_42 (dw rcX6_inchAt_0 5 rfl)
theorem dX6_inchAt_10 : decode cX6_inchAt 10 = .ok (.getfield 15, 3) := dk_180 (dw rcX6_inchAt_0 6 rfl) rfl
theorem dX6_inchAt_13 : decode cX6_inchAt 13 = .ok (.iload_n 1, 1) := dk_27 (dw rcX6_inchAt_0 7 rfl)
theorem dX6_inchAt_14 : decode cX6_inchAt 14 = .ok (.sipush 400, 3) := dk_17 (dw rcX6_inchAt_0 8 rfl) rfl
theorem dX6_inchAt_17 : decode cX6_inchAt 17 = .ok (.imul, 1) := dk_104 (dw rcX6_inchAt_0 9 rfl)
theorem dX6_inchAt_18 : decode cX6_inchAt 18 = .ok (.iload_n 2, 1) := dk_28 (dw rcX6_inchAt_0 10 rfl)
theorem dX6_inchAt_19 : decode cX6_inchAt 19 = .ok (.iadd, 1) := dk_96 (dw rcX6_inchAt_0 11 rfl)
theorem dX6_inchAt_20 : decode cX6_inchAt 20 = .ok (.iaload, 1) := dk_46 (dw rcX6_inchAt_0 12 rfl)
theorem dX6_inchAt_21 : decode cX6_inchAt 21 = .ok (.goto 4, 3) := dk_167 (dw rcX6_inchAt_0 13 rfl) rfl
theorem dX6_inchAt_24 : decode cX6_inchAt 24 = .ok (.iconst 0, 1) := dk_3 (dw rcX6_inchAt_0 14 rfl)
theorem dX6_inchAt_25 : decode cX6_inchAt 25 = .ok (.ireturn, 1) := dk_172 (dw rcX6_inchAt_0 15 rfl)
noncomputable def rbX6_lay_0 : List (Nat × List Nat) := [(0, [42]), (1, [180, 0, 42]), (4, [6]), (5, [161, 0, 4]), (8, [177]), (9, [42]), (10, [180, 0, 9]), (13, [42]), (14, [180, 0, 42]), (17, [46]), (18, [54, 5]), (20, [3]), (21, [54, 6]), (23, [21, 6]), (25, [21, 4]), (27, [162, 0, 60]), (30, [21, 5]), (32, [21, 6]), (34, [96]), (35, [17, 1, 144]), (38, [162, 0, 49]), (41, [42]), (42, [180, 0, 15]), (45, [42])]
theorem rcX6_lay_0 : dgo (lb cX6_lay) 0 rbX6_lay_0 = true := by decide +kernel
theorem dX6_lay_0 : decode cX6_lay 0 = .ok (.aload_n 0, 1) := dk_42 (dw rcX6_lay_0 0 rfl)
theorem dX6_lay_1 : decode cX6_lay 1 = .ok (.getfield 42, 3) := dk_180 (dw rcX6_lay_0 1 rfl) rfl
theorem dX6_lay_4 : decode cX6_lay 4 = .ok (.iconst 3, 1) := dk_6 (dw rcX6_lay_0 2 rfl)
theorem dX6_lay_5 : decode cX6_lay 5 = .ok (.if_icmp .lt 4, 3) := dk_161 (dw rcX6_lay_0 3 rfl) rfl
theorem dX6_lay_8 : decode cX6_lay 8 = .ok (.return_, 1) := dk_177 (dw rcX6_lay_0 4 rfl)
theorem dX6_lay_9 : decode cX6_lay 9 = .ok (.aload_n 0, 1) := dk_42 (dw rcX6_lay_0 5 rfl)
theorem dX6_lay_10 : decode cX6_lay 10 = .ok (.getfield 9, 3) := dk_180 (dw rcX6_lay_0 6 rfl) rfl
theorem dX6_lay_13 : decode cX6_lay 13 = .ok (.aload_n 0, 1) := dk_42 (dw rcX6_lay_0 7 rfl)
theorem dX6_lay_14 : decode cX6_lay 14 = .ok (.getfield 42, 3) := dk_180 (dw rcX6_lay_0 8 rfl) rfl
theorem dX6_lay_17 : decode cX6_lay 17 = .ok (.iaload, 1) := dk_46 (dw rcX6_lay_0 9 rfl)
theorem dX6_lay_18 : decode cX6_lay 18 = .ok (.istore 5, 2) := dk_54 (dw rcX6_lay_0 10 rfl)
theorem dX6_lay_20 : decode cX6_lay 20 = .ok (.iconst 0, 1) := dk_3 (dw rcX6_lay_0 11 rfl)
theorem dX6_lay_21 : decode cX6_lay 21 = .ok (.istore 6, 2) := dk_54 (dw rcX6_lay_0 12 rfl)
theorem dX6_lay_23 : decode cX6_lay 23 = .ok (.iload 6, 2) := dk_21 (dw rcX6_lay_0 13 rfl)
theorem dX6_lay_25 : decode cX6_lay 25 = .ok (.iload 4, 2) := dk_21 (dw rcX6_lay_0 14 rfl)
theorem dX6_lay_27 : decode cX6_lay 27 = .ok (.if_icmp .ge 60, 3) := dk_162 (dw rcX6_lay_0 15 rfl) rfl
theorem dX6_lay_30 : decode cX6_lay 30 = .ok (.iload 5, 2) := dk_21 (dw rcX6_lay_0 16 rfl)
theorem dX6_lay_32 : decode cX6_lay 32 = .ok (.iload 6, 2) := dk_21 (dw rcX6_lay_0 17 rfl)
theorem dX6_lay_34 : decode cX6_lay 34 = .ok (.iadd, 1) := dk_96 (dw rcX6_lay_0 18 rfl)
theorem dX6_lay_35 : decode cX6_lay 35 = .ok (.sipush 400, 3) := dk_17 (dw rcX6_lay_0 19 rfl) rfl
theorem dX6_lay_38 : decode cX6_lay 38 = .ok (.if_icmp .ge 49, 3) := dk_162 (dw rcX6_lay_0 20 rfl) rfl
theorem dX6_lay_41 : decode cX6_lay 41 = .ok (.aload_n 0, 1) := dk_42 (dw rcX6_lay_0 21 rfl)
theorem dX6_lay_42 : decode cX6_lay 42 = .ok (.getfield 15, 3) := dk_180 (dw rcX6_lay_0 22 rfl) rfl
theorem dX6_lay_45 : decode cX6_lay 45 = .ok (.aload_n 0, 1) := dk_42 (dw rcX6_lay_0 23 rfl)
noncomputable def rbX6_lay_46 : List (Nat × List Nat) := [(46, [180, 0, 42]), (49, [17, 1, 144]), (52, [104]), (53, [21, 5]), (55, [96]), (56, [21, 6]), (58, [96]), (59, [27]), (60, [28]), (61, [4]), (62, [120]), (63, [128]), (64, [29]), (65, [8]), (66, [120]), (67, [128]), (68, [21, 6]), (70, [16, 14]), (72, [120]), (73, [128]), (74, [21, 4]), (76, [16, 20]), (78, [120]), (79, [128])]
theorem rcX6_lay_46 : dgo (lb cX6_lay) 0 rbX6_lay_46 = true := by decide +kernel
theorem dX6_lay_46 : decode cX6_lay 46 = .ok (.getfield 42, 3) := dk_180 (dw rcX6_lay_46 0 rfl) rfl
theorem dX6_lay_49 : decode cX6_lay 49 = .ok (.sipush 400, 3) := dk_17 (dw rcX6_lay_46 1 rfl) rfl
theorem dX6_lay_52 : decode cX6_lay 52 = .ok (.imul, 1) := dk_104 (dw rcX6_lay_46 2 rfl)
theorem dX6_lay_53 : decode cX6_lay 53 = .ok (.iload 5, 2) := dk_21 (dw rcX6_lay_46 3 rfl)
theorem dX6_lay_55 : decode cX6_lay 55 = .ok (.iadd, 1) := dk_96 (dw rcX6_lay_46 4 rfl)
theorem dX6_lay_56 : decode cX6_lay 56 = .ok (.iload 6, 2) := dk_21 (dw rcX6_lay_46 5 rfl)
theorem dX6_lay_58 : decode cX6_lay 58 = .ok (.iadd, 1) := dk_96 (dw rcX6_lay_46 6 rfl)
theorem dX6_lay_59 : decode cX6_lay 59 = .ok (.iload_n 1, 1) := dk_27 (dw rcX6_lay_46 7 rfl)
theorem dX6_lay_60 : decode cX6_lay 60 = .ok (.iload_n 2, 1) := dk_28 (dw rcX6_lay_46 8 rfl)
theorem dX6_lay_61 : decode cX6_lay 61 = .ok (.iconst 1, 1) := dk_4 (dw rcX6_lay_46 9 rfl)
theorem dX6_lay_62 : decode cX6_lay 62 = .ok (.ishl, 1) := dk_120 (dw rcX6_lay_46 10 rfl)
theorem dX6_lay_63 : decode cX6_lay 63 = .ok (.ior, 1) := dk_128 (dw rcX6_lay_46 11 rfl)
theorem dX6_lay_64 : decode cX6_lay 64 = .ok (.iload_n 3, 1) := dk_29 (dw rcX6_lay_46 12 rfl)
theorem dX6_lay_65 : decode cX6_lay 65 = .ok (.iconst 5, 1) := dk_8 (dw rcX6_lay_46 13 rfl)
theorem dX6_lay_66 : decode cX6_lay 66 = .ok (.ishl, 1) := dk_120 (dw rcX6_lay_46 14 rfl)
theorem dX6_lay_67 : decode cX6_lay 67 = .ok (.ior, 1) := dk_128 (dw rcX6_lay_46 15 rfl)
theorem dX6_lay_68 : decode cX6_lay 68 = .ok (.iload 6, 2) := dk_21 (dw rcX6_lay_46 16 rfl)
theorem dX6_lay_70 : decode cX6_lay 70 = .ok (.bipush 14, 2) := dk_16 (dw rcX6_lay_46 17 rfl) rfl
theorem dX6_lay_72 : decode cX6_lay 72 = .ok (.ishl, 1) := dk_120 (dw rcX6_lay_46 18 rfl)
theorem dX6_lay_73 : decode cX6_lay 73 = .ok (.ior, 1) := dk_128 (dw rcX6_lay_46 19 rfl)
theorem dX6_lay_74 : decode cX6_lay 74 = .ok (.iload 4, 2) := dk_21 (dw rcX6_lay_46 20 rfl)
theorem dX6_lay_76 : decode cX6_lay 76 = .ok (.bipush 20, 2) := dk_16 (dw rcX6_lay_46 21 rfl) rfl
theorem dX6_lay_78 : decode cX6_lay 78 = .ok (.ishl, 1) := dk_120 (dw rcX6_lay_46 22 rfl)
theorem dX6_lay_79 : decode cX6_lay 79 = .ok (.ior, 1) := dk_128 (dw rcX6_lay_46 23 rfl)
noncomputable def rbX6_lay_80 : List (Nat × List Nat) := [(80, [79]), (81, [132, 6, 1]), (84, [167, 255, 195]), (87, [42]), (88, [180, 0, 9]), (91, [42]), (92, [180, 0, 42]), (95, [21, 5]), (97, [21, 4]), (99, [96]), (100, [17, 1, 144]), (103, [184, 0, 71]), (106, [79]), (107, [177])]
theorem rcX6_lay_80 : dgo (lb cX6_lay) 0 rbX6_lay_80 = true := by decide +kernel
theorem dX6_lay_80 : decode cX6_lay 80 = .ok (.iastore, 1) := dk_79 (dw rcX6_lay_80 0 rfl)
theorem dX6_lay_81 : decode cX6_lay 81 = .ok (.iinc 6 1, 3) := dk_132 (dw rcX6_lay_80 1 rfl) rfl
theorem dX6_lay_84 : decode cX6_lay 84 = .ok (.goto (-61), 3) := dk_167 (dw rcX6_lay_80 2 rfl) rfl
theorem dX6_lay_87 : decode cX6_lay 87 = .ok (.aload_n 0, 1) := dk_42 (dw rcX6_lay_80 3 rfl)
theorem dX6_lay_88 : decode cX6_lay 88 = .ok (.getfield 9, 3) := dk_180 (dw rcX6_lay_80 4 rfl) rfl
theorem dX6_lay_91 : decode cX6_lay 91 = .ok (.aload_n 0, 1) := dk_42 (dw rcX6_lay_80 5 rfl)
theorem dX6_lay_92 : decode cX6_lay 92 = .ok (.getfield 42, 3) := dk_180 (dw rcX6_lay_80 6 rfl) rfl
theorem dX6_lay_95 : decode cX6_lay 95 = .ok (.iload 5, 2) := dk_21 (dw rcX6_lay_80 7 rfl)
theorem dX6_lay_97 : decode cX6_lay 97 = .ok (.iload 4, 2) := dk_21 (dw rcX6_lay_80 8 rfl)
theorem dX6_lay_99 : decode cX6_lay 99 = .ok (.iadd, 1) := dk_96 (dw rcX6_lay_80 9 rfl)
theorem dX6_lay_100 : decode cX6_lay 100 = .ok (.sipush 400, 3) := dk_17 (dw rcX6_lay_80 10 rfl) rfl
theorem dX6_lay_103 : decode cX6_lay 103 = .ok (.invokestatic 71, 3) := dk_184 (dw rcX6_lay_80 11 rfl) rfl
theorem dX6_lay_106 : decode cX6_lay 106 = .ok (.iastore, 1) := dk_79 (dw rcX6_lay_80 12 rfl)
theorem dX6_lay_107 : decode cX6_lay 107 = .ok (.return_, 1) := dk_177 (dw rcX6_lay_80 13 rfl)
noncomputable def rbX6_slipBy_0 : List (Nat × List Nat) := [(0, [42]), (1, [182, 0, 84]), (4, [61]), (5, [28]), (6, [154, 0, 7]), (9, [3]), (10, [167, 0, 6]), (13, [27]), (14, [28]), (15, [112]), (16, [62]), (17, [29]), (18, [42]), (19, [180, 0, 30]), (22, [3]), (23, [46]), (24, [162, 0, 7]), (27, [2]), (28, [167, 0, 25]), (31, [29]), (32, [42]), (33, [180, 0, 30]), (36, [3]), (37, [46])]
theorem rcX6_slipBy_0 : dgo (lb cX6_slipBy) 0 rbX6_slipBy_0 = true := by decide +kernel
theorem dX6_slipBy_0 : decode cX6_slipBy 0 = .ok (.aload_n 0, 1) := dk_42 (dw rcX6_slipBy_0 0 rfl)
theorem dX6_slipBy_1 : decode cX6_slipBy 1 = .ok (.invokevirtual 84, 3) := dk_182 (dw rcX6_slipBy_0 1 rfl) rfl
theorem dX6_slipBy_4 : decode cX6_slipBy 4 = .ok (.istore_n 2, 1) := dk_61 (dw rcX6_slipBy_0 2 rfl)
theorem dX6_slipBy_5 : decode cX6_slipBy 5 = .ok (.iload_n 2, 1) := dk_28 (dw rcX6_slipBy_0 3 rfl)
theorem dX6_slipBy_6 : decode cX6_slipBy 6 = .ok (.ifCond .ne 7, 3) := dk_154 (dw rcX6_slipBy_0 4 rfl) rfl
theorem dX6_slipBy_9 : decode cX6_slipBy 9 = .ok (.iconst 0, 1) := dk_3 (dw rcX6_slipBy_0 5 rfl)
theorem dX6_slipBy_10 : decode cX6_slipBy 10 = .ok (.goto 6, 3) := dk_167 (dw rcX6_slipBy_0 6 rfl) rfl
theorem dX6_slipBy_13 : decode cX6_slipBy 13 = .ok (.iload_n 1, 1) := dk_27 (dw rcX6_slipBy_0 7 rfl)
theorem dX6_slipBy_14 : decode cX6_slipBy 14 = .ok (.iload_n 2, 1) := dk_28 (dw rcX6_slipBy_0 8 rfl)
theorem dX6_slipBy_15 : decode cX6_slipBy 15 = .ok (.irem, 1) := dk_112 (dw rcX6_slipBy_0 9 rfl)
theorem dX6_slipBy_16 : decode cX6_slipBy 16 = .ok (.istore_n 3, 1) := dk_62 (dw rcX6_slipBy_0 10 rfl)
theorem dX6_slipBy_17 : decode cX6_slipBy 17 = .ok (.iload_n 3, 1) := dk_29 (dw rcX6_slipBy_0 11 rfl)
theorem dX6_slipBy_18 : decode cX6_slipBy 18 = .ok (.aload_n 0, 1) := dk_42 (dw rcX6_slipBy_0 12 rfl)
theorem dX6_slipBy_19 : decode cX6_slipBy 19 = .ok (.getfield 30, 3) := dk_180 (dw rcX6_slipBy_0 13 rfl) rfl
theorem dX6_slipBy_22 : decode cX6_slipBy 22 = .ok (.iconst 0, 1) := dk_3 (dw rcX6_slipBy_0 14 rfl)
theorem dX6_slipBy_23 : decode cX6_slipBy 23 = .ok (.iaload, 1) := dk_46 (dw rcX6_slipBy_0 15 rfl)
theorem dX6_slipBy_24 : decode cX6_slipBy 24 = .ok (.if_icmp .ge 7, 3) := dk_162 (dw rcX6_slipBy_0 16 rfl) rfl
theorem dX6_slipBy_27 : decode cX6_slipBy 27 = .ok (.iconst (-1), 1) := dk_2 (dw rcX6_slipBy_0 17 rfl)
theorem dX6_slipBy_28 : decode cX6_slipBy 28 = .ok (.goto 25, 3) := dk_167 (dw rcX6_slipBy_0 18 rfl) rfl
theorem dX6_slipBy_31 : decode cX6_slipBy 31 = .ok (.iload_n 3, 1) := dk_29 (dw rcX6_slipBy_0 19 rfl)
theorem dX6_slipBy_32 : decode cX6_slipBy 32 = .ok (.aload_n 0, 1) := dk_42 (dw rcX6_slipBy_0 20 rfl)
theorem dX6_slipBy_33 : decode cX6_slipBy 33 = .ok (.getfield 30, 3) := dk_180 (dw rcX6_slipBy_0 21 rfl) rfl
theorem dX6_slipBy_36 : decode cX6_slipBy 36 = .ok (.iconst 0, 1) := dk_3 (dw rcX6_slipBy_0 22 rfl)
theorem dX6_slipBy_37 : decode cX6_slipBy 37 = .ok (.iaload, 1) := dk_46 (dw rcX6_slipBy_0 23 rfl)
noncomputable def rbX6_slipBy_38 : List (Nat × List Nat) := [(38, [42]), (39, [180, 0, 30]), (42, [4]), (43, [46]), (44, [96]), (45, [162, 0, 7]), (48, [3]), (49, [167, 0, 4]), (52, [4]), (53, [172])]
theorem rcX6_slipBy_38 : dgo (lb cX6_slipBy) 0 rbX6_slipBy_38 = true := by decide +kernel
theorem dX6_slipBy_38 : decode cX6_slipBy 38 = .ok (.aload_n 0, 1) := dk_42 (dw rcX6_slipBy_38 0 rfl)
theorem dX6_slipBy_39 : decode cX6_slipBy 39 = .ok (.getfield 30, 3) := dk_180 (dw rcX6_slipBy_38 1 rfl) rfl
theorem dX6_slipBy_42 : decode cX6_slipBy 42 = .ok (.iconst 1, 1) := dk_4 (dw rcX6_slipBy_38 2 rfl)
theorem dX6_slipBy_43 : decode cX6_slipBy 43 = .ok (.iaload, 1) := dk_46 (dw rcX6_slipBy_38 3 rfl)
theorem dX6_slipBy_44 : decode cX6_slipBy 44 = .ok (.iadd, 1) := dk_96 (dw rcX6_slipBy_38 4 rfl)
theorem dX6_slipBy_45 : decode cX6_slipBy 45 = .ok (.if_icmp .ge 7, 3) := dk_162 (dw rcX6_slipBy_38 5 rfl) rfl
theorem dX6_slipBy_48 : decode cX6_slipBy 48 = .ok (.iconst 0, 1) := dk_3 (dw rcX6_slipBy_38 6 rfl)
theorem dX6_slipBy_49 : decode cX6_slipBy 49 = .ok (.goto 4, 3) := dk_167 (dw rcX6_slipBy_38 7 rfl) rfl
theorem dX6_slipBy_52 : decode cX6_slipBy 52 = .ok (.iconst 1, 1) := dk_4 (dw rcX6_slipBy_38 8 rfl)
theorem dX6_slipBy_53 : decode cX6_slipBy 53 = .ok (.ireturn, 1) := dk_172 (dw rcX6_slipBy_38 9 rfl)
noncomputable def rbX6_stands_0 : List (Nat × List Nat) := [(0, [42]), (1, [27]), (2, [182, 0, 81]), (5, [153, 0, 36]), (8, [42]), (9, [28]), (10, [182, 0, 77]), (13, [153, 0, 28]), (16, [29]), (17, [155, 0, 24]), (20, [29]), (21, [42]), (22, [180, 0, 9]), (25, [28]), (26, [46]), (27, [42]), (28, [180, 0, 18]), (31, [27]), (32, [46]), (33, [100]), (34, [163, 0, 7]), (37, [4]), (38, [167, 0, 4]), (41, [3])]
theorem rcX6_stands_0 : dgo (lb cX6_stands) 0 rbX6_stands_0 = true := by decide +kernel
theorem dX6_stands_0 : decode cX6_stands 0 = .ok (.aload_n 0, 1) := dk_42 (dw rcX6_stands_0 0 rfl)
theorem dX6_stands_1 : decode cX6_stands 1 = .ok (.iload_n 1, 1) := dk_27 (dw rcX6_stands_0 1 rfl)
theorem dX6_stands_2 : decode cX6_stands 2 = .ok (.invokevirtual 81, 3) := dk_182 (dw rcX6_stands_0 2 rfl) rfl
theorem dX6_stands_5 : decode cX6_stands 5 = .ok (.ifCond .eq 36, 3) := dk_153 (dw rcX6_stands_0 3 rfl) rfl
theorem dX6_stands_8 : decode cX6_stands 8 = .ok (.aload_n 0, 1) := dk_42 (dw rcX6_stands_0 4 rfl)
theorem dX6_stands_9 : decode cX6_stands 9 = .ok (.iload_n 2, 1) := dk_28 (dw rcX6_stands_0 5 rfl)
theorem dX6_stands_10 : decode cX6_stands 10 = .ok (.invokevirtual 77, 3) := dk_182 (dw rcX6_stands_0 6 rfl) rfl
theorem dX6_stands_13 : decode cX6_stands 13 = .ok (.ifCond .eq 28, 3) := dk_153 (dw rcX6_stands_0 7 rfl) rfl
theorem dX6_stands_16 : decode cX6_stands 16 = .ok (.iload_n 3, 1) := dk_29 (dw rcX6_stands_0 8 rfl)
theorem dX6_stands_17 : decode cX6_stands 17 = .ok (.ifCond .lt 24, 3) := dk_155 (dw rcX6_stands_0 9 rfl) rfl
theorem dX6_stands_20 : decode cX6_stands 20 = .ok (.iload_n 3, 1) := dk_29 (dw rcX6_stands_0 10 rfl)
theorem dX6_stands_21 : decode cX6_stands 21 = .ok (.aload_n 0, 1) := dk_42 (dw rcX6_stands_0 11 rfl)
theorem dX6_stands_22 : decode cX6_stands 22 = .ok (.getfield 9, 3) := dk_180 (dw rcX6_stands_0 12 rfl) rfl
theorem dX6_stands_25 : decode cX6_stands 25 = .ok (.iload_n 2, 1) := dk_28 (dw rcX6_stands_0 13 rfl)
theorem dX6_stands_26 : decode cX6_stands 26 = .ok (.iaload, 1) := dk_46 (dw rcX6_stands_0 14 rfl)
theorem dX6_stands_27 : decode cX6_stands 27 = .ok (.aload_n 0, 1) := dk_42 (dw rcX6_stands_0 15 rfl)
theorem dX6_stands_28 : decode cX6_stands 28 = .ok (.getfield 18, 3) := dk_180 (dw rcX6_stands_0 16 rfl) rfl
theorem dX6_stands_31 : decode cX6_stands 31 = .ok (.iload_n 1, 1) := dk_27 (dw rcX6_stands_0 17 rfl)
theorem dX6_stands_32 : decode cX6_stands 32 = .ok (.iaload, 1) := dk_46 (dw rcX6_stands_0 18 rfl)
theorem dX6_stands_33 : decode cX6_stands 33 = .ok (.isub, 1) := dk_100 (dw rcX6_stands_0 19 rfl)
theorem dX6_stands_34 : decode cX6_stands 34 = .ok (.if_icmp .gt 7, 3) := dk_163 (dw rcX6_stands_0 20 rfl) rfl
theorem dX6_stands_37 : decode cX6_stands 37 = .ok (.iconst 1, 1) := dk_4 (dw rcX6_stands_0 21 rfl)
theorem dX6_stands_38 : decode cX6_stands 38 = .ok (.goto 4, 3) := dk_167 (dw rcX6_stands_0 22 rfl) rfl
theorem dX6_stands_41 : decode cX6_stands 41 = .ok (.iconst 0, 1) := dk_3 (dw rcX6_stands_0 23 rfl)
theorem dX6_stands_42 : decode cX6_stands 42 = .ok (.ireturn, 1) := dq_of (by decide +kernel)
set_option maxHeartbeats 4000000 in
set_option maxRecDepth 100000 in
theorem k_hasStreet_1 (l : Launch) (D : va_G) (k : KT) (A : Nat → Prop) (a : Nat → Nat) (z : SK) (G : GS) (p0 : Int32)  : Met l yX6_hasStreet (WS yX6_hasStreet cX6_hasStreet 2 (some .boolean)) ({ frames := 0, cells := 0, slots := 0, locals := 0 }) (va_Pc [.ref (a 1), .int p0] (cW D k A a z G)) (va_Qi (fun (r : Int32) (G1 : GS) => P_hasStreet_1 p0 G r G1) (fun (G1 : GS) t => Wd D k A a G1 t.heap) A) 0 0 A := by
  refine Met.ofW (cc := cX6_hasStreet) (maxL := 2) (ret := (some .boolean)) (by decide) rfl ?_
  intro p e s m args below meth c s₁ B hml hv
  obtain ⟨rfl, hW, hB_G, hK, hZ⟩ := hv
  have hx := B.exec
  have hb := B.bytes
  have hr := B.returns
  have hts := atoms_spec (ws := WS yX6_hasStreet cX6_hasStreet 2 (some .boolean)) B.pre
  have hgd : ∀ w ∈ gd, w ∈ WS yX6_hasStreet cX6_hasStreet 2 (some .boolean) := fun w h => List.mem_cons_of_mem _ h
  have hg : ∀ w ∈ gd, w.before _ s = true := fun w h => hts w (hgd w h)
  have hown : s.vm.findClass RX6 = some m.cls := findClass_of_methodNamed B.named
  have hS : va_S A s.heap s.heap [] := va_S.rf
  have hF : Fr [] [] G G := Fr.rf
  have hl := lv_entry ([.ref (a 1), .int p0]) (n := 2) (Nat.le_of_ble_eq_true rfl)
  rw [lg_entry_eq]
  generalize (lg_sl ([.ref (a 1), .int p0]) ++ List.replicate (2 - (lg_sl ([.ref (a 1), .int p0])).length) Slot.unset).toArray = ls at hl ⊢
  have hl : lv_has ls 2 [(0, .ref (a 1)), (1, .int p0)] := hl
  refine lv_iload_n hx hb dX6_hasStreet_0 rfl (lv_at hl 1 rfl) ?_
  refine lv_if_lt (tgt := 21) hx hb dX6_hasStreet_1 rfl (fun c_1 => ?_) (fun c_1 => ?_)
  · have c_1 : p0.toInt < 0 := xI_lt rfl rfl c_1
    refine ic_0 hx hb dX6_hasStreet_21 ?_
    have b_2 : 0 ≤ (G.1 1 9).toInt ∧ (G.1 1 9).toInt ≤ 3 := bd_1_9 hB_G
    exact W.zret (v := 0) hx hb hr (by decide) (fun t ht _ => ⟨⟨0, G, rfl, (P_hasStreet_1_mk ⟨hB_G, hF, ⟨by decide, by decide⟩, (by have hq : (0 : Int32).toInt = 0 := rfl; (try dsimp only); omega), (Or.inl ⟨c_1, ⟨rfl, rfl⟩⟩)⟩), wd_t ht hW⟩, hS.F ht⟩) hS.2.2 dX6_hasStreet_22
  · have c_1 : 0 ≤ p0.toInt := xI_nlt rfl rfl c_1
    refine lv_iload_n hx hb dX6_hasStreet_4 rfl (lv_at hl 1 rfl) ?_
    refine lv_aload_n hx hb dX6_hasStreet_5 rfl (lv_at hl 0 rfl) ?_
    have b_3 : 0 ≤ (G.1 1 9).toInt ∧ (G.1 1 9).toInt ≤ 3 := bd_1_9 hB_G
    refine S_getI (v := (G.1 1 9)) (C := RX6) (T := TX6) (N := 17) hx hb hg iX6 hown hK hW kd_1 rfl 9 (lt_b rfl) (hg (Cond.fieldLink RX6 42 "SlabWalk$Paving" "streets" "I") m186) (fun _ h9 => h9) rfl rfl dX6_hasStreet_6 ?_
    refine lv_icmp_ge (tgt := 21) hx hb dX6_hasStreet_9 rfl (fun c_4 => ?_) (fun c_4 => ?_)
    · have c_4 : (G.1 1 9).toInt ≤ p0.toInt := xI_le rfl rfl c_4
      refine ic_0 hx hb dX6_hasStreet_21 ?_
      exact W.zret (v := 0) hx hb hr (by decide) (fun t ht _ => ⟨⟨0, G, rfl, (P_hasStreet_1_mk ⟨hB_G, hF, ⟨by decide, by decide⟩, (by have hq : (0 : Int32).toInt = 0 := rfl; (try dsimp only); omega), (Or.inr ⟨c_1, (Or.inl ⟨c_4, ⟨rfl, rfl⟩⟩)⟩)⟩), wd_t ht hW⟩, hS.F ht⟩) hS.2.2 dX6_hasStreet_22
    · have c_4 : p0.toInt < (G.1 1 9).toInt := xI_nle rfl rfl c_4
      refine lv_iload_n hx hb dX6_hasStreet_12 rfl (lv_at hl 1 rfl) ?_
      refine ic_3 hx hb dX6_hasStreet_13 ?_
      refine lv_icmp_ge (tgt := 21) hx hb dX6_hasStreet_14 rfl (fun c_5 => ?_) (fun c_5 => ?_)
      · have c_5 : 3 ≤ p0.toInt := xI_le rfl rfl c_5
        exfalso; first | exact ok_0 b_3.2 c_4 c_5 | omega
      · have c_5 : p0.toInt < 3 := xI_nle rfl rfl c_5
        refine ic_1 hx hb dX6_hasStreet_17 ?_
        refine lv_goto (tgt := 22) hx hb dX6_hasStreet_18 rfl ?_
        exact W.zret (v := 1) hx hb hr (by decide) (fun t ht _ => ⟨⟨1, G, rfl, (P_hasStreet_1_mk ⟨hB_G, hF, ⟨by decide, by decide⟩, (by have hq : (1 : Int32).toInt = 1 := rfl; (try dsimp only); omega), (Or.inr ⟨c_1, (Or.inr ⟨c_4, ⟨rfl, rfl⟩⟩)⟩)⟩), wd_t ht hW⟩, hS.F ht⟩) hS.2.2 dX6_hasStreet_22

set_option maxHeartbeats 4000000 in
set_option maxRecDepth 100000 in
theorem k_hasWalker_1 (l : Launch) (D : va_G) (k : KT) (A : Nat → Prop) (a : Nat → Nat) (z : SK) (G : GS) (p0 : Int32)  : Met l yX6_hasWalker (WS yX6_hasWalker cX6_hasWalker 2 (some .boolean)) ({ frames := 0, cells := 0, slots := 0, locals := 0 }) (va_Pc [.ref (a 1), .int p0] (cW D k A a z G)) (va_Qi (fun (r : Int32) (G1 : GS) => P_hasWalker_1 p0 G r G1) (fun (G1 : GS) t => Wd D k A a G1 t.heap) A) 0 0 A := by
  refine Met.ofW (cc := cX6_hasWalker) (maxL := 2) (ret := (some .boolean)) (by decide) rfl ?_
  intro p e s m args below meth c s₁ B hml hv
  obtain ⟨rfl, hW, hB_G, hK, hZ⟩ := hv
  have hx := B.exec
  have hb := B.bytes
  have hr := B.returns
  have hts := atoms_spec (ws := WS yX6_hasWalker cX6_hasWalker 2 (some .boolean)) B.pre
  have hgd : ∀ w ∈ gd, w ∈ WS yX6_hasWalker cX6_hasWalker 2 (some .boolean) := fun w h => List.mem_cons_of_mem _ h
  have hg : ∀ w ∈ gd, w.before _ s = true := fun w h => hts w (hgd w h)
  have hown : s.vm.findClass RX6 = some m.cls := findClass_of_methodNamed B.named
  have hS : va_S A s.heap s.heap [] := va_S.rf
  have hF : Fr [] [] G G := Fr.rf
  have hl := lv_entry ([.ref (a 1), .int p0]) (n := 2) (Nat.le_of_ble_eq_true rfl)
  rw [lg_entry_eq]
  generalize (lg_sl ([.ref (a 1), .int p0]) ++ List.replicate (2 - (lg_sl ([.ref (a 1), .int p0])).length) Slot.unset).toArray = ls at hl ⊢
  have hl : lv_has ls 2 [(0, .ref (a 1)), (1, .int p0)] := hl
  refine lv_iload_n hx hb dX6_hasWalker_0 rfl (lv_at hl 1 rfl) ?_
  refine lv_if_lt (tgt := 21) hx hb dX6_hasWalker_1 rfl (fun c_1 => ?_) (fun c_1 => ?_)
  · have c_1 : p0.toInt < 0 := xI_lt rfl rfl c_1
    refine ic_0 hx hb dX6_hasWalker_21 ?_
    have b_2 : 0 ≤ (G.1 1 10).toInt ∧ (G.1 1 10).toInt ≤ 4 := bd_1_10 hB_G
    exact W.zret (v := 0) hx hb hr (by decide) (fun t ht _ => ⟨⟨0, G, rfl, (P_hasWalker_1_mk ⟨hB_G, hF, ⟨by decide, by decide⟩, (by have hq : (0 : Int32).toInt = 0 := rfl; (try dsimp only); omega), (Or.inl ⟨c_1, ⟨rfl, rfl⟩⟩)⟩), wd_t ht hW⟩, hS.F ht⟩) hS.2.2 dX6_hasWalker_22
  · have c_1 : 0 ≤ p0.toInt := xI_nlt rfl rfl c_1
    refine lv_iload_n hx hb dX6_hasWalker_4 rfl (lv_at hl 1 rfl) ?_
    refine lv_aload_n hx hb dX6_hasWalker_5 rfl (lv_at hl 0 rfl) ?_
    have b_3 : 0 ≤ (G.1 1 10).toInt ∧ (G.1 1 10).toInt ≤ 4 := bd_1_10 hB_G
    refine S_getI (v := (G.1 1 10)) (C := RX6) (T := TX6) (N := 17) hx hb hg iX6 hown hK hW kd_1 rfl 10 (lt_b rfl) (hg (Cond.fieldLink RX6 46 "SlabWalk$Paving" "walkers" "I") m189) (fun _ h9 => h9) rfl rfl dX6_hasWalker_6 ?_
    refine lv_icmp_ge (tgt := 21) hx hb dX6_hasWalker_9 rfl (fun c_4 => ?_) (fun c_4 => ?_)
    · have c_4 : (G.1 1 10).toInt ≤ p0.toInt := xI_le rfl rfl c_4
      refine ic_0 hx hb dX6_hasWalker_21 ?_
      exact W.zret (v := 0) hx hb hr (by decide) (fun t ht _ => ⟨⟨0, G, rfl, (P_hasWalker_1_mk ⟨hB_G, hF, ⟨by decide, by decide⟩, (by have hq : (0 : Int32).toInt = 0 := rfl; (try dsimp only); omega), (Or.inr ⟨c_1, (Or.inl ⟨c_4, ⟨rfl, rfl⟩⟩)⟩)⟩), wd_t ht hW⟩, hS.F ht⟩) hS.2.2 dX6_hasWalker_22
    · have c_4 : p0.toInt < (G.1 1 10).toInt := xI_nle rfl rfl c_4
      refine lv_iload_n hx hb dX6_hasWalker_12 rfl (lv_at hl 1 rfl) ?_
      refine ic_4 hx hb dX6_hasWalker_13 ?_
      refine lv_icmp_ge (tgt := 21) hx hb dX6_hasWalker_14 rfl (fun c_5 => ?_) (fun c_5 => ?_)
      · have c_5 : 4 ≤ p0.toInt := xI_le rfl rfl c_5
        exfalso; first | exact ok_1 b_3.2 c_4 c_5 | omega
      · have c_5 : p0.toInt < 4 := xI_nle rfl rfl c_5
        refine ic_1 hx hb dX6_hasWalker_17 ?_
        refine lv_goto (tgt := 22) hx hb dX6_hasWalker_18 rfl ?_
        exact W.zret (v := 1) hx hb hr (by decide) (fun t ht _ => ⟨⟨1, G, rfl, (P_hasWalker_1_mk ⟨hB_G, hF, ⟨by decide, by decide⟩, (by have hq : (1 : Int32).toInt = 1 := rfl; (try dsimp only); omega), (Or.inr ⟨c_1, (Or.inr ⟨c_4, ⟨rfl, rfl⟩⟩)⟩)⟩), wd_t ht hW⟩, hS.F ht⟩) hS.2.2 dX6_hasWalker_22

set_option maxHeartbeats 4000000 in
set_option maxRecDepth 100000 in
theorem k_hasRule_1 (l : Launch) (D : va_G) (k : KT) (A : Nat → Prop) (a : Nat → Nat) (z : SK) (G : GS) (p0 : Int32)  : Met l yX6_hasRule (WS yX6_hasRule cX6_hasRule 2 (some .boolean)) ({ frames := 0, cells := 0, slots := 0, locals := 0 }) (va_Pc [.ref (a 1), .int p0] (cW D k A a z G)) (va_Qi (fun (r : Int32) (G1 : GS) => P_hasRule_1 p0 G r G1) (fun (G1 : GS) t => Wd D k A a G1 t.heap) A) 0 0 A := by
  refine Met.ofW (cc := cX6_hasRule) (maxL := 2) (ret := (some .boolean)) (by decide) rfl ?_
  intro p e s m args below meth c s₁ B hml hv
  obtain ⟨rfl, hW, hB_G, hK, hZ⟩ := hv
  have hx := B.exec
  have hb := B.bytes
  have hr := B.returns
  have hts := atoms_spec (ws := WS yX6_hasRule cX6_hasRule 2 (some .boolean)) B.pre
  have hgd : ∀ w ∈ gd, w ∈ WS yX6_hasRule cX6_hasRule 2 (some .boolean) := fun w h => List.mem_cons_of_mem _ h
  have hg : ∀ w ∈ gd, w.before _ s = true := fun w h => hts w (hgd w h)
  have hown : s.vm.findClass RX6 = some m.cls := findClass_of_methodNamed B.named
  have hS : va_S A s.heap s.heap [] := va_S.rf
  have hF : Fr [] [] G G := Fr.rf
  have hl := lv_entry ([.ref (a 1), .int p0]) (n := 2) (Nat.le_of_ble_eq_true rfl)
  rw [lg_entry_eq]
  generalize (lg_sl ([.ref (a 1), .int p0]) ++ List.replicate (2 - (lg_sl ([.ref (a 1), .int p0])).length) Slot.unset).toArray = ls at hl ⊢
  have hl : lv_has ls 2 [(0, .ref (a 1)), (1, .int p0)] := hl
  refine lv_iload_n hx hb dX6_hasRule_0 rfl (lv_at hl 1 rfl) ?_
  refine lv_if_lt (tgt := 22) hx hb dX6_hasRule_1 rfl (fun c_1 => ?_) (fun c_1 => ?_)
  · have c_1 : p0.toInt < 0 := xI_lt rfl rfl c_1
    refine ic_0 hx hb dX6_hasRule_22 ?_
    have b_2 : 0 ≤ (G.1 1 11).toInt ∧ (G.1 1 11).toInt ≤ 6 := bd_1_11 hB_G
    exact W.zret (v := 0) hx hb hr (by decide) (fun t ht _ => ⟨⟨0, G, rfl, (P_hasRule_1_mk ⟨hB_G, hF, ⟨by decide, by decide⟩, (by have hq : (0 : Int32).toInt = 0 := rfl; (try dsimp only); omega), (Or.inl ⟨c_1, ⟨rfl, rfl⟩⟩)⟩), wd_t ht hW⟩, hS.F ht⟩) hS.2.2 dX6_hasRule_23
  · have c_1 : 0 ≤ p0.toInt := xI_nlt rfl rfl c_1
    refine lv_iload_n hx hb dX6_hasRule_4 rfl (lv_at hl 1 rfl) ?_
    refine lv_aload_n hx hb dX6_hasRule_5 rfl (lv_at hl 0 rfl) ?_
    have b_3 : 0 ≤ (G.1 1 11).toInt ∧ (G.1 1 11).toInt ≤ 6 := bd_1_11 hB_G
    refine S_getI (v := (G.1 1 11)) (C := RX6) (T := TX6) (N := 17) hx hb hg iX6 hown hK hW kd_1 rfl 11 (lt_b rfl) (hg (Cond.fieldLink RX6 49 "SlabWalk$Paving" "rules" "I") m192) (fun _ h9 => h9) rfl rfl dX6_hasRule_6 ?_
    refine lv_icmp_ge (tgt := 22) hx hb dX6_hasRule_9 rfl (fun c_4 => ?_) (fun c_4 => ?_)
    · have c_4 : (G.1 1 11).toInt ≤ p0.toInt := xI_le rfl rfl c_4
      refine ic_0 hx hb dX6_hasRule_22 ?_
      exact W.zret (v := 0) hx hb hr (by decide) (fun t ht _ => ⟨⟨0, G, rfl, (P_hasRule_1_mk ⟨hB_G, hF, ⟨by decide, by decide⟩, (by have hq : (0 : Int32).toInt = 0 := rfl; (try dsimp only); omega), (Or.inr ⟨c_1, (Or.inl ⟨c_4, ⟨rfl, rfl⟩⟩)⟩)⟩), wd_t ht hW⟩, hS.F ht⟩) hS.2.2 dX6_hasRule_23
    · have c_4 : p0.toInt < (G.1 1 11).toInt := xI_nle rfl rfl c_4
      refine lv_iload_n hx hb dX6_hasRule_12 rfl (lv_at hl 1 rfl) ?_
      refine lv_bipush (v := 6) hx hb dX6_hasRule_13 (by decide) ?_
      refine lv_icmp_ge (tgt := 22) hx hb dX6_hasRule_15 rfl (fun c_5 => ?_) (fun c_5 => ?_)
      · have c_5 : 6 ≤ p0.toInt := xI_le rfl rfl c_5
        exfalso; first | exact ok_2 b_3.2 c_4 c_5 | omega
      · have c_5 : p0.toInt < 6 := xI_nle rfl rfl c_5
        refine ic_1 hx hb dX6_hasRule_18 ?_
        refine lv_goto (tgt := 23) hx hb dX6_hasRule_19 rfl ?_
        exact W.zret (v := 1) hx hb hr (by decide) (fun t ht _ => ⟨⟨1, G, rfl, (P_hasRule_1_mk ⟨hB_G, hF, ⟨by decide, by decide⟩, (by have hq : (1 : Int32).toInt = 1 := rfl; (try dsimp only); omega), (Or.inr ⟨c_1, (Or.inr ⟨c_4, ⟨rfl, rfl⟩⟩)⟩)⟩), wd_t ht hW⟩, hS.F ht⟩) hS.2.2 dX6_hasRule_23

set_option maxHeartbeats 4000000 in
set_option maxRecDepth 100000 in
theorem k_hasSet_1 (l : Launch) (D : va_G) (k : KT) (A : Nat → Prop) (a : Nat → Nat) (z : SK) (G : GS) (p0 : Int32)  : Met l yX6_hasSet (WS yX6_hasSet cX6_hasSet 2 (some .boolean)) ({ frames := 0, cells := 0, slots := 0, locals := 0 }) (va_Pc [.ref (a 1), .int p0] (cW D k A a z G)) (va_Qi (fun (r : Int32) (G1 : GS) => P_hasSet_1 p0 G r G1) (fun (G1 : GS) t => Wd D k A a G1 t.heap) A) 0 0 A := by
  refine Met.ofW (cc := cX6_hasSet) (maxL := 2) (ret := (some .boolean)) (by decide) rfl ?_
  intro p e s m args below meth c s₁ B hml hv
  obtain ⟨rfl, hW, hB_G, hK, hZ⟩ := hv
  have hx := B.exec
  have hb := B.bytes
  have hr := B.returns
  have hts := atoms_spec (ws := WS yX6_hasSet cX6_hasSet 2 (some .boolean)) B.pre
  have hgd : ∀ w ∈ gd, w ∈ WS yX6_hasSet cX6_hasSet 2 (some .boolean) := fun w h => List.mem_cons_of_mem _ h
  have hg : ∀ w ∈ gd, w.before _ s = true := fun w h => hts w (hgd w h)
  have hown : s.vm.findClass RX6 = some m.cls := findClass_of_methodNamed B.named
  have hS : va_S A s.heap s.heap [] := va_S.rf
  have hF : Fr [] [] G G := Fr.rf
  have hl := lv_entry ([.ref (a 1), .int p0]) (n := 2) (Nat.le_of_ble_eq_true rfl)
  rw [lg_entry_eq]
  generalize (lg_sl ([.ref (a 1), .int p0]) ++ List.replicate (2 - (lg_sl ([.ref (a 1), .int p0])).length) Slot.unset).toArray = ls at hl ⊢
  have hl : lv_has ls 2 [(0, .ref (a 1)), (1, .int p0)] := hl
  refine lv_iload_n hx hb dX6_hasSet_0 rfl (lv_at hl 1 rfl) ?_
  refine lv_if_lt (tgt := 18) hx hb dX6_hasSet_1 rfl (fun c_1 => ?_) (fun c_1 => ?_)
  · have c_1 : p0.toInt < 0 := xI_lt rfl rfl c_1
    refine ic_0 hx hb dX6_hasSet_18 ?_
    exact W.zret (v := 0) hx hb hr (by decide) (fun t ht _ => ⟨⟨0, G, rfl, (P_hasSet_1_mk ⟨hB_G, hF, ⟨by decide, by decide⟩, (by have hq : (0 : Int32).toInt = 0 := rfl; (try dsimp only); omega), (Or.inl ⟨c_1, ⟨rfl, rfl⟩⟩)⟩), wd_t ht hW⟩, hS.F ht⟩) hS.2.2 dX6_hasSet_19
  · have c_1 : 0 ≤ p0.toInt := xI_nlt rfl rfl c_1
    refine lv_iload_n hx hb dX6_hasSet_4 rfl (lv_at hl 1 rfl) ?_
    refine ic_1 hx hb dX6_hasSet_5 ?_
    refine lv_aload_n hx hb dX6_hasSet_6 rfl (lv_at hl 0 rfl) ?_
    have b_2 : 0 ≤ (G.1 1 11).toInt ∧ (G.1 1 11).toInt ≤ 6 := bd_1_11 hB_G
    refine S_getI (v := (G.1 1 11)) (C := RX6) (T := TX6) (N := 17) hx hb hg iX6 hown hK hW kd_1 rfl 11 (lt_b rfl) (hg (Cond.fieldLink RX6 49 "SlabWalk$Paving" "rules" "I") m192) (fun _ h9 => h9) rfl rfl dX6_hasSet_7 ?_
    refine lv_ishl hx hb dX6_hasSet_10 ?_
    refine lv_topi (fun y_3 ey_3 => ?_)
    have ty_3 := sh6 (Y := (G.1 1 11).toInt) rfl ey_3 rfl (by omega) (by omega)
    refine lv_icmp_ge (tgt := 18) hx hb dX6_hasSet_11 rfl (fun c_4 => ?_) (fun c_4 => ?_)
    · have c_4 : y_3.toInt ≤ p0.toInt := xI_le rfl rfl c_4
      refine ic_0 hx hb dX6_hasSet_18 ?_
      exact W.zret (v := 0) hx hb hr (by decide) (fun t ht _ => ⟨⟨0, G, rfl, (P_hasSet_1_mk ⟨hB_G, hF, ⟨by decide, by decide⟩, (by have hq : (0 : Int32).toInt = 0 := rfl; (try dsimp only); omega), (Or.inr ⟨c_1, ⟨y_3, ey_3, (Or.inl ⟨c_4, ⟨rfl, rfl⟩⟩)⟩⟩)⟩), wd_t ht hW⟩, hS.F ht⟩) hS.2.2 dX6_hasSet_19
    · have c_4 : p0.toInt < y_3.toInt := xI_nle rfl rfl c_4
      refine ic_1 hx hb dX6_hasSet_14 ?_
      refine lv_goto (tgt := 19) hx hb dX6_hasSet_15 rfl ?_
      exact W.zret (v := 1) hx hb hr (by decide) (fun t ht _ => ⟨⟨1, G, rfl, (P_hasSet_1_mk ⟨hB_G, hF, ⟨by decide, by decide⟩, (by have hq : (1 : Int32).toInt = 1 := rfl; (try dsimp only); omega), (Or.inr ⟨c_1, ⟨y_3, ey_3, (Or.inr ⟨c_4, ⟨rfl, rfl⟩⟩)⟩⟩)⟩), wd_t ht hW⟩, hS.F ht⟩) hS.2.2 dX6_hasSet_19

set_option maxHeartbeats 4000000 in
set_option maxRecDepth 100000 in
theorem k_hasInch_1 (l : Launch) (D : va_G) (k : KT) (A : Nat → Prop) (a : Nat → Nat) (z : SK) (G : GS) (p0 : Int32) (p1 : Int32)  : Met l yX6_hasInch (WS yX6_hasInch cX6_hasInch 3 (some .boolean)) ({ frames := 1, cells := 0, slots := 0, locals := 21 }) (va_Pc [.ref (a 1), .int p0, .int p1] (cW D k A a z G)) (va_Qi (fun (r : Int32) (G1 : GS) => P_hasInch_1 p0 p1 G r G1) (fun (G1 : GS) t => Wd D k A a G1 t.heap) A) 0 0 A := by
  refine Met.ofW (cc := cX6_hasInch) (maxL := 3) (ret := (some .boolean)) (by decide) rfl ?_
  intro p e s m args below meth c s₁ B hml hv
  obtain ⟨rfl, hW, hB_G, hK, hZ⟩ := hv
  have hx := B.exec
  have hb := B.bytes
  have hr := B.returns
  have hts := atoms_spec (ws := WS yX6_hasInch cX6_hasInch 3 (some .boolean)) B.pre
  have hgd : ∀ w ∈ gd, w ∈ WS yX6_hasInch cX6_hasInch 3 (some .boolean) := fun w h => List.mem_cons_of_mem _ h
  have hg : ∀ w ∈ gd, w.before _ s = true := fun w h => hts w (hgd w h)
  have hown : s.vm.findClass RX6 = some m.cls := findClass_of_methodNamed B.named
  have hS : va_S A s.heap s.heap [] := va_S.rf
  have hF : Fr [] [] G G := Fr.rf
  have hl := lv_entry ([.ref (a 1), .int p0, .int p1]) (n := 3) (Nat.le_of_ble_eq_true rfl)
  rw [lg_entry_eq]
  generalize (lg_sl ([.ref (a 1), .int p0, .int p1]) ++ List.replicate (3 - (lg_sl ([.ref (a 1), .int p0, .int p1])).length) Slot.unset).toArray = ls at hl ⊢
  have hl : lv_has ls 3 [(0, .ref (a 1)), (1, .int p0), (2, .int p1)] := hl
  refine lv_aload_n hx hb dX6_hasInch_0 rfl (lv_at hl 0 rfl) ?_
  refine lv_iload_n hx hb dX6_hasInch_1 rfl (lv_at hl 1 rfl) ?_
  refine S_calli (va_runV (As := [.int p0]) (rest := []) ⟨hx, hb, hml, hown, hts⟩ (k_hasStreet_1 l D k A a z G p0 ) (cwV 1 hts (gd_V hgd m886 m887 m888 m118 m889) rfl rfl rfl hd_X6_hasStreet ⟨Nat.le_of_ble_eq_true rfl, Nat.le_of_ble_eq_true rfl⟩) (pre_W hW hB_G hK hZ hS kd_1 rfl) rfl rfl hl.1 rfl (lv_room (Nat.le_of_ble_eq_true rfl)) dX6_hasInch_2 ⟨Nat.le_of_ble_eq_true rfl, Nat.le_of_ble_eq_true rfl⟩) hS (fun r_1 G_2 H locs hpo hW hS => ?_)
  have hX_5 : P_hasStreet_1 p0 G r_1 G_2 := hpo
  obtain ⟨hB_G_2, hq_3, f_6, hp_4, -⟩ := hpo
  have hF := hF.call9 hq_3 rfl rfl
  refine lv_if_eq (tgt := 26) hx hb dX6_hasInch_5 rfl (fun c_7 => ?_) (fun c_7 => ?_)
  · have c_7 : r_1.toInt = 0 := xI_eq rfl rfl c_7
    refine ic_0 hx hb dX6_hasInch_26 ?_
    exact W.zret (v := 0) hx hb hr (by decide) (fun t ht _ => ⟨⟨0, G_2, rfl, (P_hasInch_1_mk ⟨hB_G_2, hF, ⟨by decide, by decide⟩, (by have hq : (0 : Int32).toInt = 0 := rfl; (try dsimp only); omega), ⟨r_1, G_2, hX_5, (Or.inl ⟨c_7, ⟨rfl, rfl⟩⟩)⟩⟩), wd_t ht hW⟩, hS.F ht⟩) hS.2.2 dX6_hasInch_27
  · have c_7 : r_1.toInt ≠ 0 := xI_ne rfl rfl c_7
    refine lv_iload_n hx hb dX6_hasInch_8 rfl (lv_at hl 2 rfl) ?_
    refine lv_if_lt (tgt := 26) hx hb dX6_hasInch_9 rfl (fun c_8 => ?_) (fun c_8 => ?_)
    · have c_8 : p1.toInt < 0 := xI_lt rfl rfl c_8
      refine ic_0 hx hb dX6_hasInch_26 ?_
      exact W.zret (v := 0) hx hb hr (by decide) (fun t ht _ => ⟨⟨0, G_2, rfl, (P_hasInch_1_mk ⟨hB_G_2, hF, ⟨by decide, by decide⟩, (by have hq : (0 : Int32).toInt = 0 := rfl; (try dsimp only); omega), ⟨r_1, G_2, hX_5, (Or.inr ⟨c_7, (Or.inl ⟨c_8, ⟨rfl, rfl⟩⟩)⟩)⟩⟩), wd_t ht hW⟩, hS.F ht⟩) hS.2.2 dX6_hasInch_27
    · have c_8 : 0 ≤ p1.toInt := xI_nlt rfl rfl c_8
      refine lv_iload_n hx hb dX6_hasInch_12 rfl (lv_at hl 2 rfl) ?_
      refine lv_aload_n hx hb dX6_hasInch_13 rfl (lv_at hl 0 rfl) ?_
      refine S_getR (n := 10) (C := RX6) (T := TX6) (N := 17) hx hb hg iX6 hown hK hW kd_1 rfl 0 (lt_b rfl) (hg (Cond.fieldLink RX6 9 "SlabWalk$Paving" "length" "[I") m156) (fun _ h9 => h9) rfl dX6_hasInch_14 ?_
      refine lv_iload_n hx hb dX6_hasInch_17 rfl (lv_at hl 1 rfl) ?_
      refine S_iald hx hb hK hW kd_10 (vin ((by first | exact ok_3 f_6.1 f_6.2 hp_4 c_7 | omega)) ((by first | exact ok_4 f_6.1 f_6.2 hp_4 c_7 | omega))) dX6_hasInch_18 (fun y_9 ey_9 => ?_)
      have ty_9 : 0 ≤ y_9.toInt ∧ y_9.toInt ≤ 400 := bv_10 hB_G_2 ey_9
      refine lv_icmp_ge (tgt := 26) hx hb dX6_hasInch_19 rfl (fun c_10 => ?_) (fun c_10 => ?_)
      · have c_10 : y_9.toInt ≤ p1.toInt := xI_le rfl rfl c_10
        refine ic_0 hx hb dX6_hasInch_26 ?_
        exact W.zret (v := 0) hx hb hr (by decide) (fun t ht _ => ⟨⟨0, G_2, rfl, (P_hasInch_1_mk ⟨hB_G_2, hF, ⟨by decide, by decide⟩, (by have hq : (0 : Int32).toInt = 0 := rfl; (try dsimp only); omega), ⟨r_1, G_2, hX_5, (Or.inr ⟨c_7, (Or.inr ⟨c_8, ⟨y_9, ey_9, (Or.inl ⟨c_10, ⟨rfl, rfl⟩⟩)⟩⟩)⟩)⟩⟩), wd_t ht hW⟩, hS.F ht⟩) hS.2.2 dX6_hasInch_27
      · have c_10 : p1.toInt < y_9.toInt := xI_nle rfl rfl c_10
        refine ic_1 hx hb dX6_hasInch_22 ?_
        refine lv_goto (tgt := 27) hx hb dX6_hasInch_23 rfl ?_
        exact W.zret (v := 1) hx hb hr (by decide) (fun t ht _ => ⟨⟨1, G_2, rfl, (P_hasInch_1_mk ⟨hB_G_2, hF, ⟨by decide, by decide⟩, (by have hq : (1 : Int32).toInt = 1 := rfl; (try dsimp only); omega), ⟨r_1, G_2, hX_5, (Or.inr ⟨c_7, (Or.inr ⟨c_8, ⟨y_9, ey_9, (Or.inr ⟨c_10, ⟨rfl, rfl⟩⟩)⟩⟩)⟩)⟩⟩), wd_t ht hW⟩, hS.F ht⟩) hS.2.2 dX6_hasInch_27

set_option maxHeartbeats 4000000 in
set_option maxRecDepth 100000 in
theorem k_stands_1 (l : Launch) (D : va_G) (k : KT) (A : Nat → Prop) (a : Nat → Nat) (z : SK) (G : GS) (p0 : Int32) (p1 : Int32) (p2 : Int32)  : Met l yX6_stands (WS yX6_stands cX6_stands 4 (some .boolean)) ({ frames := 1, cells := 0, slots := 0, locals := 21 }) (va_Pc [.ref (a 1), .int p0, .int p1, .int p2] (cW D k A a z G)) (va_Qi (fun (r : Int32) (G1 : GS) => P_stands_1 p0 p1 p2 G r G1) (fun (G1 : GS) t => Wd D k A a G1 t.heap) A) 0 0 A := by
  refine Met.ofW (cc := cX6_stands) (maxL := 4) (ret := (some .boolean)) (by decide) rfl ?_
  intro p e s m args below meth c s₁ B hml hv
  obtain ⟨rfl, hW, hB_G, hK, hZ⟩ := hv
  have hx := B.exec
  have hb := B.bytes
  have hr := B.returns
  have hts := atoms_spec (ws := WS yX6_stands cX6_stands 4 (some .boolean)) B.pre
  have hgd : ∀ w ∈ gd, w ∈ WS yX6_stands cX6_stands 4 (some .boolean) := fun w h => List.mem_cons_of_mem _ h
  have hg : ∀ w ∈ gd, w.before _ s = true := fun w h => hts w (hgd w h)
  have hown : s.vm.findClass RX6 = some m.cls := findClass_of_methodNamed B.named
  have hS : va_S A s.heap s.heap [] := va_S.rf
  have hF : Fr [] [] G G := Fr.rf
  have hl := lv_entry ([.ref (a 1), .int p0, .int p1, .int p2]) (n := 4) (Nat.le_of_ble_eq_true rfl)
  rw [lg_entry_eq]
  generalize (lg_sl ([.ref (a 1), .int p0, .int p1, .int p2]) ++ List.replicate (4 - (lg_sl ([.ref (a 1), .int p0, .int p1, .int p2])).length) Slot.unset).toArray = ls at hl ⊢
  have hl : lv_has ls 4 [(0, .ref (a 1)), (1, .int p0), (2, .int p1), (3, .int p2)] := hl
  refine lv_aload_n hx hb dX6_stands_0 rfl (lv_at hl 0 rfl) ?_
  refine lv_iload_n hx hb dX6_stands_1 rfl (lv_at hl 1 rfl) ?_
  refine S_calli (va_runV (As := [.int p0]) (rest := []) ⟨hx, hb, hml, hown, hts⟩ (k_hasWalker_1 l D k A a z G p0 ) (cwV 1 hts (gd_V hgd m969 m958 m959 m118 m960) rfl rfl rfl hd_X6_hasWalker ⟨Nat.le_of_ble_eq_true rfl, Nat.le_of_ble_eq_true rfl⟩) (pre_W hW hB_G hK hZ hS kd_1 rfl) rfl rfl hl.1 rfl (lv_room (Nat.le_of_ble_eq_true rfl)) dX6_stands_2 ⟨Nat.le_of_ble_eq_true rfl, Nat.le_of_ble_eq_true rfl⟩) hS (fun r_1 G_2 H locs hpo hW hS => ?_)
  have hX_5 : P_hasWalker_1 p0 G r_1 G_2 := hpo
  obtain ⟨hB_G_2, hq_3, f_6, hp_4, -⟩ := hpo
  have hF := hF.call9 hq_3 rfl rfl
  refine lv_if_eq (tgt := 41) hx hb dX6_stands_5 rfl (fun c_7 => ?_) (fun c_7 => ?_)
  · have c_7 : r_1.toInt = 0 := xI_eq rfl rfl c_7
    refine ic_0 hx hb dX6_stands_41 ?_
    exact W.zret (v := 0) hx hb hr (by decide) (fun t ht _ => ⟨⟨0, G_2, rfl, (P_stands_1_mk ⟨hB_G_2, hF, ⟨by decide, by decide⟩, (by have hq : (0 : Int32).toInt = 0 := rfl; (try dsimp only); omega), ⟨r_1, G_2, hX_5, (Or.inl ⟨c_7, ⟨rfl, rfl⟩⟩)⟩⟩), wd_t ht hW⟩, hS.F ht⟩) hS.2.2 dX6_stands_42
  · have c_7 : r_1.toInt ≠ 0 := xI_ne rfl rfl c_7
    refine lv_aload_n hx hb dX6_stands_8 rfl (lv_at hl 0 rfl) ?_
    refine lv_iload_n hx hb dX6_stands_9 rfl (lv_at hl 2 rfl) ?_
    have b_8 : 0 ≤ (G.1 1 9).toInt ∧ (G.1 1 9).toInt ≤ 3 := bd_1_9 hB_G
    have g_9 : (G_2.1 1 9).toInt = (G.1 1 9).toInt := (congrArg Int32.toInt (show G_2.1 1 9 = (G.1 1 9) from (hq_3.i9 1 9 rfl rfl)))
    refine S_calli (va_runV (As := [.int p1]) (rest := []) ⟨hx, hb, hml, hown, hts⟩ (k_hasStreet_1 l D k A a z G_2 p1 ) (cwV 1 hts (gd_V hgd m886 m887 m888 m118 m889) rfl rfl rfl hd_X6_hasStreet ⟨Nat.le_of_ble_eq_true rfl, Nat.le_of_ble_eq_true rfl⟩) (pre_W hW hB_G_2 hK hZ hS kd_1 rfl) rfl rfl hl.1 rfl (lv_room (Nat.le_of_ble_eq_true rfl)) dX6_stands_10 ⟨Nat.le_of_ble_eq_true rfl, Nat.le_of_ble_eq_true rfl⟩) hS (fun r_10 G_11 H locs hpo hW hS => ?_)
    have hX_14 : P_hasStreet_1 p1 G_2 r_10 G_11 := hpo
    obtain ⟨hB_G_11, hq_12, f_15, hp_13, -⟩ := hpo
    have hF := hF.call9 hq_12 rfl rfl
    refine lv_if_eq (tgt := 41) hx hb dX6_stands_13 rfl (fun c_16 => ?_) (fun c_16 => ?_)
    · have c_16 : r_10.toInt = 0 := xI_eq rfl rfl c_16
      refine ic_0 hx hb dX6_stands_41 ?_
      exact W.zret (v := 0) hx hb hr (by decide) (fun t ht _ => ⟨⟨0, G_11, rfl, (P_stands_1_mk ⟨hB_G_11, hF, ⟨by decide, by decide⟩, (by have hq : (0 : Int32).toInt = 0 := rfl; (try dsimp only); omega), ⟨r_1, G_2, hX_5, (Or.inr ⟨c_7, ⟨r_10, G_11, hX_14, (Or.inl ⟨c_16, ⟨rfl, rfl⟩⟩)⟩⟩)⟩⟩), wd_t ht hW⟩, hS.F ht⟩) hS.2.2 dX6_stands_42
    · have c_16 : r_10.toInt ≠ 0 := xI_ne rfl rfl c_16
      refine lv_iload_n hx hb dX6_stands_16 rfl (lv_at hl 3 rfl) ?_
      refine lv_if_lt (tgt := 41) hx hb dX6_stands_17 rfl (fun c_17 => ?_) (fun c_17 => ?_)
      · have c_17 : p2.toInt < 0 := xI_lt rfl rfl c_17
        refine ic_0 hx hb dX6_stands_41 ?_
        exact W.zret (v := 0) hx hb hr (by decide) (fun t ht _ => ⟨⟨0, G_11, rfl, (P_stands_1_mk ⟨hB_G_11, hF, ⟨by decide, by decide⟩, (by have hq : (0 : Int32).toInt = 0 := rfl; (try dsimp only); omega), ⟨r_1, G_2, hX_5, (Or.inr ⟨c_7, ⟨r_10, G_11, hX_14, (Or.inr ⟨c_16, (Or.inl ⟨c_17, ⟨rfl, rfl⟩⟩)⟩)⟩⟩)⟩⟩), wd_t ht hW⟩, hS.F ht⟩) hS.2.2 dX6_stands_42
      · have c_17 : 0 ≤ p2.toInt := xI_nlt rfl rfl c_17
        refine lv_iload_n hx hb dX6_stands_20 rfl (lv_at hl 3 rfl) ?_
        refine lv_aload_n hx hb dX6_stands_21 rfl (lv_at hl 0 rfl) ?_
        refine S_getR (n := 10) (C := RX6) (T := TX6) (N := 17) hx hb hg iX6 hown hK hW kd_1 rfl 0 (lt_b rfl) (hg (Cond.fieldLink RX6 9 "SlabWalk$Paving" "length" "[I") m156) (fun _ h9 => h9) rfl dX6_stands_22 ?_
        refine lv_iload_n hx hb dX6_stands_25 rfl (lv_at hl 2 rfl) ?_
        refine S_iald hx hb hK hW kd_10 (vin ((by first | exact ok_3 f_15.1 f_15.2 hp_13 c_16 | omega)) ((by first | exact ok_4 f_15.1 f_15.2 hp_13 c_16 | omega))) dX6_stands_26 (fun y_18 ey_18 => ?_)
        have ty_18 : 0 ≤ y_18.toInt ∧ y_18.toInt ≤ 400 := bv_10 hB_G_11 ey_18
        refine lv_aload_n hx hb dX6_stands_27 rfl (lv_at hl 0 rfl) ?_
        refine S_getR (n := 12) (C := RX6) (T := TX6) (N := 17) hx hb hg iX6 hown hK hW kd_1 rfl 2 (lt_b rfl) (hg (Cond.fieldLink RX6 18 "SlabWalk$Paving" "foot" "[I") m162) (fun _ h9 => h9) rfl dX6_stands_28 ?_
        refine lv_iload_n hx hb dX6_stands_31 rfl (lv_at hl 1 rfl) ?_
        refine S_iald hx hb hK hW kd_12 (vin ((by first | exact ok_5 f_6.1 f_6.2 hp_4 c_7 | omega)) ((by first | exact ok_6 f_6.1 f_6.2 hp_4 c_7 | omega))) dX6_stands_32 (fun y_19 ey_19 => ?_)
        have ty_19 : 0 ≤ y_19.toInt ∧ y_19.toInt ≤ 12 := bv_12 hB_G_11 ey_19
        have b_20 : 0 ≤ (G.1 1 10).toInt ∧ (G.1 1 10).toInt ≤ 4 := bd_1_10 hB_G
        have u_21 : 1 ≤ y_19.toInt := by have q := (hB_G_11.2.of1 (w := p0.toNatClampNeg) (by rw [tN (by first | (clear b_8 g_9 f_15 hp_13 c_16 c_17 ty_18; omega) | omega), show G_11.1 1 10 = (G.1 1 10) from ((hq_12.i9 1 10 rfl rfl).trans (hq_3.i9 1 10 rfl rfl))]; omega)).1; rw [← ey_19] at q; exact q
        refine lv_isub hx hb dX6_stands_33 ?_
        refine lv_topi (fun y_22 ey_22 => ?_)
        have ty_22 : y_22.toInt = y_18.toInt - y_19.toInt := xI_sub rfl rfl ey_22 ((by first | exact ok_7 ty_18.1 ty_19.2 | omega)) ((by first | exact ok_8 ty_18.2 u_21 | omega))
        refine lv_icmp_gt (tgt := 41) hx hb dX6_stands_34 rfl (fun c_23 => ?_) (fun c_23 => ?_)
        · have c_23 : y_22.toInt < p2.toInt := xI_lt rfl rfl c_23
          refine ic_0 hx hb dX6_stands_41 ?_
          exact W.zret (v := 0) hx hb hr (by decide) (fun t ht _ => ⟨⟨0, G_11, rfl, (P_stands_1_mk ⟨hB_G_11, hF, ⟨by decide, by decide⟩, (by have hq : (0 : Int32).toInt = 0 := rfl; (try dsimp only); omega), ⟨r_1, G_2, hX_5, (Or.inr ⟨c_7, ⟨r_10, G_11, hX_14, (Or.inr ⟨c_16, (Or.inr ⟨c_17, ⟨y_18, ey_18, ⟨y_19, ey_19, ⟨y_22, ty_22, (Or.inl ⟨c_23, ⟨rfl, rfl⟩⟩)⟩⟩⟩⟩)⟩)⟩⟩)⟩⟩), wd_t ht hW⟩, hS.F ht⟩) hS.2.2 dX6_stands_42
        · have c_23 : p2.toInt ≤ y_22.toInt := xI_nlt rfl rfl c_23
          refine ic_1 hx hb dX6_stands_37 ?_
          refine lv_goto (tgt := 42) hx hb dX6_stands_38 rfl ?_
          exact W.zret (v := 1) hx hb hr (by decide) (fun t ht _ => ⟨⟨1, G_11, rfl, (P_stands_1_mk ⟨hB_G_11, hF, ⟨by decide, by decide⟩, (by have hq : (1 : Int32).toInt = 1 := rfl; (try dsimp only); omega), ⟨r_1, G_2, hX_5, (Or.inr ⟨c_7, ⟨r_10, G_11, hX_14, (Or.inr ⟨c_16, (Or.inr ⟨c_17, ⟨y_18, ey_18, ⟨y_19, ey_19, ⟨y_22, ty_22, (Or.inr ⟨c_23, ⟨rfl, rfl⟩⟩)⟩⟩⟩⟩)⟩)⟩⟩)⟩⟩), wd_t ht hW⟩, hS.F ht⟩) hS.2.2 dX6_stands_42

set_option maxHeartbeats 4000000 in
set_option maxRecDepth 100000 in
theorem k_inchAt_1 (l : Launch) (D : va_G) (k : KT) (A : Nat → Prop) (a : Nat → Nat) (z : SK) (G : GS) (p0 : Int32) (p1 : Int32)  : Met l yX6_inchAt (WS yX6_inchAt cX6_inchAt 3 (some .int)) ({ frames := 2, cells := 0, slots := 0, locals := 43 }) (va_Pc [.ref (a 1), .int p0, .int p1] (cW D k A a z G)) (va_Qi (fun (r : Int32) (G1 : GS) => P_inchAt_1 p0 p1 G r G1) (fun (G1 : GS) t => Wd D k A a G1 t.heap) A) 0 0 A := by
  refine Met.ofW (cc := cX6_inchAt) (maxL := 3) (ret := (some .int)) (by decide) rfl ?_
  intro p e s m args below meth c s₁ B hml hv
  obtain ⟨rfl, hW, hB_G, hK, hZ⟩ := hv
  have hx := B.exec
  have hb := B.bytes
  have hr := B.returns
  have hts := atoms_spec (ws := WS yX6_inchAt cX6_inchAt 3 (some .int)) B.pre
  have hgd : ∀ w ∈ gd, w ∈ WS yX6_inchAt cX6_inchAt 3 (some .int) := fun w h => List.mem_cons_of_mem _ h
  have hg : ∀ w ∈ gd, w.before _ s = true := fun w h => hts w (hgd w h)
  have hown : s.vm.findClass RX6 = some m.cls := findClass_of_methodNamed B.named
  have hS : va_S A s.heap s.heap [] := va_S.rf
  have hF : Fr [] [] G G := Fr.rf
  have hl := lv_entry ([.ref (a 1), .int p0, .int p1]) (n := 3) (Nat.le_of_ble_eq_true rfl)
  rw [lg_entry_eq]
  generalize (lg_sl ([.ref (a 1), .int p0, .int p1]) ++ List.replicate (3 - (lg_sl ([.ref (a 1), .int p0, .int p1])).length) Slot.unset).toArray = ls at hl ⊢
  have hl : lv_has ls 3 [(0, .ref (a 1)), (1, .int p0), (2, .int p1)] := hl
  refine lv_aload_n hx hb dX6_inchAt_0 rfl (lv_at hl 0 rfl) ?_
  refine lv_iload_n hx hb dX6_inchAt_1 rfl (lv_at hl 1 rfl) ?_
  refine lv_iload_n hx hb dX6_inchAt_2 rfl (lv_at hl 2 rfl) ?_
  refine S_calli (va_runV (As := [.int p0, .int p1]) (rest := []) ⟨hx, hb, hml, hown, hts⟩ (k_hasInch_1 l D k A a z G p0 p1 ) (cwV 2 hts (gd_V hgd m894 m883 m884 m118 m885) rfl rfl rfl hd_X6_hasInch ⟨Nat.le_of_ble_eq_true rfl, Nat.le_of_ble_eq_true rfl⟩) (pre_W hW hB_G hK hZ hS kd_1 rfl) rfl rfl hl.1 rfl (lv_room (Nat.le_of_ble_eq_true rfl)) dX6_inchAt_3 ⟨Nat.le_of_ble_eq_true rfl, Nat.le_of_ble_eq_true rfl⟩) hS (fun r_1 G_2 H locs hpo hW hS => ?_)
  have hX_5 : P_hasInch_1 p0 p1 G r_1 G_2 := hpo
  obtain ⟨hB_G_2, hq_3, f_6, hp_4, -⟩ := hpo
  have hF := hF.call9 hq_3 rfl rfl
  refine lv_if_eq (tgt := 24) hx hb dX6_inchAt_6 rfl (fun c_7 => ?_) (fun c_7 => ?_)
  · have c_7 : r_1.toInt = 0 := xI_eq rfl rfl c_7
    refine ic_0 hx hb dX6_inchAt_24 ?_
    exact W.iret (v := 0) hx hb hr (fun t ht _ => ⟨⟨0, G_2, rfl, (P_inchAt_1_mk ⟨hB_G_2, hF, ⟨r_1, G_2, hX_5, (Or.inl ⟨c_7, ⟨rfl, rfl⟩⟩)⟩⟩), wd_t ht hW⟩, hS.F ht⟩) hS.2.2 dX6_inchAt_25
  · have c_7 : r_1.toInt ≠ 0 := xI_ne rfl rfl c_7
    refine lv_aload_n hx hb dX6_inchAt_9 rfl (lv_at hl 0 rfl) ?_
    refine S_getR (n := 11) (C := RX6) (T := TX6) (N := 17) hx hb hg iX6 hown hK hW kd_1 rfl 1 (lt_b rfl) (hg (Cond.fieldLink RX6 15 "SlabWalk$Paving" "inches" "[I") m161) (fun _ h9 => h9) rfl dX6_inchAt_10 ?_
    refine lv_iload_n hx hb dX6_inchAt_13 rfl (lv_at hl 1 rfl) ?_
    refine lv_sipush (v := 400) hx hb dX6_inchAt_14 (by decide) ?_
    refine lv_imul hx hb dX6_inchAt_17 ?_
    refine lv_topi (fun y_8 ey_8 => ?_)
    have ty_8 : y_8.toInt = p0.toInt * 400 := xI_mul rfl rfl ey_8 ((by first | exact ok_9 f_6.1 f_6.2 hp_4 c_7 | omega)) ((by first | exact ok_10 f_6.1 f_6.2 hp_4 c_7 | omega))
    refine lv_iload_n hx hb dX6_inchAt_18 rfl (lv_at hl 2 rfl) ?_
    refine lv_iadd hx hb dX6_inchAt_19 ?_
    refine lv_topi (fun y_9 ey_9 => ?_)
    have ty_9 : y_9.toInt = y_8.toInt + p1.toInt := xI_add rfl rfl ey_9 ((by first | exact ok_11 f_6.1 f_6.2 hp_4 c_7 ty_8 | omega)) ((by first | exact ok_12 f_6.1 f_6.2 hp_4 c_7 ty_8 | omega))
    refine S_iald hx hb hK hW kd_11 (vin ((by first | exact ok_13 f_6.1 f_6.2 hp_4 c_7 ty_8 ty_9 | omega)) ((by first | exact ok_14 f_6.1 f_6.2 hp_4 c_7 ty_8 ty_9 | omega))) dX6_inchAt_20 (fun y_10 ey_10 => ?_)
    refine lv_goto (tgt := 25) hx hb dX6_inchAt_21 rfl ?_
    exact W.iret (v := y_10) hx hb hr (fun t ht _ => ⟨⟨y_10, G_2, rfl, (P_inchAt_1_mk ⟨hB_G_2, hF, ⟨r_1, G_2, hX_5, (Or.inr ⟨c_7, ⟨y_8, ty_8, ⟨y_9, ty_9, ⟨y_10, ey_10, ⟨rfl, rfl⟩⟩⟩⟩⟩)⟩⟩), wd_t ht hW⟩, hS.F ht⟩) hS.2.2 dX6_inchAt_25

set_option maxHeartbeats 4000000 in
set_option maxRecDepth 100000 in
theorem k_allSlips_1 (l : Launch) (D : va_G) (k : KT) (A : Nat → Prop) (a : Nat → Nat) (z : SK) (G : GS)   : Met l yX6_allSlips (WS yX6_allSlips cX6_allSlips 1 (some .int)) ({ frames := 0, cells := 0, slots := 0, locals := 0 }) (va_Pc [.ref (a 1)] (cW D k A a z G)) (va_Qi (fun (r : Int32) (G1 : GS) => P_allSlips_1 G r G1) (fun (G1 : GS) t => Wd D k A a G1 t.heap) A) 0 0 A := by
  refine Met.ofW (cc := cX6_allSlips) (maxL := 1) (ret := (some .int)) (by decide) rfl ?_
  intro p e s m args below meth c s₁ B hml hv
  obtain ⟨rfl, hW, hB_G, hK, hZ⟩ := hv
  have hx := B.exec
  have hb := B.bytes
  have hr := B.returns
  have hts := atoms_spec (ws := WS yX6_allSlips cX6_allSlips 1 (some .int)) B.pre
  have hgd : ∀ w ∈ gd, w ∈ WS yX6_allSlips cX6_allSlips 1 (some .int) := fun w h => List.mem_cons_of_mem _ h
  have hg : ∀ w ∈ gd, w.before _ s = true := fun w h => hts w (hgd w h)
  have hown : s.vm.findClass RX6 = some m.cls := findClass_of_methodNamed B.named
  have hS : va_S A s.heap s.heap [] := va_S.rf
  have hF : Fr [] [] G G := Fr.rf
  have hl := lv_entry ([.ref (a 1)]) (n := 1) (Nat.le_of_ble_eq_true rfl)
  rw [lg_entry_eq]
  generalize (lg_sl ([.ref (a 1)]) ++ List.replicate (1 - (lg_sl ([.ref (a 1)])).length) Slot.unset).toArray = ls at hl ⊢
  have hl : lv_has ls 1 [(0, .ref (a 1))] := hl
  refine lv_aload_n hx hb dX6_allSlips_0 rfl (lv_at hl 0 rfl) ?_
  refine S_getR (n := 16) (C := RX6) (T := TX6) (N := 17) hx hb hg iX6 hown hK hW kd_1 rfl 6 (lt_b rfl) (hg (Cond.fieldLink RX6 30 "SlabWalk$Paving" "slip" "[I") m178) (fun _ h9 => h9) rfl dX6_allSlips_1 ?_
  refine ic_0 hx hb dX6_allSlips_4 ?_
  refine S_iald hx hb hK hW kd_16 (vin (by decide) (by decide)) dX6_allSlips_5 (fun y_1 ey_1 => ?_)
  have ty_1 : 0 ≤ y_1.toInt ∧ y_1.toInt ≤ 9 := bv_16 hB_G ey_1
  refine lv_aload_n hx hb dX6_allSlips_6 rfl (lv_at hl 0 rfl) ?_
  refine S_getR (n := 16) (C := RX6) (T := TX6) (N := 17) hx hb hg iX6 hown hK hW kd_1 rfl 6 (lt_b rfl) (hg (Cond.fieldLink RX6 30 "SlabWalk$Paving" "slip" "[I") m178) (fun _ h9 => h9) rfl dX6_allSlips_7 ?_
  refine ic_1 hx hb dX6_allSlips_10 ?_
  refine S_iald hx hb hK hW kd_16 (vin (by decide) (by decide)) dX6_allSlips_11 (fun y_2 ey_2 => ?_)
  have ty_2 : 0 ≤ y_2.toInt ∧ y_2.toInt ≤ 9 := bv_16 hB_G ey_2
  refine lv_iadd hx hb dX6_allSlips_12 ?_
  refine lv_topi (fun y_3 ey_3 => ?_)
  have ty_3 : y_3.toInt = y_1.toInt + y_2.toInt := xI_add rfl rfl ey_3 ((by first | exact ok_15 ty_1.1 ty_2.1 | omega)) ((by first | exact ok_16 ty_1.2 ty_2.2 | omega))
  refine lv_aload_n hx hb dX6_allSlips_13 rfl (lv_at hl 0 rfl) ?_
  refine S_getR (n := 16) (C := RX6) (T := TX6) (N := 17) hx hb hg iX6 hown hK hW kd_1 rfl 6 (lt_b rfl) (hg (Cond.fieldLink RX6 30 "SlabWalk$Paving" "slip" "[I") m178) (fun _ h9 => h9) rfl dX6_allSlips_14 ?_
  refine ic_2 hx hb dX6_allSlips_17 ?_
  refine S_iald hx hb hK hW kd_16 (vin (by decide) (by decide)) dX6_allSlips_18 (fun y_4 ey_4 => ?_)
  have ty_4 : 0 ≤ y_4.toInt ∧ y_4.toInt ≤ 9 := bv_16 hB_G ey_4
  refine lv_iadd hx hb dX6_allSlips_19 ?_
  refine lv_topi (fun y_5 ey_5 => ?_)
  have ty_5 : y_5.toInt = y_3.toInt + y_4.toInt := xI_add rfl rfl ey_5 ((by first | exact ok_17 ty_1.1 ty_2.1 ty_3 ty_4.1 | omega)) ((by first | exact ok_18 ty_1.2 ty_2.2 ty_3 ty_4.2 | omega))
  exact W.iret (v := y_5) hx hb hr (fun t ht _ => ⟨⟨y_5, G, rfl, (P_allSlips_1_mk ⟨hB_G, hF, ⟨(by first | exact ok_19 ty_1.1 ty_2.1 ty_3 ty_4.1 ty_5 | omega), (by first | exact ok_20 ty_1.2 ty_2.2 ty_3 ty_4.2 ty_5 | omega)⟩, ⟨y_1, ey_1, ⟨y_2, ey_2, ⟨y_3, ty_3, ⟨y_4, ey_4, ⟨y_5, ty_5, ⟨rfl, rfl⟩⟩⟩⟩⟩⟩⟩), wd_t ht hW⟩, hS.F ht⟩) hS.2.2 dX6_allSlips_20

set_option maxHeartbeats 4000000 in
set_option maxRecDepth 100000 in
theorem k_slipBy_1 (l : Launch) (D : va_G) (k : KT) (A : Nat → Prop) (a : Nat → Nat) (z : SK) (G : GS) (p0 : Int32)  : Met l yX6_slipBy (WS yX6_slipBy cX6_slipBy 4 (some .int)) ({ frames := 1, cells := 0, slots := 0, locals := 20 }) (va_Pc [.ref (a 1), .int p0] (cW D k A a z G)) (va_Qi (fun (r : Int32) (G1 : GS) => P_slipBy_1 p0 G r G1) (fun (G1 : GS) t => Wd D k A a G1 t.heap) A) 0 0 A := by
  refine Met.ofW (cc := cX6_slipBy) (maxL := 4) (ret := (some .int)) (by decide) rfl ?_
  intro p e s m args below meth c s₁ B hml hv
  obtain ⟨rfl, hW, hB_G, hK, hZ⟩ := hv
  have hx := B.exec
  have hb := B.bytes
  have hr := B.returns
  have hts := atoms_spec (ws := WS yX6_slipBy cX6_slipBy 4 (some .int)) B.pre
  have hgd : ∀ w ∈ gd, w ∈ WS yX6_slipBy cX6_slipBy 4 (some .int) := fun w h => List.mem_cons_of_mem _ h
  have hg : ∀ w ∈ gd, w.before _ s = true := fun w h => hts w (hgd w h)
  have hown : s.vm.findClass RX6 = some m.cls := findClass_of_methodNamed B.named
  have hS : va_S A s.heap s.heap [] := va_S.rf
  have hF : Fr [] [] G G := Fr.rf
  have hl := lv_entry ([.ref (a 1), .int p0]) (n := 4) (Nat.le_of_ble_eq_true rfl)
  rw [lg_entry_eq]
  generalize (lg_sl ([.ref (a 1), .int p0]) ++ List.replicate (4 - (lg_sl ([.ref (a 1), .int p0])).length) Slot.unset).toArray = ls at hl ⊢
  have hl : lv_has ls 4 [(0, .ref (a 1)), (1, .int p0)] := hl
  refine lv_aload_n hx hb dX6_slipBy_0 rfl (lv_at hl 0 rfl) ?_
  refine S_calli (va_runV (As := []) (rest := []) ⟨hx, hb, hml, hown, hts⟩ (k_allSlips_1 l D k A a z G  ) (cwV 0 hts (gd_V hgd m1198 m1199 m1200 m118 m1201) rfl rfl rfl hd_X6_allSlips ⟨Nat.le_of_ble_eq_true rfl, Nat.le_of_ble_eq_true rfl⟩) (pre_W hW hB_G hK hZ hS kd_1 rfl) rfl rfl hl.1 rfl (lv_room (Nat.le_of_ble_eq_true rfl)) dX6_slipBy_1 ⟨Nat.le_of_ble_eq_true rfl, Nat.le_of_ble_eq_true rfl⟩) hS (fun r_1 G_2 H locs hpo hW hS => ?_)
  have hX_5 : P_allSlips_1 G r_1 G_2 := hpo
  obtain ⟨hB_G_2, hq_3, f_6, -⟩ := hpo
  have hF := hF.call9 hq_3 rfl rfl
  refine lv_istore_n (lv' := [(2, .int r_1), (0, .ref (a 1)), (1, .int p0)]) hx hb dX6_slipBy_4 rfl hl (lt_b rfl) rfl (fun ls hl => ?_)
  refine lv_iload_n hx hb dX6_slipBy_5 rfl (lv_at hl 0 rfl) ?_
  refine W.cut (σ := Int32) (pcJ := 16) (J := fun y H locs ls => ∃ (G_9 : GS), Jn_k_slipBy_1_1 p0 r_1 G_2 y G_9 ∧ Wd D k A a G_9 H ∧ Bd G_9 ∧ Fr [] [] G G_9 ∧ Fr [] [] G_2 G_9 ∧ va_S A s.heap H locs ∧ lv_has ls 4 [(0, .ref (a 1))]) (stJ := fun y => [.int y]) ?_ (fun hJ_10 => ?_)
  · intro y H locs ls hI
    obtain ⟨w_8, hy⟩ : ∃ q, q = y := ⟨_, rfl⟩
    subst hy
    obtain ⟨G_9, hX_12, hW, hB_G_9, hF, hq_11, hS, hl⟩ := hI
    refine lv_istore_n (lv' := [(3, .int w_8), (0, .ref (a 1))]) hx hb dX6_slipBy_16 rfl hl (lt_b rfl) rfl (fun ls hl => ?_)
    refine lv_iload_n hx hb dX6_slipBy_17 rfl (lv_at hl 0 rfl) ?_
    refine lv_aload_n hx hb dX6_slipBy_18 rfl (lv_at hl 1 rfl) ?_
    refine S_getR (n := 16) (C := RX6) (T := TX6) (N := 17) hx hb hg iX6 hown hK hW kd_1 rfl 6 (lt_b rfl) (hg (Cond.fieldLink RX6 30 "SlabWalk$Paving" "slip" "[I") m178) (fun _ h9 => h9) rfl dX6_slipBy_19 ?_
    refine ic_0 hx hb dX6_slipBy_22 ?_
    refine S_iald hx hb hK hW kd_16 (vin (by decide) (by decide)) dX6_slipBy_23 (fun y_13 ey_13 => ?_)
    have ty_13 : 0 ≤ y_13.toInt ∧ y_13.toInt ≤ 9 := bv_16 hB_G_9 ey_13
    refine lv_icmp_ge (tgt := 31) hx hb dX6_slipBy_24 rfl (fun c_14 => ?_) (fun c_14 => ?_)
    · have c_14 : y_13.toInt ≤ w_8.toInt := xI_le rfl rfl c_14
      refine lv_iload_n hx hb dX6_slipBy_31 rfl (lv_at hl 0 rfl) ?_
      refine lv_aload_n hx hb dX6_slipBy_32 rfl (lv_at hl 1 rfl) ?_
      refine S_getR (n := 16) (C := RX6) (T := TX6) (N := 17) hx hb hg iX6 hown hK hW kd_1 rfl 6 (lt_b rfl) (hg (Cond.fieldLink RX6 30 "SlabWalk$Paving" "slip" "[I") m178) (fun _ h9 => h9) rfl dX6_slipBy_33 ?_
      refine ic_0 hx hb dX6_slipBy_36 ?_
      refine S_iald hx hb hK hW kd_16 (vin (by decide) (by decide)) dX6_slipBy_37 (fun y_15 ey_15 => ?_)
      have ty_15 : 0 ≤ y_15.toInt ∧ y_15.toInt ≤ 9 := bv_16 hB_G_9 ey_15
      refine lv_aload_n hx hb dX6_slipBy_38 rfl (lv_at hl 1 rfl) ?_
      refine S_getR (n := 16) (C := RX6) (T := TX6) (N := 17) hx hb hg iX6 hown hK hW kd_1 rfl 6 (lt_b rfl) (hg (Cond.fieldLink RX6 30 "SlabWalk$Paving" "slip" "[I") m178) (fun _ h9 => h9) rfl dX6_slipBy_39 ?_
      refine ic_1 hx hb dX6_slipBy_42 ?_
      refine S_iald hx hb hK hW kd_16 (vin (by decide) (by decide)) dX6_slipBy_43 (fun y_16 ey_16 => ?_)
      have ty_16 : 0 ≤ y_16.toInt ∧ y_16.toInt ≤ 9 := bv_16 hB_G_9 ey_16
      refine lv_iadd hx hb dX6_slipBy_44 ?_
      refine lv_topi (fun y_17 ey_17 => ?_)
      have ty_17 : y_17.toInt = y_15.toInt + y_16.toInt := xI_add rfl rfl ey_17 ((by first | exact ok_15 ty_15.1 ty_16.1 | omega)) ((by first | exact ok_16 ty_15.2 ty_16.2 | omega))
      refine lv_icmp_ge (tgt := 52) hx hb dX6_slipBy_45 rfl (fun c_18 => ?_) (fun c_18 => ?_)
      · have c_18 : y_17.toInt ≤ w_8.toInt := xI_le rfl rfl c_18
        refine ic_1 hx hb dX6_slipBy_52 ?_
        exact W.iret (v := 1) hx hb hr (fun t ht _ => ⟨⟨1, G_9, rfl, (P_slipBy_1_mk ⟨hB_G_9, hF, ⟨by decide, by decide⟩, ⟨r_1, G_2, hX_5, ⟨w_8, G_9, hX_12, hB_G_9, hq_11, ⟨y_13, ey_13, (Or.inl ⟨c_14, ⟨y_15, ey_15, ⟨y_16, ey_16, ⟨y_17, ty_17, (Or.inl ⟨c_18, ⟨rfl, rfl⟩⟩)⟩⟩⟩⟩)⟩⟩⟩⟩), wd_t ht hW⟩, hS.F ht⟩) hS.2.2 dX6_slipBy_53
      · have c_18 : w_8.toInt < y_17.toInt := xI_nle rfl rfl c_18
        refine ic_0 hx hb dX6_slipBy_48 ?_
        refine lv_goto (tgt := 53) hx hb dX6_slipBy_49 rfl ?_
        exact W.iret (v := 0) hx hb hr (fun t ht _ => ⟨⟨0, G_9, rfl, (P_slipBy_1_mk ⟨hB_G_9, hF, ⟨by decide, by decide⟩, ⟨r_1, G_2, hX_5, ⟨w_8, G_9, hX_12, hB_G_9, hq_11, ⟨y_13, ey_13, (Or.inl ⟨c_14, ⟨y_15, ey_15, ⟨y_16, ey_16, ⟨y_17, ty_17, (Or.inr ⟨c_18, ⟨rfl, rfl⟩⟩)⟩⟩⟩⟩)⟩⟩⟩⟩), wd_t ht hW⟩, hS.F ht⟩) hS.2.2 dX6_slipBy_53
    · have c_14 : w_8.toInt < y_13.toInt := xI_nle rfl rfl c_14
      refine ic_m1 hx hb dX6_slipBy_27 ?_
      refine lv_goto (tgt := 53) hx hb dX6_slipBy_28 rfl ?_
      exact W.iret (v := (-1)) hx hb hr (fun t ht _ => ⟨⟨(-1), G_9, rfl, (P_slipBy_1_mk ⟨hB_G_9, hF, ⟨by decide, by decide⟩, ⟨r_1, G_2, hX_5, ⟨w_8, G_9, hX_12, hB_G_9, hq_11, ⟨y_13, ey_13, (Or.inr ⟨c_14, ⟨rfl, rfl⟩⟩)⟩⟩⟩⟩), wd_t ht hW⟩, hS.F ht⟩) hS.2.2 dX6_slipBy_53
  refine lv_if_ne (tgt := 13) hx hb dX6_slipBy_6 rfl (fun c_19 => ?_) (fun c_19 => ?_)
  · have c_19 : r_1.toInt ≠ 0 := xI_ne rfl rfl c_19
    refine lv_iload_n hx hb dX6_slipBy_13 rfl (lv_at hl 2 rfl) ?_
    refine lv_iload_n hx hb dX6_slipBy_14 rfl (lv_at hl 0 rfl) ?_
    refine lv_irem hx hb dX6_slipBy_15 (fun q => by have q := xI_eq (Y := 0) rfl rfl q; omega) ?_
    refine lv_topi (fun y_20 ey_20 => ?_)
    exact hJ_10 y_20 _ _ _ ⟨G_2, (Jn_k_slipBy_1_1_mk (Or.inr ⟨c_19, ⟨y_20, ey_20, ⟨rfl, rfl⟩⟩⟩)), hW, hB_G_2, hF, (Fr.rf (rs := []) (fs := [])), hS, lv_sub hl [1] rfl⟩
  · have c_19 : r_1.toInt = 0 := xI_eq rfl rfl c_19
    refine ic_0 hx hb dX6_slipBy_9 ?_
    refine lv_goto (tgt := 16) hx hb dX6_slipBy_10 rfl ?_
    have qc_21 : (0 : Int32).toInt = 0 := rfl
    exact hJ_10 0 _ _ _ ⟨G_2, (Jn_k_slipBy_1_1_mk (Or.inl ⟨c_19, ⟨rfl, rfl⟩⟩)), hW, hB_G_2, hF, (Fr.rf (rs := []) (fs := [])), hS, lv_sub hl [1] rfl⟩

set_option maxHeartbeats 4000000 in
set_option maxRecDepth 100000 in
theorem k_emit_1 (l : Launch) (D : va_G) (k : KT) (A : Nat → Prop) (a : Nat → Nat) (z : SK) (G : GS) (p0 : Int32) (p1 : Int32)  : Met l yX6_emit (WS yX6_emit cX6_emit 3 none) ({ frames := 0, cells := 0, slots := 0, locals := 0 }) (va_Pc [.ref (a 1), .int p0, .int p1] (cW D k A a z G)) (va_Qv (fun (G1 : GS) => P_emit_1 p0 p1 G G1) (fun (G1 : GS) t => Wd D k A a G1 t.heap) A) 0 0 A := by
  refine Met.ofW (cc := cX6_emit) (maxL := 3) (ret := none) (by decide) rfl ?_
  intro p e s m args below meth c s₁ B hml hv
  obtain ⟨rfl, hW, hB_G, hK, hZ⟩ := hv
  have hx := B.exec
  have hb := B.bytes
  have hr := B.returns
  have hts := atoms_spec (ws := WS yX6_emit cX6_emit 3 none) B.pre
  have hgd : ∀ w ∈ gd, w ∈ WS yX6_emit cX6_emit 3 none := fun w h => List.mem_cons_of_mem _ h
  have hg : ∀ w ∈ gd, w.before _ s = true := fun w h => hts w (hgd w h)
  have hown : s.vm.findClass RX6 = some m.cls := findClass_of_methodNamed B.named
  have hS : va_S A s.heap s.heap [] := va_S.rf
  have hF : Fr [17] [(1, 13)] G G := Fr.rf
  have hl := lv_entry ([.ref (a 1), .int p0, .int p1]) (n := 3) (Nat.le_of_ble_eq_true rfl)
  rw [lg_entry_eq]
  generalize (lg_sl ([.ref (a 1), .int p0, .int p1]) ++ List.replicate (3 - (lg_sl ([.ref (a 1), .int p0, .int p1])).length) Slot.unset).toArray = ls at hl ⊢
  have hl : lv_has ls 3 [(0, .ref (a 1)), (1, .int p0), (2, .int p1)] := hl
  refine lv_aload_n hx hb dX6_emit_0 rfl (lv_at hl 0 rfl) ?_
  have b_1 : 0 ≤ (G.1 1 13).toInt ∧ (G.1 1 13).toInt ≤ 580 := bd_1_13 hB_G
  refine S_getI (v := (G.1 1 13)) (C := RX6) (T := TX6) (N := 17) hx hb hg iX6 hown hK hW kd_1 rfl 13 (lt_b rfl) (hg (Cond.fieldLink RX6 55 "SlabWalk$Paving" "coded" "I") m199) (fun _ h9 => h9) rfl rfl dX6_emit_1 ?_
  refine lv_sipush (v := 580) hx hb dX6_emit_4 (by decide) ?_
  refine lv_icmp_ge (tgt := 32) hx hb dX6_emit_7 rfl (fun c_2 => ?_) (fun c_2 => ?_)
  · have c_2 : 580 ≤ (G.1 1 13).toInt := xI_le rfl rfl c_2
    exact W.vret hx hb hr (fun t ht _ => ⟨⟨G, rfl, (P_emit_1_mk ⟨hB_G, hF, (Or.inl ⟨c_2, rfl⟩)⟩), wd_t ht hW⟩, hS.F ht⟩) hS.2.2 dX6_emit_32
  · have c_2 : (G.1 1 13).toInt < 580 := xI_nle rfl rfl c_2
    refine lv_aload_n hx hb dX6_emit_10 rfl (lv_at hl 0 rfl) ?_
    refine S_getR (n := 17) (C := RX6) (T := TX6) (N := 17) hx hb hg iX6 hown hK hW kd_1 rfl 7 (lt_b rfl) (hg (Cond.fieldLink RX6 33 "SlabWalk$Paving" "code" "[I") m181) (fun _ h9 => h9) rfl dX6_emit_11 ?_
    refine lv_aload_n hx hb dX6_emit_14 rfl (lv_at hl 0 rfl) ?_
    refine lv_dup hx hb dX6_emit_15 rfl ?_
    refine S_getI (v := (G.1 1 13)) (C := RX6) (T := TX6) (N := 17) hx hb hg iX6 hown hK hW kd_1 rfl 13 (lt_b rfl) (hg (Cond.fieldLink RX6 55 "SlabWalk$Paving" "coded" "I") m199) (fun _ h9 => h9) rfl rfl dX6_emit_16 ?_
    refine lv_dup_x1 hx hb dX6_emit_19 rfl rfl ?_
    refine ic_1 hx hb dX6_emit_20 ?_
    refine lv_iadd hx hb dX6_emit_21 ?_
    refine lv_topi (fun y_3 ey_3 => ?_)
    have ty_3 : y_3.toInt = (G.1 1 13).toInt + 1 := xI_add rfl rfl ey_3 ((by first | exact ok_21 b_1.1 | omega)) ((by first | exact ok_22 b_1.2 | omega))
    refine S_putI (ty := .int) (C := RX6) (T := TX6) (N := 17) hx hb hg iX6 tyX6 tyX6_ok nmX6 hown hK hW hS kd_1 rfl 13 (lt_b rfl) (hg (Cond.fieldLink RX6 55 "SlabWalk$Paving" "coded" "I") m199) (fun _ h9 => h9) rfl (by decide +kernel) rfl rfl rfl dX6_emit_22 (fun G_4 H locs eG_4 hW hS => ?_)
    have hB_G_4 : Bd G_4 := hB_G.put (V := y_3.toInt) (lo := 0) (hi := 580) eG_4 rfl rfl rfl ((by first | exact ok_23 b_1.1 ty_3 | omega)) ((by first | exact ok_24 b_1.2 c_2 ty_3 | omega)) (hB_G.2.put eG_4 rfl)
    have hF := hF.put eG_4 (Or.inr (by decide))
    refine lv_iload_n hx hb dX6_emit_25 rfl (lv_at hl 1 rfl) ?_
    refine lv_iload_n hx hb dX6_emit_26 rfl (lv_at hl 2 rfl) ?_
    refine lv_bipush (v := 10) hx hb dX6_emit_27 (by decide) ?_
    refine lv_ishl hx hb dX6_emit_29 ?_
    refine lv_topi (fun y_5 ey_5 => ?_)
    refine lv_ior hx hb dX6_emit_30 ?_
    refine lv_topi (fun y_6 ey_6 => ?_)
    refine S_iast hx hb hK hW hS kd_17 (vin ((by first | exact b_1.1 | omega)) ((by first | exact ok_25 b_1.2 c_2 | omega))) dX6_emit_31 (fun G_7 H locs eG_7 hW hS => ?_)
    have hB_G_7 : Bd G_7 := hB_G_4.put (lo := (-2147483648)) (hi := 2147483647) eG_7 rfl rfl rfl (tI_rng _).1 (tI_rng _).2 (hB_G_4.2.put eG_7 rfl)
    have hF := hF.put eG_7 (Or.inl (by decide))
    exact W.vret hx hb hr (fun t ht _ => ⟨⟨G_7, rfl, (P_emit_1_mk ⟨hB_G_7, hF, (Or.inr ⟨c_2, ⟨y_3, ty_3, ⟨y_5, ey_5, ⟨y_6, ey_6, ⟨(Fr.put (rs := [17]) (fs := [(1, 13)]) (Fr.put (rs := [17]) (fs := [(1, 13)]) Fr.rf eG_4 (Or.inr (by decide))) eG_7 (Or.inl (by decide))), ((gp_ne eG_7 (fun q => absurd q.1 (Nat.ne_of_beq_eq_false rfl))).trans (gp_eq eG_4)), (rw_ast eG_7).trans (congrArg (fun q => upd q ((G.1 1 13).toNatClampNeg) y_6) (rw_put eG_4 (by decide)))⟩⟩⟩⟩⟩)⟩), wd_t ht hW⟩, hS.F ht⟩) hS.2.2 dX6_emit_32

set_option maxHeartbeats 4000000 in
set_option maxRecDepth 100000 in
theorem k_empty_1 (l : Launch) (D : va_G) (k : KT) (A : Nat → Prop) (a : Nat → Nat) (z : SK) (G : GS)   : Met l yX6_empty (WS yX6_empty cX6_empty 1 none) ({ frames := 0, cells := 0, slots := 0, locals := 0 }) (va_Pc [.ref (a 1)] (cW D k A a z G)) (va_Qv (fun (G1 : GS) => P_empty_1 G G1) (fun (G1 : GS) t => Wd D k A a G1 t.heap) A) 0 0 A := by
  refine Met.ofW (cc := cX6_empty) (maxL := 1) (ret := none) (by decide) rfl ?_
  intro p e s m args below meth c s₁ B hml hv
  obtain ⟨rfl, hW, hB_G, hK, hZ⟩ := hv
  have hx := B.exec
  have hb := B.bytes
  have hr := B.returns
  have hts := atoms_spec (ws := WS yX6_empty cX6_empty 1 none) B.pre
  have hgd : ∀ w ∈ gd, w ∈ WS yX6_empty cX6_empty 1 none := fun w h => List.mem_cons_of_mem _ h
  have hg : ∀ w ∈ gd, w.before _ s = true := fun w h => hts w (hgd w h)
  have hown : s.vm.findClass RX6 = some m.cls := findClass_of_methodNamed B.named
  have hS : va_S A s.heap s.heap [] := va_S.rf
  have hF : Fr [16] [(1, 9), (1, 10), (1, 11), (1, 12), (1, 13), (1, 14), (1, 15), (1, 16)] G G := Fr.rf
  have hl := lv_entry ([.ref (a 1)]) (n := 1) (Nat.le_of_ble_eq_true rfl)
  rw [lg_entry_eq]
  generalize (lg_sl ([.ref (a 1)]) ++ List.replicate (1 - (lg_sl ([.ref (a 1)])).length) Slot.unset).toArray = ls at hl ⊢
  have hl : lv_has ls 1 [(0, .ref (a 1))] := hl
  refine lv_aload_n hx hb dX6_empty_0 rfl (lv_at hl 0 rfl) ?_
  refine ic_0 hx hb dX6_empty_1 ?_
  refine S_putI (ty := .int) (C := RX6) (T := TX6) (N := 17) hx hb hg iX6 tyX6 tyX6_ok nmX6 hown hK hW hS kd_1 rfl 9 (lt_b rfl) (hg (Cond.fieldLink RX6 42 "SlabWalk$Paving" "streets" "I") m186) (fun _ h9 => h9) rfl (by decide +kernel) rfl rfl rfl dX6_empty_2 (fun G_1 H locs eG_1 hW hS => ?_)
  have hB_G_1 : Bd G_1 := hB_G.put (V := 0) (lo := 0) (hi := 3) eG_1 rfl rfl rfl (by decide) (by decide) (hB_G.2.put eG_1 rfl)
  have hF := hF.put eG_1 (Or.inr (by decide))
  refine lv_aload_n hx hb dX6_empty_5 rfl (lv_at hl 0 rfl) ?_
  refine ic_0 hx hb dX6_empty_6 ?_
  refine S_putI (ty := .int) (C := RX6) (T := TX6) (N := 17) hx hb hg iX6 tyX6 tyX6_ok nmX6 hown hK hW hS kd_1 rfl 10 (lt_b rfl) (hg (Cond.fieldLink RX6 46 "SlabWalk$Paving" "walkers" "I") m189) (fun _ h9 => h9) rfl (by decide +kernel) rfl rfl rfl dX6_empty_7 (fun G_2 H locs eG_2 hW hS => ?_)
  have hB_G_2 : Bd G_2 := hB_G_1.put (V := 0) (lo := 0) (hi := 4) eG_2 rfl rfl rfl (by decide) (by decide) (hB_G_1.2.walkers (P := 1) eG_2 (by decide) (fun w hw => by have : (0 : Int32).toInt = 0 := rfl; omega))
  have hF := hF.put eG_2 (Or.inr (by decide))
  refine lv_aload_n hx hb dX6_empty_10 rfl (lv_at hl 0 rfl) ?_
  refine ic_0 hx hb dX6_empty_11 ?_
  refine S_putI (ty := .int) (C := RX6) (T := TX6) (N := 17) hx hb hg iX6 tyX6 tyX6_ok nmX6 hown hK hW hS kd_1 rfl 11 (lt_b rfl) (hg (Cond.fieldLink RX6 49 "SlabWalk$Paving" "rules" "I") m192) (fun _ h9 => h9) rfl (by decide +kernel) rfl rfl rfl dX6_empty_12 (fun G_3 H locs eG_3 hW hS => ?_)
  have hB_G_3 : Bd G_3 := hB_G_2.put (V := 0) (lo := 0) (hi := 6) eG_3 rfl rfl rfl (by decide) (by decide) (hB_G_2.2.put eG_3 rfl)
  have hF := hF.put eG_3 (Or.inr (by decide))
  refine lv_aload_n hx hb dX6_empty_15 rfl (lv_at hl 0 rfl) ?_
  refine ic_0 hx hb dX6_empty_16 ?_
  refine S_putI (ty := .int) (C := RX6) (T := TX6) (N := 17) hx hb hg iX6 tyX6 tyX6_ok nmX6 hown hK hW hS kd_1 rfl 12 (lt_b rfl) (hg (Cond.fieldLink RX6 52 "SlabWalk$Paving" "units" "I") m196) (fun _ h9 => h9) rfl (by decide +kernel) rfl rfl rfl dX6_empty_17 (fun G_4 H locs eG_4 hW hS => ?_)
  have hB_G_4 : Bd G_4 := hB_G_3.put (V := 0) (lo := 0) (hi := 90) eG_4 rfl rfl rfl (by decide) (by decide) (hB_G_3.2.put eG_4 rfl)
  have hF := hF.put eG_4 (Or.inr (by decide))
  refine lv_aload_n hx hb dX6_empty_20 rfl (lv_at hl 0 rfl) ?_
  refine ic_0 hx hb dX6_empty_21 ?_
  refine S_putI (ty := .int) (C := RX6) (T := TX6) (N := 17) hx hb hg iX6 tyX6 tyX6_ok nmX6 hown hK hW hS kd_1 rfl 13 (lt_b rfl) (hg (Cond.fieldLink RX6 55 "SlabWalk$Paving" "coded" "I") m199) (fun _ h9 => h9) rfl (by decide +kernel) rfl rfl rfl dX6_empty_22 (fun G_5 H locs eG_5 hW hS => ?_)
  have hB_G_5 : Bd G_5 := hB_G_4.put (V := 0) (lo := 0) (hi := 580) eG_5 rfl rfl rfl (by decide) (by decide) (hB_G_4.2.put eG_5 rfl)
  have hF := hF.put eG_5 (Or.inr (by decide))
  refine lv_aload_n hx hb dX6_empty_25 rfl (lv_at hl 0 rfl) ?_
  refine lv_bipush (v := 30) hx hb dX6_empty_26 (by decide) ?_
  refine S_putI (ty := .int) (C := RX6) (T := TX6) (N := 17) hx hb hg iX6 tyX6 tyX6_ok nmX6 hown hK hW hS kd_1 rfl 14 (lt_b rfl) (hg (Cond.fieldLink RX6 58 "SlabWalk$Paving" "hand" "I") m201) (fun _ h9 => h9) rfl (by decide +kernel) rfl rfl rfl dX6_empty_28 (fun G_6 H locs eG_6 hW hS => ?_)
  have hB_G_6 : Bd G_6 := hB_G_5.put (V := 30) (lo := 0) (hi := 99) eG_6 rfl rfl rfl (by decide) (by decide) (hB_G_5.2.put eG_6 rfl)
  have hF := hF.put eG_6 (Or.inr (by decide))
  refine lv_aload_n hx hb dX6_empty_31 rfl (lv_at hl 0 rfl) ?_
  refine lv_bipush (v := 10) hx hb dX6_empty_32 (by decide) ?_
  refine S_putI (ty := .int) (C := RX6) (T := TX6) (N := 17) hx hb hg iX6 tyX6 tyX6_ok nmX6 hown hK hW hS kd_1 rfl 15 (lt_b rfl) (hg (Cond.fieldLink RX6 61 "SlabWalk$Paving" "slack" "I") m204) (fun _ h9 => h9) rfl (by decide +kernel) rfl rfl rfl dX6_empty_34 (fun G_7 H locs eG_7 hW hS => ?_)
  have hB_G_7 : Bd G_7 := hB_G_6.put (V := 10) (lo := 0) (hi := 99) eG_7 rfl rfl rfl (by decide) (by decide) (hB_G_6.2.put eG_7 rfl)
  have hF := hF.put eG_7 (Or.inr (by decide))
  refine lv_aload_n hx hb dX6_empty_37 rfl (lv_at hl 0 rfl) ?_
  refine ic_0 hx hb dX6_empty_38 ?_
  refine S_putI (ty := .int) (C := RX6) (T := TX6) (N := 17) hx hb hg iX6 tyX6 tyX6_ok nmX6 hown hK hW hS kd_1 rfl 16 (lt_b rfl) (hg (Cond.fieldLink RX6 64 "SlabWalk$Paving" "draw" "I") m207) (fun _ h9 => h9) rfl (by decide +kernel) rfl rfl rfl dX6_empty_39 (fun G_8 H locs eG_8 hW hS => ?_)
  have hB_G_8 : Bd G_8 := hB_G_7.put (V := 0) (lo := 0) (hi := 999) eG_8 rfl rfl rfl (by decide) (by decide) (hB_G_7.2.put eG_8 rfl)
  have hF := hF.put eG_8 (Or.inr (by decide))
  refine lv_aload_n hx hb dX6_empty_42 rfl (lv_at hl 0 rfl) ?_
  refine S_getR (n := 16) (C := RX6) (T := TX6) (N := 17) hx hb hg iX6 hown hK hW kd_1 rfl 6 (lt_b rfl) (hg (Cond.fieldLink RX6 30 "SlabWalk$Paving" "slip" "[I") m178) (fun _ h9 => h9) rfl dX6_empty_43 ?_
  refine ic_0 hx hb dX6_empty_46 ?_
  refine ic_0 hx hb dX6_empty_47 ?_
  refine S_iast hx hb hK hW hS kd_16 (vin (by decide) (by decide)) dX6_empty_48 (fun G_9 H locs eG_9 hW hS => ?_)
  have hB_G_9 : Bd G_9 := hB_G_8.put (V := 0) (lo := 0) (hi := 9) eG_9 rfl rfl rfl (by decide) (by decide) (hB_G_8.2.put eG_9 rfl)
  have hF := hF.put eG_9 (Or.inl (by decide))
  refine lv_aload_n hx hb dX6_empty_49 rfl (lv_at hl 0 rfl) ?_
  refine S_getR (n := 16) (C := RX6) (T := TX6) (N := 17) hx hb hg iX6 hown hK hW kd_1 rfl 6 (lt_b rfl) (hg (Cond.fieldLink RX6 30 "SlabWalk$Paving" "slip" "[I") m178) (fun _ h9 => h9) rfl dX6_empty_50 ?_
  refine ic_1 hx hb dX6_empty_53 ?_
  refine ic_1 hx hb dX6_empty_54 ?_
  refine S_iast hx hb hK hW hS kd_16 (vin (by decide) (by decide)) dX6_empty_55 (fun G_10 H locs eG_10 hW hS => ?_)
  have hB_G_10 : Bd G_10 := hB_G_9.put (V := 1) (lo := 0) (hi := 9) eG_10 rfl rfl rfl (by decide) (by decide) (hB_G_9.2.put eG_10 rfl)
  have hF := hF.put eG_10 (Or.inl (by decide))
  refine lv_aload_n hx hb dX6_empty_56 rfl (lv_at hl 0 rfl) ?_
  refine S_getR (n := 16) (C := RX6) (T := TX6) (N := 17) hx hb hg iX6 hown hK hW kd_1 rfl 6 (lt_b rfl) (hg (Cond.fieldLink RX6 30 "SlabWalk$Paving" "slip" "[I") m178) (fun _ h9 => h9) rfl dX6_empty_57 ?_
  refine ic_2 hx hb dX6_empty_60 ?_
  refine ic_0 hx hb dX6_empty_61 ?_
  refine S_iast hx hb hK hW hS kd_16 (vin (by decide) (by decide)) dX6_empty_62 (fun G_11 H locs eG_11 hW hS => ?_)
  have hB_G_11 : Bd G_11 := hB_G_10.put (V := 0) (lo := 0) (hi := 9) eG_11 rfl rfl rfl (by decide) (by decide) (hB_G_10.2.put eG_11 rfl)
  have hF := hF.put eG_11 (Or.inl (by decide))
  exact W.vret hx hb hr (fun t ht _ => ⟨⟨G_11, rfl, (P_empty_1_mk ⟨hB_G_11, hF, ⟨(Fr.put (rs := [16]) (fs := [(1, 9), (1, 10), (1, 11), (1, 12), (1, 13), (1, 14), (1, 15), (1, 16)]) (Fr.put (rs := [16]) (fs := [(1, 9), (1, 10), (1, 11), (1, 12), (1, 13), (1, 14), (1, 15), (1, 16)]) (Fr.put (rs := [16]) (fs := [(1, 9), (1, 10), (1, 11), (1, 12), (1, 13), (1, 14), (1, 15), (1, 16)]) (Fr.put (rs := [16]) (fs := [(1, 9), (1, 10), (1, 11), (1, 12), (1, 13), (1, 14), (1, 15), (1, 16)]) (Fr.put (rs := [16]) (fs := [(1, 9), (1, 10), (1, 11), (1, 12), (1, 13), (1, 14), (1, 15), (1, 16)]) (Fr.put (rs := [16]) (fs := [(1, 9), (1, 10), (1, 11), (1, 12), (1, 13), (1, 14), (1, 15), (1, 16)]) (Fr.put (rs := [16]) (fs := [(1, 9), (1, 10), (1, 11), (1, 12), (1, 13), (1, 14), (1, 15), (1, 16)]) (Fr.put (rs := [16]) (fs := [(1, 9), (1, 10), (1, 11), (1, 12), (1, 13), (1, 14), (1, 15), (1, 16)]) (Fr.put (rs := [16]) (fs := [(1, 9), (1, 10), (1, 11), (1, 12), (1, 13), (1, 14), (1, 15), (1, 16)]) (Fr.put (rs := [16]) (fs := [(1, 9), (1, 10), (1, 11), (1, 12), (1, 13), (1, 14), (1, 15), (1, 16)]) (Fr.put (rs := [16]) (fs := [(1, 9), (1, 10), (1, 11), (1, 12), (1, 13), (1, 14), (1, 15), (1, 16)]) Fr.rf eG_1 (Or.inr (by decide))) eG_2 (Or.inr (by decide))) eG_3 (Or.inr (by decide))) eG_4 (Or.inr (by decide))) eG_5 (Or.inr (by decide))) eG_6 (Or.inr (by decide))) eG_7 (Or.inr (by decide))) eG_8 (Or.inr (by decide))) eG_9 (Or.inl (by decide))) eG_10 (Or.inl (by decide))) eG_11 (Or.inl (by decide))), ((gp_ne eG_11 (fun q => absurd q.1 (Nat.ne_of_beq_eq_false rfl))).trans ((gp_ne eG_10 (fun q => absurd q.1 (Nat.ne_of_beq_eq_false rfl))).trans ((gp_ne eG_9 (fun q => absurd q.1 (Nat.ne_of_beq_eq_false rfl))).trans ((gp_ne eG_8 (by decide)).trans ((gp_ne eG_7 (by decide)).trans ((gp_ne eG_6 (by decide)).trans ((gp_ne eG_5 (by decide)).trans ((gp_ne eG_4 (by decide)).trans ((gp_ne eG_3 (by decide)).trans ((gp_ne eG_2 (by decide)).trans (gp_eq eG_1))))))))))), ((gp_ne eG_11 (fun q => absurd q.1 (Nat.ne_of_beq_eq_false rfl))).trans ((gp_ne eG_10 (fun q => absurd q.1 (Nat.ne_of_beq_eq_false rfl))).trans ((gp_ne eG_9 (fun q => absurd q.1 (Nat.ne_of_beq_eq_false rfl))).trans ((gp_ne eG_8 (by decide)).trans ((gp_ne eG_7 (by decide)).trans ((gp_ne eG_6 (by decide)).trans ((gp_ne eG_5 (by decide)).trans ((gp_ne eG_4 (by decide)).trans ((gp_ne eG_3 (by decide)).trans (gp_eq eG_2)))))))))), ((gp_ne eG_11 (fun q => absurd q.1 (Nat.ne_of_beq_eq_false rfl))).trans ((gp_ne eG_10 (fun q => absurd q.1 (Nat.ne_of_beq_eq_false rfl))).trans ((gp_ne eG_9 (fun q => absurd q.1 (Nat.ne_of_beq_eq_false rfl))).trans ((gp_ne eG_8 (by decide)).trans ((gp_ne eG_7 (by decide)).trans ((gp_ne eG_6 (by decide)).trans ((gp_ne eG_5 (by decide)).trans ((gp_ne eG_4 (by decide)).trans (gp_eq eG_3))))))))), ((gp_ne eG_11 (fun q => absurd q.1 (Nat.ne_of_beq_eq_false rfl))).trans ((gp_ne eG_10 (fun q => absurd q.1 (Nat.ne_of_beq_eq_false rfl))).trans ((gp_ne eG_9 (fun q => absurd q.1 (Nat.ne_of_beq_eq_false rfl))).trans ((gp_ne eG_8 (by decide)).trans ((gp_ne eG_7 (by decide)).trans ((gp_ne eG_6 (by decide)).trans ((gp_ne eG_5 (by decide)).trans (gp_eq eG_4)))))))), ((gp_ne eG_11 (fun q => absurd q.1 (Nat.ne_of_beq_eq_false rfl))).trans ((gp_ne eG_10 (fun q => absurd q.1 (Nat.ne_of_beq_eq_false rfl))).trans ((gp_ne eG_9 (fun q => absurd q.1 (Nat.ne_of_beq_eq_false rfl))).trans ((gp_ne eG_8 (by decide)).trans ((gp_ne eG_7 (by decide)).trans ((gp_ne eG_6 (by decide)).trans (gp_eq eG_5))))))), ((gp_ne eG_11 (fun q => absurd q.1 (Nat.ne_of_beq_eq_false rfl))).trans ((gp_ne eG_10 (fun q => absurd q.1 (Nat.ne_of_beq_eq_false rfl))).trans ((gp_ne eG_9 (fun q => absurd q.1 (Nat.ne_of_beq_eq_false rfl))).trans ((gp_ne eG_8 (by decide)).trans ((gp_ne eG_7 (by decide)).trans (gp_eq eG_6)))))), ((gp_ne eG_11 (fun q => absurd q.1 (Nat.ne_of_beq_eq_false rfl))).trans ((gp_ne eG_10 (fun q => absurd q.1 (Nat.ne_of_beq_eq_false rfl))).trans ((gp_ne eG_9 (fun q => absurd q.1 (Nat.ne_of_beq_eq_false rfl))).trans ((gp_ne eG_8 (by decide)).trans (gp_eq eG_7))))), ((gp_ne eG_11 (fun q => absurd q.1 (Nat.ne_of_beq_eq_false rfl))).trans ((gp_ne eG_10 (fun q => absurd q.1 (Nat.ne_of_beq_eq_false rfl))).trans ((gp_ne eG_9 (fun q => absurd q.1 (Nat.ne_of_beq_eq_false rfl))).trans (gp_eq eG_8)))), (rw_ast eG_11).trans (congrArg (fun q => upd q ((2 : Int32).toNatClampNeg) 0) ((rw_ast eG_10).trans (congrArg (fun q => upd q ((1 : Int32).toNatClampNeg) 1) ((rw_ast eG_9).trans (congrArg (fun q => upd q ((0 : Int32).toNatClampNeg) 0) ((rw_put eG_8 (by decide)).trans ((rw_put eG_7 (by decide)).trans ((rw_put eG_6 (by decide)).trans ((rw_put eG_5 (by decide)).trans ((rw_put eG_4 (by decide)).trans ((rw_put eG_3 (by decide)).trans ((rw_put eG_2 (by decide)).trans (rw_put eG_1 (by decide))))))))))))))⟩⟩), wd_t ht hW⟩, hS.F ht⟩) hS.2.2 dX6_empty_63

set_option maxHeartbeats 4000000 in
set_option maxRecDepth 100000 in
theorem k_lay_1 (l : Launch) (D : va_G) (k : KT) (A : Nat → Prop) (a : Nat → Nat) (z : SK) (G : GS) (p0 : Int32) (p1 : Int32) (p2 : Int32) (p3 : Int32) (ha_p3 : 0 ≤ p3.toInt ∧ p3.toInt ≤ 60) : Met l yX6_lay (WS yX6_lay cX6_lay 7 none) ({ frames := 1, cells := 0, slots := 0, locals := 15 }) (va_Pc [.ref (a 1), .int p0, .int p1, .int p2, .int p3] (cW D k A a z G)) (va_Qv (fun (G1 : GS) => P_lay_1 p0 p1 p2 p3 G G1) (fun (G1 : GS) t => Wd D k A a G1 t.heap) A) 0 0 A := by
  refine Met.ofW (cc := cX6_lay) (maxL := 7) (ret := none) (by decide) rfl ?_
  intro p e s m args below meth c s₁ B hml hv
  obtain ⟨rfl, hW, hB_G, hK, hZ⟩ := hv
  have hx := B.exec
  have hb := B.bytes
  have hr := B.returns
  have hts := atoms_spec (ws := WS yX6_lay cX6_lay 7 none) B.pre
  have hgd : ∀ w ∈ gd, w ∈ WS yX6_lay cX6_lay 7 none := fun w h => List.mem_cons_of_mem _ h
  have hg : ∀ w ∈ gd, w.before _ s = true := fun w h => hts w (hgd w h)
  have hown : s.vm.findClass RX6 = some m.cls := findClass_of_methodNamed B.named
  have hS : va_S A s.heap s.heap [] := va_S.rf
  have hF : Fr [10, 11] [] G G := Fr.rf
  have hl := lv_entry ([.ref (a 1), .int p0, .int p1, .int p2, .int p3]) (n := 7) (Nat.le_of_ble_eq_true rfl)
  rw [lg_entry_eq]
  generalize (lg_sl ([.ref (a 1), .int p0, .int p1, .int p2, .int p3]) ++ List.replicate (7 - (lg_sl ([.ref (a 1), .int p0, .int p1, .int p2, .int p3])).length) Slot.unset).toArray = ls at hl ⊢
  have hl : lv_has ls 7 [(0, .ref (a 1)), (1, .int p0), (2, .int p1), (3, .int p2), (4, .int p3)] := hl
  refine lv_aload_n hx hb dX6_lay_0 rfl (lv_at hl 0 rfl) ?_
  have b_1 : 0 ≤ (G.1 1 9).toInt ∧ (G.1 1 9).toInt ≤ 3 := bd_1_9 hB_G
  refine S_getI (v := (G.1 1 9)) (C := RX6) (T := TX6) (N := 17) hx hb hg iX6 hown hK hW kd_1 rfl 9 (lt_b rfl) (hg (Cond.fieldLink RX6 42 "SlabWalk$Paving" "streets" "I") m186) (fun _ h9 => h9) rfl rfl dX6_lay_1 ?_
  refine ic_3 hx hb dX6_lay_4 ?_
  refine lv_icmp_lt (tgt := 9) hx hb dX6_lay_5 rfl (fun c_2 => ?_) (fun c_2 => ?_)
  · have c_2 : (G.1 1 9).toInt < 3 := xI_lt rfl rfl c_2
    refine lv_aload_n hx hb dX6_lay_9 rfl (lv_at hl 0 rfl) ?_
    refine S_getR (n := 10) (C := RX6) (T := TX6) (N := 17) hx hb hg iX6 hown hK hW kd_1 rfl 0 (lt_b rfl) (hg (Cond.fieldLink RX6 9 "SlabWalk$Paving" "length" "[I") m156) (fun _ h9 => h9) rfl dX6_lay_10 ?_
    refine lv_aload_n hx hb dX6_lay_13 rfl (lv_at hl 0 rfl) ?_
    refine S_getI (v := (G.1 1 9)) (C := RX6) (T := TX6) (N := 17) hx hb hg iX6 hown hK hW kd_1 rfl 9 (lt_b rfl) (hg (Cond.fieldLink RX6 42 "SlabWalk$Paving" "streets" "I") m186) (fun _ h9 => h9) rfl rfl dX6_lay_14 ?_
    refine S_iald hx hb hK hW kd_10 (vin ((by first | exact b_1.1 | omega)) ((by first | exact ok_26 b_1.2 c_2 | omega))) dX6_lay_17 (fun y_3 ey_3 => ?_)
    have ty_3 : 0 ≤ y_3.toInt ∧ y_3.toInt ≤ 400 := bv_10 hB_G ey_3
    refine lv_istore (lv' := [(5, .int y_3), (0, .ref (a 1)), (1, .int p0), (2, .int p1), (3, .int p2), (4, .int p3)]) hx hb dX6_lay_18 hl (lt_b rfl) rfl (fun ls hl => ?_)
    refine ic_0 hx hb dX6_lay_20 ?_
    refine lv_istore (lv' := [(6, .int 0), (5, .int y_3), (0, .ref (a 1)), (1, .int p0), (2, .int p1), (3, .int p2), (4, .int p3)]) hx hb dX6_lay_21 hl (lt_b rfl) rfl (fun ls hl => ?_)
    have qc_10 : (0 : Int32).toInt = 0 := rfl
    refine loop_N (Inv := fun n H locs ls => ∃ (G_4 : GS) (x_8 : Int32), (n : Int) = 400 - x_8.toInt ∧ (0 ≤ x_8.toInt ∧ x_8.toInt ≤ 400) ∧ Rc (St_k_lay_1_1 p0 p1 p2 p3 y_3 G) (0, G) (x_8, G_4) ∧ Wd D k A a G_4 H ∧ Bd G_4 ∧ Fr [10, 11] [] G G_4 ∧ Fr [11] [] G G_4 ∧ va_S A s.heap H locs ∧ lv_has ls 7 [(6, .int x_8), (5, .int y_3), (0, .ref (a 1)), (1, .int p0), (2, .int p1), (3, .int p2), (4, .int p3)]) (fun n_7 H locs ls ih_6 hI => ?_) (400 - 0 : Int).toNat ⟨G, 0, (Int.toNat_of_nonneg ((by decide))), ⟨(by decide), (by decide)⟩, Rc.rf, hW, hB_G, hF, Fr.rf, hS, lv_sub hl [0, 1, 2, 3, 4, 5, 6] rfl⟩
    obtain ⟨G_4, x_8, hn_12, f_11, hX_9, hW, hB_G_4, hF, hq_5, hS, hl⟩ := hI
    refine lv_iload hx hb dX6_lay_23 (lv_at hl 0 rfl) ?_
    refine lv_iload hx hb dX6_lay_25 (lv_at hl 6 rfl) ?_
    refine lv_icmp_ge (tgt := 87) hx hb dX6_lay_27 rfl (fun c_13 => ?_) (fun c_13 => ?_)
    · have c_13 : p3.toInt ≤ x_8.toInt := xI_le rfl rfl c_13
      refine lv_aload_n hx hb dX6_lay_87 rfl (lv_at hl 2 rfl) ?_
      refine S_getR (n := 10) (C := RX6) (T := TX6) (N := 17) hx hb hg iX6 hown hK hW kd_1 rfl 0 (lt_b rfl) (hg (Cond.fieldLink RX6 9 "SlabWalk$Paving" "length" "[I") m156) (fun _ h9 => h9) rfl dX6_lay_88 ?_
      refine lv_aload_n hx hb dX6_lay_91 rfl (lv_at hl 2 rfl) ?_
      refine S_getI (v := (G.1 1 9)) (C := RX6) (T := TX6) (N := 17) hx hb hg iX6 hown hK hW kd_1 rfl 9 (lt_b rfl) (hg (Cond.fieldLink RX6 42 "SlabWalk$Paving" "streets" "I") m186) (fun _ h9 => h9) rfl ((hq_5.i9 1 9 rfl rfl).trans (rfl)) dX6_lay_92 ?_
      refine lv_iload hx hb dX6_lay_95 (lv_at hl 1 rfl) ?_
      refine lv_iload hx hb dX6_lay_97 (lv_at hl 6 rfl) ?_
      refine lv_iadd hx hb dX6_lay_99 ?_
      refine lv_topi (fun y_14 ey_14 => ?_)
      have ty_14 : y_14.toInt = y_3.toInt + p3.toInt := xI_add rfl rfl ey_14 ((by first | exact ok_27 ha_p3.1 ty_3.1 | omega)) ((by first | exact ok_28 ha_p3.2 ty_3.2 | omega))
      refine lv_sipush (v := 400) hx hb dX6_lay_100 (by decide) ?_
      refine va_mmin hx hb (by rw [hml]; exact hl.1.symm) hown (hg (Cond.methodLink RX6 71 Lib.Math.min.name) m808) (hg (Cond.static Lib.Math.min.name) m636) (hg (Cond.initialized "java/lang/Math") m132) (hg (Cond.code Lib.Math.min.name Lib.Math.min.code 2 (some .int)) m637) (Nat.le_of_ble_eq_true rfl) (Nat.le_of_ble_eq_true rfl) (Nat.le_of_ble_eq_true rfl) (Nat.le_of_ble_eq_true rfl) dX6_lay_103 ?_
      refine lv_topi (fun y_15 ey_15 => ?_)
      have ty_15 := xI_min (X := y_14.toInt) (Y := 400) rfl rfl ey_15
      refine S_iast hx hb hK hW hS kd_10 (vin ((by first | exact b_1.1 | omega)) ((by first | exact ok_26 b_1.2 c_2 | omega))) dX6_lay_106 (fun G_16 H locs eG_16 hW hS => ?_)
      have hB_G_16 : Bd G_16 := hB_G_4.put (V := y_15.toInt) (lo := 0) (hi := 400) eG_16 rfl rfl rfl ((by first | exact ok_29 ha_p3.1 ty_3.1 ty_14 ty_15 | omega)) ((by first | exact ok_30 ty_15 | omega)) (hB_G_4.2.put eG_16 rfl)
      have hF := hF.put eG_16 (Or.inl (by decide))
      exact W.vret hx hb hr (fun t ht _ => ⟨⟨G_16, rfl, (P_lay_1_mk ⟨hB_G_16, hF, (Or.inl ⟨c_2, ⟨y_3, ey_3, ⟨x_8, G_4, hX_9, f_11, hB_G_4, hq_5, (Or.inl ⟨c_13, ⟨y_14, ty_14, ⟨y_15, ty_15, ⟨(Fr.put (rs := [10]) (fs := []) Fr.rf eG_16 (Or.inl (by decide))), rw_ast eG_16⟩⟩⟩⟩)⟩⟩⟩)⟩), wd_t ht hW⟩, hS.F ht⟩) hS.2.2 dX6_lay_107
    · have c_13 : x_8.toInt < p3.toInt := xI_nle rfl rfl c_13
      refine lv_iload hx hb dX6_lay_30 (lv_at hl 1 rfl) ?_
      refine lv_iload hx hb dX6_lay_32 (lv_at hl 0 rfl) ?_
      refine lv_iadd hx hb dX6_lay_34 ?_
      refine lv_topi (fun y_17 ey_17 => ?_)
      have ty_17 : y_17.toInt = y_3.toInt + x_8.toInt := xI_add rfl rfl ey_17 ((by first | exact ok_15 ty_3.1 f_11.1 | omega)) ((by first | exact ok_31 ty_3.2 f_11.2 | omega))
      refine lv_sipush (v := 400) hx hb dX6_lay_35 (by decide) ?_
      refine lv_icmp_ge (tgt := 87) hx hb dX6_lay_38 rfl (fun c_18 => ?_) (fun c_18 => ?_)
      · have c_18 : 400 ≤ y_17.toInt := xI_le rfl rfl c_18
        refine lv_aload_n hx hb dX6_lay_87 rfl (lv_at hl 2 rfl) ?_
        refine S_getR (n := 10) (C := RX6) (T := TX6) (N := 17) hx hb hg iX6 hown hK hW kd_1 rfl 0 (lt_b rfl) (hg (Cond.fieldLink RX6 9 "SlabWalk$Paving" "length" "[I") m156) (fun _ h9 => h9) rfl dX6_lay_88 ?_
        refine lv_aload_n hx hb dX6_lay_91 rfl (lv_at hl 2 rfl) ?_
        refine S_getI (v := (G.1 1 9)) (C := RX6) (T := TX6) (N := 17) hx hb hg iX6 hown hK hW kd_1 rfl 9 (lt_b rfl) (hg (Cond.fieldLink RX6 42 "SlabWalk$Paving" "streets" "I") m186) (fun _ h9 => h9) rfl ((hq_5.i9 1 9 rfl rfl).trans (rfl)) dX6_lay_92 ?_
        refine lv_iload hx hb dX6_lay_95 (lv_at hl 1 rfl) ?_
        refine lv_iload hx hb dX6_lay_97 (lv_at hl 6 rfl) ?_
        refine lv_iadd hx hb dX6_lay_99 ?_
        refine lv_topi (fun y_19 ey_19 => ?_)
        have ty_19 : y_19.toInt = y_3.toInt + p3.toInt := xI_add rfl rfl ey_19 ((by first | exact ok_27 ha_p3.1 ty_3.1 | omega)) ((by first | exact ok_28 ha_p3.2 ty_3.2 | omega))
        refine lv_sipush (v := 400) hx hb dX6_lay_100 (by decide) ?_
        refine va_mmin hx hb (by rw [hml]; exact hl.1.symm) hown (hg (Cond.methodLink RX6 71 Lib.Math.min.name) m808) (hg (Cond.static Lib.Math.min.name) m636) (hg (Cond.initialized "java/lang/Math") m132) (hg (Cond.code Lib.Math.min.name Lib.Math.min.code 2 (some .int)) m637) (Nat.le_of_ble_eq_true rfl) (Nat.le_of_ble_eq_true rfl) (Nat.le_of_ble_eq_true rfl) (Nat.le_of_ble_eq_true rfl) dX6_lay_103 ?_
        refine lv_topi (fun y_20 ey_20 => ?_)
        have ty_20 := xI_min (X := y_19.toInt) (Y := 400) rfl rfl ey_20
        refine S_iast hx hb hK hW hS kd_10 (vin ((by first | exact b_1.1 | omega)) ((by first | exact ok_26 b_1.2 c_2 | omega))) dX6_lay_106 (fun G_21 H locs eG_21 hW hS => ?_)
        have hB_G_21 : Bd G_21 := hB_G_4.put (V := y_20.toInt) (lo := 0) (hi := 400) eG_21 rfl rfl rfl ((by first | exact ok_29 ha_p3.1 ty_3.1 ty_19 ty_20 | omega)) ((by first | exact ok_30 ty_20 | omega)) (hB_G_4.2.put eG_21 rfl)
        have hF := hF.put eG_21 (Or.inl (by decide))
        exact W.vret hx hb hr (fun t ht _ => ⟨⟨G_21, rfl, (P_lay_1_mk ⟨hB_G_21, hF, (Or.inl ⟨c_2, ⟨y_3, ey_3, ⟨x_8, G_4, hX_9, f_11, hB_G_4, hq_5, (Or.inr ⟨c_13, ⟨y_17, ty_17, ⟨c_18, ⟨y_19, ty_19, ⟨y_20, ty_20, ⟨(Fr.put (rs := [10]) (fs := []) Fr.rf eG_21 (Or.inl (by decide))), rw_ast eG_21⟩⟩⟩⟩⟩⟩)⟩⟩⟩)⟩), wd_t ht hW⟩, hS.F ht⟩) hS.2.2 dX6_lay_107
      · have c_18 : y_17.toInt < 400 := xI_nle rfl rfl c_18
        refine lv_aload_n hx hb dX6_lay_41 rfl (lv_at hl 2 rfl) ?_
        refine S_getR (n := 11) (C := RX6) (T := TX6) (N := 17) hx hb hg iX6 hown hK hW kd_1 rfl 1 (lt_b rfl) (hg (Cond.fieldLink RX6 15 "SlabWalk$Paving" "inches" "[I") m161) (fun _ h9 => h9) rfl dX6_lay_42 ?_
        refine lv_aload_n hx hb dX6_lay_45 rfl (lv_at hl 2 rfl) ?_
        refine S_getI (v := (G.1 1 9)) (C := RX6) (T := TX6) (N := 17) hx hb hg iX6 hown hK hW kd_1 rfl 9 (lt_b rfl) (hg (Cond.fieldLink RX6 42 "SlabWalk$Paving" "streets" "I") m186) (fun _ h9 => h9) rfl ((hq_5.i9 1 9 rfl rfl).trans (rfl)) dX6_lay_46 ?_
        refine lv_sipush (v := 400) hx hb dX6_lay_49 (by decide) ?_
        refine lv_imul hx hb dX6_lay_52 ?_
        refine lv_topi (fun y_22 ey_22 => ?_)
        have ty_22 : y_22.toInt = (G.1 1 9).toInt * 400 := xI_mul rfl rfl ey_22 ((by first | exact ok_32 b_1.1 | omega)) ((by first | exact ok_33 b_1.2 | omega))
        refine lv_iload hx hb dX6_lay_53 (lv_at hl 1 rfl) ?_
        refine lv_iadd hx hb dX6_lay_55 ?_
        refine lv_topi (fun y_23 ey_23 => ?_)
        have ty_23 : y_23.toInt = y_22.toInt + y_3.toInt := xI_add rfl rfl ey_23 ((by first | exact ok_34 b_1.1 ty_3.1 ty_22 | omega)) ((by first | exact ok_35 c_2 ty_3.2 ty_22 | omega))
        refine lv_iload hx hb dX6_lay_56 (lv_at hl 0 rfl) ?_
        refine lv_iadd hx hb dX6_lay_58 ?_
        refine lv_topi (fun y_24 ey_24 => ?_)
        have ty_24 : y_24.toInt = y_23.toInt + x_8.toInt := xI_add rfl rfl ey_24 ((by first | exact ok_36 b_1.1 ty_3.1 f_11.1 ty_22 ty_23 | omega)) ((by first | exact ok_37 b_1.2 ty_17 c_18 ty_22 ty_23 | omega))
        refine lv_iload_n hx hb dX6_lay_59 rfl (lv_at hl 3 rfl) ?_
        refine lv_iload_n hx hb dX6_lay_60 rfl (lv_at hl 4 rfl) ?_
        refine ic_1 hx hb dX6_lay_61 ?_
        refine lv_ishl hx hb dX6_lay_62 ?_
        refine lv_topi (fun y_25 ey_25 => ?_)
        refine lv_ior hx hb dX6_lay_63 ?_
        refine lv_topi (fun y_26 ey_26 => ?_)
        refine lv_iload_n hx hb dX6_lay_64 rfl (lv_at hl 5 rfl) ?_
        refine ic_5 hx hb dX6_lay_65 ?_
        refine lv_ishl hx hb dX6_lay_66 ?_
        refine lv_topi (fun y_27 ey_27 => ?_)
        refine lv_ior hx hb dX6_lay_67 ?_
        refine lv_topi (fun y_28 ey_28 => ?_)
        refine lv_iload hx hb dX6_lay_68 (lv_at hl 0 rfl) ?_
        refine lv_bipush (v := 14) hx hb dX6_lay_70 (by decide) ?_
        refine lv_ishl hx hb dX6_lay_72 ?_
        refine lv_topi (fun y_29 ey_29 => ?_)
        refine lv_ior hx hb dX6_lay_73 ?_
        refine lv_topi (fun y_30 ey_30 => ?_)
        refine lv_iload hx hb dX6_lay_74 (lv_at hl 6 rfl) ?_
        refine lv_bipush (v := 20) hx hb dX6_lay_76 (by decide) ?_
        refine lv_ishl hx hb dX6_lay_78 ?_
        refine lv_topi (fun y_31 ey_31 => ?_)
        refine lv_ior hx hb dX6_lay_79 ?_
        refine lv_topi (fun y_32 ey_32 => ?_)
        refine S_iast hx hb hK hW hS kd_11 (vin ((by first | exact ok_38 b_1.1 ty_3.1 f_11.1 ty_22 ty_23 ty_24 | omega)) ((by first | exact ok_39 b_1.2 c_2 ty_17 c_18 ty_22 ty_23 ty_24 | omega))) dX6_lay_80 (fun G_33 H locs eG_33 hW hS => ?_)
        have hB_G_33 : Bd G_33 := hB_G_4.put (lo := (-2147483648)) (hi := 2147483647) eG_33 rfl rfl rfl (tI_rng _).1 (tI_rng _).2 (hB_G_4.2.put eG_33 rfl)
        have hF := hF.put eG_33 (Or.inl (by decide))
        obtain ⟨y_34, ey_34⟩ : ∃ q, q = x_8 + 1 := ⟨_, rfl⟩
        have ty_34 : y_34.toInt = x_8.toInt + 1 := xI_add rfl rfl ey_34 ((by first | exact ok_21 f_11.1 | omega)) ((by first | exact ok_40 f_11.2 | omega))
        refine lv_iinc (v := y_34) (lv' := [(6, .int y_34), (5, .int y_3), (0, .ref (a 1)), (1, .int p0), (2, .int p1), (3, .int p2), (4, .int p3)]) hx hb dX6_lay_81 hl (k := 0) rfl (by rw [ey_34]; rfl) (lt_b rfl) rfl (fun ls hl => ?_)
        refine lv_goto (tgt := 23) hx hb dX6_lay_84 rfl ?_
        exact ih_6 (400 - y_34.toInt : Int).toNat (by omega) _ _ _ ⟨G_33, y_34, (Int.toNat_of_nonneg ((by first | exact ok_41 ha_p3.2 f_11.2 c_13 ty_34 | omega))), ⟨(by first | exact ok_23 f_11.1 ty_34 | omega), (by first | exact ok_42 ha_p3.2 f_11.2 c_13 ty_34 | omega)⟩, (hX_9.st (St_k_lay_1_1_mk ⟨x_8, G_4, y_34, G_33, rfl, rfl, f_11, hB_G_4, ⟨c_13, ⟨y_17, ty_17, ⟨c_18, ⟨y_22, ty_22, ⟨y_23, ty_23, ⟨y_24, ty_24, ⟨y_25, ey_25, ⟨y_26, ey_26, ⟨y_27, ey_27, ⟨y_28, ey_28, ⟨y_29, ey_29, ⟨y_30, ey_30, ⟨y_31, ey_31, ⟨y_32, ey_32, ⟨y_34, ty_34, ⟨rfl, (Fr.put (rs := [11]) (fs := []) Fr.rf eG_33 (Or.inl (by decide))), rw_ast eG_33⟩⟩⟩⟩⟩⟩⟩⟩⟩⟩⟩⟩⟩⟩⟩⟩⟩)), hW, hB_G_33, hF, (Fr.put (rs := [11]) (fs := []) (Fr.call9 (rs := [11]) (fs := []) Fr.rf hq_5 rfl rfl) eG_33 (Or.inl (by decide))), hS, lv_sub hl [0, 1, 2, 3, 4, 5, 6] rfl⟩
  · have c_2 : 3 ≤ (G.1 1 9).toInt := xI_nlt rfl rfl c_2
    exact W.vret hx hb hr (fun t ht _ => ⟨⟨G, rfl, (P_lay_1_mk ⟨hB_G, hF, (Or.inr ⟨c_2, rfl⟩)⟩), wd_t ht hW⟩, hS.F ht⟩) hS.2.2 dX6_lay_8



set_option maxHeartbeats 4000000 in
set_option maxRecDepth 100000 in
theorem k_hasStreet_2 (l : Launch) (D : va_G) (k : KT) (A : Nat → Prop) (a : Nat → Nat) (z : SK) (G : GS) (p0 : Int32)  : Met l yX6_hasStreet (WS yX6_hasStreet cX6_hasStreet 2 (some .boolean)) ({ frames := 0, cells := 0, slots := 0, locals := 0 }) (va_Pc [.ref (a 2), .int p0] (cW D k A a z G)) (va_Qi (fun (r : Int32) (G1 : GS) => P_hasStreet_2 p0 G r G1) (fun (G1 : GS) t => Wd D k A a G1 t.heap) A) 0 0 A := by
  refine Met.ofW (cc := cX6_hasStreet) (maxL := 2) (ret := (some .boolean)) (by decide) rfl ?_
  intro p e s m args below meth c s₁ B hml hv
  obtain ⟨rfl, hW, hB_G, hK, hZ⟩ := hv
  have hx := B.exec
  have hb := B.bytes
  have hr := B.returns
  have hts := atoms_spec (ws := WS yX6_hasStreet cX6_hasStreet 2 (some .boolean)) B.pre
  have hgd : ∀ w ∈ gd, w ∈ WS yX6_hasStreet cX6_hasStreet 2 (some .boolean) := fun w h => List.mem_cons_of_mem _ h
  have hg : ∀ w ∈ gd, w.before _ s = true := fun w h => hts w (hgd w h)
  have hown : s.vm.findClass RX6 = some m.cls := findClass_of_methodNamed B.named
  have hS : va_S A s.heap s.heap [] := va_S.rf
  have hF : Fr [] [] G G := Fr.rf
  have hl := lv_entry ([.ref (a 2), .int p0]) (n := 2) (Nat.le_of_ble_eq_true rfl)
  rw [lg_entry_eq]
  generalize (lg_sl ([.ref (a 2), .int p0]) ++ List.replicate (2 - (lg_sl ([.ref (a 2), .int p0])).length) Slot.unset).toArray = ls at hl ⊢
  have hl : lv_has ls 2 [(0, .ref (a 2)), (1, .int p0)] := hl
  refine lv_iload_n hx hb dX6_hasStreet_0 rfl (lv_at hl 1 rfl) ?_
  refine lv_if_lt (tgt := 21) hx hb dX6_hasStreet_1 rfl (fun c_1 => ?_) (fun c_1 => ?_)
  · have c_1 : p0.toInt < 0 := xI_lt rfl rfl c_1
    refine ic_0 hx hb dX6_hasStreet_21 ?_
    have b_2 : 0 ≤ (G.1 2 9).toInt ∧ (G.1 2 9).toInt ≤ 3 := bd_2_9 hB_G
    exact W.zret (v := 0) hx hb hr (by decide) (fun t ht _ => ⟨⟨0, G, rfl, (P_hasStreet_2_mk ⟨hB_G, hF, ⟨by decide, by decide⟩, (by have hq : (0 : Int32).toInt = 0 := rfl; (try dsimp only); omega), (Or.inl ⟨c_1, ⟨rfl, rfl⟩⟩)⟩), wd_t ht hW⟩, hS.F ht⟩) hS.2.2 dX6_hasStreet_22
  · have c_1 : 0 ≤ p0.toInt := xI_nlt rfl rfl c_1
    refine lv_iload_n hx hb dX6_hasStreet_4 rfl (lv_at hl 1 rfl) ?_
    refine lv_aload_n hx hb dX6_hasStreet_5 rfl (lv_at hl 0 rfl) ?_
    have b_3 : 0 ≤ (G.1 2 9).toInt ∧ (G.1 2 9).toInt ≤ 3 := bd_2_9 hB_G
    refine S_getI (v := (G.1 2 9)) (C := RX6) (T := TX6) (N := 17) hx hb hg iX6 hown hK hW kd_2 rfl 9 (lt_b rfl) (hg (Cond.fieldLink RX6 42 "SlabWalk$Paving" "streets" "I") m186) (fun _ h9 => h9) rfl rfl dX6_hasStreet_6 ?_
    refine lv_icmp_ge (tgt := 21) hx hb dX6_hasStreet_9 rfl (fun c_4 => ?_) (fun c_4 => ?_)
    · have c_4 : (G.1 2 9).toInt ≤ p0.toInt := xI_le rfl rfl c_4
      refine ic_0 hx hb dX6_hasStreet_21 ?_
      exact W.zret (v := 0) hx hb hr (by decide) (fun t ht _ => ⟨⟨0, G, rfl, (P_hasStreet_2_mk ⟨hB_G, hF, ⟨by decide, by decide⟩, (by have hq : (0 : Int32).toInt = 0 := rfl; (try dsimp only); omega), (Or.inr ⟨c_1, (Or.inl ⟨c_4, ⟨rfl, rfl⟩⟩)⟩)⟩), wd_t ht hW⟩, hS.F ht⟩) hS.2.2 dX6_hasStreet_22
    · have c_4 : p0.toInt < (G.1 2 9).toInt := xI_nle rfl rfl c_4
      refine lv_iload_n hx hb dX6_hasStreet_12 rfl (lv_at hl 1 rfl) ?_
      refine ic_3 hx hb dX6_hasStreet_13 ?_
      refine lv_icmp_ge (tgt := 21) hx hb dX6_hasStreet_14 rfl (fun c_5 => ?_) (fun c_5 => ?_)
      · have c_5 : 3 ≤ p0.toInt := xI_le rfl rfl c_5
        exfalso; first | exact ok_0 b_3.2 c_4 c_5 | omega
      · have c_5 : p0.toInt < 3 := xI_nle rfl rfl c_5
        refine ic_1 hx hb dX6_hasStreet_17 ?_
        refine lv_goto (tgt := 22) hx hb dX6_hasStreet_18 rfl ?_
        exact W.zret (v := 1) hx hb hr (by decide) (fun t ht _ => ⟨⟨1, G, rfl, (P_hasStreet_2_mk ⟨hB_G, hF, ⟨by decide, by decide⟩, (by have hq : (1 : Int32).toInt = 1 := rfl; (try dsimp only); omega), (Or.inr ⟨c_1, (Or.inr ⟨c_4, ⟨rfl, rfl⟩⟩)⟩)⟩), wd_t ht hW⟩, hS.F ht⟩) hS.2.2 dX6_hasStreet_22

set_option maxHeartbeats 4000000 in
set_option maxRecDepth 100000 in
theorem k_hasWalker_2 (l : Launch) (D : va_G) (k : KT) (A : Nat → Prop) (a : Nat → Nat) (z : SK) (G : GS) (p0 : Int32)  : Met l yX6_hasWalker (WS yX6_hasWalker cX6_hasWalker 2 (some .boolean)) ({ frames := 0, cells := 0, slots := 0, locals := 0 }) (va_Pc [.ref (a 2), .int p0] (cW D k A a z G)) (va_Qi (fun (r : Int32) (G1 : GS) => P_hasWalker_2 p0 G r G1) (fun (G1 : GS) t => Wd D k A a G1 t.heap) A) 0 0 A := by
  refine Met.ofW (cc := cX6_hasWalker) (maxL := 2) (ret := (some .boolean)) (by decide) rfl ?_
  intro p e s m args below meth c s₁ B hml hv
  obtain ⟨rfl, hW, hB_G, hK, hZ⟩ := hv
  have hx := B.exec
  have hb := B.bytes
  have hr := B.returns
  have hts := atoms_spec (ws := WS yX6_hasWalker cX6_hasWalker 2 (some .boolean)) B.pre
  have hgd : ∀ w ∈ gd, w ∈ WS yX6_hasWalker cX6_hasWalker 2 (some .boolean) := fun w h => List.mem_cons_of_mem _ h
  have hg : ∀ w ∈ gd, w.before _ s = true := fun w h => hts w (hgd w h)
  have hown : s.vm.findClass RX6 = some m.cls := findClass_of_methodNamed B.named
  have hS : va_S A s.heap s.heap [] := va_S.rf
  have hF : Fr [] [] G G := Fr.rf
  have hl := lv_entry ([.ref (a 2), .int p0]) (n := 2) (Nat.le_of_ble_eq_true rfl)
  rw [lg_entry_eq]
  generalize (lg_sl ([.ref (a 2), .int p0]) ++ List.replicate (2 - (lg_sl ([.ref (a 2), .int p0])).length) Slot.unset).toArray = ls at hl ⊢
  have hl : lv_has ls 2 [(0, .ref (a 2)), (1, .int p0)] := hl
  refine lv_iload_n hx hb dX6_hasWalker_0 rfl (lv_at hl 1 rfl) ?_
  refine lv_if_lt (tgt := 21) hx hb dX6_hasWalker_1 rfl (fun c_1 => ?_) (fun c_1 => ?_)
  · have c_1 : p0.toInt < 0 := xI_lt rfl rfl c_1
    refine ic_0 hx hb dX6_hasWalker_21 ?_
    have b_2 : 0 ≤ (G.1 2 10).toInt ∧ (G.1 2 10).toInt ≤ 4 := bd_2_10 hB_G
    exact W.zret (v := 0) hx hb hr (by decide) (fun t ht _ => ⟨⟨0, G, rfl, (P_hasWalker_2_mk ⟨hB_G, hF, ⟨by decide, by decide⟩, (by have hq : (0 : Int32).toInt = 0 := rfl; (try dsimp only); omega), (Or.inl ⟨c_1, ⟨rfl, rfl⟩⟩)⟩), wd_t ht hW⟩, hS.F ht⟩) hS.2.2 dX6_hasWalker_22
  · have c_1 : 0 ≤ p0.toInt := xI_nlt rfl rfl c_1
    refine lv_iload_n hx hb dX6_hasWalker_4 rfl (lv_at hl 1 rfl) ?_
    refine lv_aload_n hx hb dX6_hasWalker_5 rfl (lv_at hl 0 rfl) ?_
    have b_3 : 0 ≤ (G.1 2 10).toInt ∧ (G.1 2 10).toInt ≤ 4 := bd_2_10 hB_G
    refine S_getI (v := (G.1 2 10)) (C := RX6) (T := TX6) (N := 17) hx hb hg iX6 hown hK hW kd_2 rfl 10 (lt_b rfl) (hg (Cond.fieldLink RX6 46 "SlabWalk$Paving" "walkers" "I") m189) (fun _ h9 => h9) rfl rfl dX6_hasWalker_6 ?_
    refine lv_icmp_ge (tgt := 21) hx hb dX6_hasWalker_9 rfl (fun c_4 => ?_) (fun c_4 => ?_)
    · have c_4 : (G.1 2 10).toInt ≤ p0.toInt := xI_le rfl rfl c_4
      refine ic_0 hx hb dX6_hasWalker_21 ?_
      exact W.zret (v := 0) hx hb hr (by decide) (fun t ht _ => ⟨⟨0, G, rfl, (P_hasWalker_2_mk ⟨hB_G, hF, ⟨by decide, by decide⟩, (by have hq : (0 : Int32).toInt = 0 := rfl; (try dsimp only); omega), (Or.inr ⟨c_1, (Or.inl ⟨c_4, ⟨rfl, rfl⟩⟩)⟩)⟩), wd_t ht hW⟩, hS.F ht⟩) hS.2.2 dX6_hasWalker_22
    · have c_4 : p0.toInt < (G.1 2 10).toInt := xI_nle rfl rfl c_4
      refine lv_iload_n hx hb dX6_hasWalker_12 rfl (lv_at hl 1 rfl) ?_
      refine ic_4 hx hb dX6_hasWalker_13 ?_
      refine lv_icmp_ge (tgt := 21) hx hb dX6_hasWalker_14 rfl (fun c_5 => ?_) (fun c_5 => ?_)
      · have c_5 : 4 ≤ p0.toInt := xI_le rfl rfl c_5
        exfalso; first | exact ok_1 b_3.2 c_4 c_5 | omega
      · have c_5 : p0.toInt < 4 := xI_nle rfl rfl c_5
        refine ic_1 hx hb dX6_hasWalker_17 ?_
        refine lv_goto (tgt := 22) hx hb dX6_hasWalker_18 rfl ?_
        exact W.zret (v := 1) hx hb hr (by decide) (fun t ht _ => ⟨⟨1, G, rfl, (P_hasWalker_2_mk ⟨hB_G, hF, ⟨by decide, by decide⟩, (by have hq : (1 : Int32).toInt = 1 := rfl; (try dsimp only); omega), (Or.inr ⟨c_1, (Or.inr ⟨c_4, ⟨rfl, rfl⟩⟩)⟩)⟩), wd_t ht hW⟩, hS.F ht⟩) hS.2.2 dX6_hasWalker_22

set_option maxHeartbeats 4000000 in
set_option maxRecDepth 100000 in
theorem k_hasRule_2 (l : Launch) (D : va_G) (k : KT) (A : Nat → Prop) (a : Nat → Nat) (z : SK) (G : GS) (p0 : Int32)  : Met l yX6_hasRule (WS yX6_hasRule cX6_hasRule 2 (some .boolean)) ({ frames := 0, cells := 0, slots := 0, locals := 0 }) (va_Pc [.ref (a 2), .int p0] (cW D k A a z G)) (va_Qi (fun (r : Int32) (G1 : GS) => P_hasRule_2 p0 G r G1) (fun (G1 : GS) t => Wd D k A a G1 t.heap) A) 0 0 A := by
  refine Met.ofW (cc := cX6_hasRule) (maxL := 2) (ret := (some .boolean)) (by decide) rfl ?_
  intro p e s m args below meth c s₁ B hml hv
  obtain ⟨rfl, hW, hB_G, hK, hZ⟩ := hv
  have hx := B.exec
  have hb := B.bytes
  have hr := B.returns
  have hts := atoms_spec (ws := WS yX6_hasRule cX6_hasRule 2 (some .boolean)) B.pre
  have hgd : ∀ w ∈ gd, w ∈ WS yX6_hasRule cX6_hasRule 2 (some .boolean) := fun w h => List.mem_cons_of_mem _ h
  have hg : ∀ w ∈ gd, w.before _ s = true := fun w h => hts w (hgd w h)
  have hown : s.vm.findClass RX6 = some m.cls := findClass_of_methodNamed B.named
  have hS : va_S A s.heap s.heap [] := va_S.rf
  have hF : Fr [] [] G G := Fr.rf
  have hl := lv_entry ([.ref (a 2), .int p0]) (n := 2) (Nat.le_of_ble_eq_true rfl)
  rw [lg_entry_eq]
  generalize (lg_sl ([.ref (a 2), .int p0]) ++ List.replicate (2 - (lg_sl ([.ref (a 2), .int p0])).length) Slot.unset).toArray = ls at hl ⊢
  have hl : lv_has ls 2 [(0, .ref (a 2)), (1, .int p0)] := hl
  refine lv_iload_n hx hb dX6_hasRule_0 rfl (lv_at hl 1 rfl) ?_
  refine lv_if_lt (tgt := 22) hx hb dX6_hasRule_1 rfl (fun c_1 => ?_) (fun c_1 => ?_)
  · have c_1 : p0.toInt < 0 := xI_lt rfl rfl c_1
    refine ic_0 hx hb dX6_hasRule_22 ?_
    have b_2 : 0 ≤ (G.1 2 11).toInt ∧ (G.1 2 11).toInt ≤ 6 := bd_2_11 hB_G
    exact W.zret (v := 0) hx hb hr (by decide) (fun t ht _ => ⟨⟨0, G, rfl, (P_hasRule_2_mk ⟨hB_G, hF, ⟨by decide, by decide⟩, (by have hq : (0 : Int32).toInt = 0 := rfl; (try dsimp only); omega), (Or.inl ⟨c_1, ⟨rfl, rfl⟩⟩)⟩), wd_t ht hW⟩, hS.F ht⟩) hS.2.2 dX6_hasRule_23
  · have c_1 : 0 ≤ p0.toInt := xI_nlt rfl rfl c_1
    refine lv_iload_n hx hb dX6_hasRule_4 rfl (lv_at hl 1 rfl) ?_
    refine lv_aload_n hx hb dX6_hasRule_5 rfl (lv_at hl 0 rfl) ?_
    have b_3 : 0 ≤ (G.1 2 11).toInt ∧ (G.1 2 11).toInt ≤ 6 := bd_2_11 hB_G
    refine S_getI (v := (G.1 2 11)) (C := RX6) (T := TX6) (N := 17) hx hb hg iX6 hown hK hW kd_2 rfl 11 (lt_b rfl) (hg (Cond.fieldLink RX6 49 "SlabWalk$Paving" "rules" "I") m192) (fun _ h9 => h9) rfl rfl dX6_hasRule_6 ?_
    refine lv_icmp_ge (tgt := 22) hx hb dX6_hasRule_9 rfl (fun c_4 => ?_) (fun c_4 => ?_)
    · have c_4 : (G.1 2 11).toInt ≤ p0.toInt := xI_le rfl rfl c_4
      refine ic_0 hx hb dX6_hasRule_22 ?_
      exact W.zret (v := 0) hx hb hr (by decide) (fun t ht _ => ⟨⟨0, G, rfl, (P_hasRule_2_mk ⟨hB_G, hF, ⟨by decide, by decide⟩, (by have hq : (0 : Int32).toInt = 0 := rfl; (try dsimp only); omega), (Or.inr ⟨c_1, (Or.inl ⟨c_4, ⟨rfl, rfl⟩⟩)⟩)⟩), wd_t ht hW⟩, hS.F ht⟩) hS.2.2 dX6_hasRule_23
    · have c_4 : p0.toInt < (G.1 2 11).toInt := xI_nle rfl rfl c_4
      refine lv_iload_n hx hb dX6_hasRule_12 rfl (lv_at hl 1 rfl) ?_
      refine lv_bipush (v := 6) hx hb dX6_hasRule_13 (by decide) ?_
      refine lv_icmp_ge (tgt := 22) hx hb dX6_hasRule_15 rfl (fun c_5 => ?_) (fun c_5 => ?_)
      · have c_5 : 6 ≤ p0.toInt := xI_le rfl rfl c_5
        exfalso; first | exact ok_2 b_3.2 c_4 c_5 | omega
      · have c_5 : p0.toInt < 6 := xI_nle rfl rfl c_5
        refine ic_1 hx hb dX6_hasRule_18 ?_
        refine lv_goto (tgt := 23) hx hb dX6_hasRule_19 rfl ?_
        exact W.zret (v := 1) hx hb hr (by decide) (fun t ht _ => ⟨⟨1, G, rfl, (P_hasRule_2_mk ⟨hB_G, hF, ⟨by decide, by decide⟩, (by have hq : (1 : Int32).toInt = 1 := rfl; (try dsimp only); omega), (Or.inr ⟨c_1, (Or.inr ⟨c_4, ⟨rfl, rfl⟩⟩)⟩)⟩), wd_t ht hW⟩, hS.F ht⟩) hS.2.2 dX6_hasRule_23

set_option maxHeartbeats 4000000 in
set_option maxRecDepth 100000 in
theorem k_hasSet_2 (l : Launch) (D : va_G) (k : KT) (A : Nat → Prop) (a : Nat → Nat) (z : SK) (G : GS) (p0 : Int32)  : Met l yX6_hasSet (WS yX6_hasSet cX6_hasSet 2 (some .boolean)) ({ frames := 0, cells := 0, slots := 0, locals := 0 }) (va_Pc [.ref (a 2), .int p0] (cW D k A a z G)) (va_Qi (fun (r : Int32) (G1 : GS) => P_hasSet_2 p0 G r G1) (fun (G1 : GS) t => Wd D k A a G1 t.heap) A) 0 0 A := by
  refine Met.ofW (cc := cX6_hasSet) (maxL := 2) (ret := (some .boolean)) (by decide) rfl ?_
  intro p e s m args below meth c s₁ B hml hv
  obtain ⟨rfl, hW, hB_G, hK, hZ⟩ := hv
  have hx := B.exec
  have hb := B.bytes
  have hr := B.returns
  have hts := atoms_spec (ws := WS yX6_hasSet cX6_hasSet 2 (some .boolean)) B.pre
  have hgd : ∀ w ∈ gd, w ∈ WS yX6_hasSet cX6_hasSet 2 (some .boolean) := fun w h => List.mem_cons_of_mem _ h
  have hg : ∀ w ∈ gd, w.before _ s = true := fun w h => hts w (hgd w h)
  have hown : s.vm.findClass RX6 = some m.cls := findClass_of_methodNamed B.named
  have hS : va_S A s.heap s.heap [] := va_S.rf
  have hF : Fr [] [] G G := Fr.rf
  have hl := lv_entry ([.ref (a 2), .int p0]) (n := 2) (Nat.le_of_ble_eq_true rfl)
  rw [lg_entry_eq]
  generalize (lg_sl ([.ref (a 2), .int p0]) ++ List.replicate (2 - (lg_sl ([.ref (a 2), .int p0])).length) Slot.unset).toArray = ls at hl ⊢
  have hl : lv_has ls 2 [(0, .ref (a 2)), (1, .int p0)] := hl
  refine lv_iload_n hx hb dX6_hasSet_0 rfl (lv_at hl 1 rfl) ?_
  refine lv_if_lt (tgt := 18) hx hb dX6_hasSet_1 rfl (fun c_1 => ?_) (fun c_1 => ?_)
  · have c_1 : p0.toInt < 0 := xI_lt rfl rfl c_1
    refine ic_0 hx hb dX6_hasSet_18 ?_
    exact W.zret (v := 0) hx hb hr (by decide) (fun t ht _ => ⟨⟨0, G, rfl, (P_hasSet_2_mk ⟨hB_G, hF, ⟨by decide, by decide⟩, (by have hq : (0 : Int32).toInt = 0 := rfl; (try dsimp only); omega), (Or.inl ⟨c_1, ⟨rfl, rfl⟩⟩)⟩), wd_t ht hW⟩, hS.F ht⟩) hS.2.2 dX6_hasSet_19
  · have c_1 : 0 ≤ p0.toInt := xI_nlt rfl rfl c_1
    refine lv_iload_n hx hb dX6_hasSet_4 rfl (lv_at hl 1 rfl) ?_
    refine ic_1 hx hb dX6_hasSet_5 ?_
    refine lv_aload_n hx hb dX6_hasSet_6 rfl (lv_at hl 0 rfl) ?_
    have b_2 : 0 ≤ (G.1 2 11).toInt ∧ (G.1 2 11).toInt ≤ 6 := bd_2_11 hB_G
    refine S_getI (v := (G.1 2 11)) (C := RX6) (T := TX6) (N := 17) hx hb hg iX6 hown hK hW kd_2 rfl 11 (lt_b rfl) (hg (Cond.fieldLink RX6 49 "SlabWalk$Paving" "rules" "I") m192) (fun _ h9 => h9) rfl rfl dX6_hasSet_7 ?_
    refine lv_ishl hx hb dX6_hasSet_10 ?_
    refine lv_topi (fun y_3 ey_3 => ?_)
    have ty_3 := sh6 (Y := (G.1 2 11).toInt) rfl ey_3 rfl (by omega) (by omega)
    refine lv_icmp_ge (tgt := 18) hx hb dX6_hasSet_11 rfl (fun c_4 => ?_) (fun c_4 => ?_)
    · have c_4 : y_3.toInt ≤ p0.toInt := xI_le rfl rfl c_4
      refine ic_0 hx hb dX6_hasSet_18 ?_
      exact W.zret (v := 0) hx hb hr (by decide) (fun t ht _ => ⟨⟨0, G, rfl, (P_hasSet_2_mk ⟨hB_G, hF, ⟨by decide, by decide⟩, (by have hq : (0 : Int32).toInt = 0 := rfl; (try dsimp only); omega), (Or.inr ⟨c_1, ⟨y_3, ey_3, (Or.inl ⟨c_4, ⟨rfl, rfl⟩⟩)⟩⟩)⟩), wd_t ht hW⟩, hS.F ht⟩) hS.2.2 dX6_hasSet_19
    · have c_4 : p0.toInt < y_3.toInt := xI_nle rfl rfl c_4
      refine ic_1 hx hb dX6_hasSet_14 ?_
      refine lv_goto (tgt := 19) hx hb dX6_hasSet_15 rfl ?_
      exact W.zret (v := 1) hx hb hr (by decide) (fun t ht _ => ⟨⟨1, G, rfl, (P_hasSet_2_mk ⟨hB_G, hF, ⟨by decide, by decide⟩, (by have hq : (1 : Int32).toInt = 1 := rfl; (try dsimp only); omega), (Or.inr ⟨c_1, ⟨y_3, ey_3, (Or.inr ⟨c_4, ⟨rfl, rfl⟩⟩)⟩⟩)⟩), wd_t ht hW⟩, hS.F ht⟩) hS.2.2 dX6_hasSet_19

set_option maxHeartbeats 4000000 in
set_option maxRecDepth 100000 in
theorem k_hasInch_2 (l : Launch) (D : va_G) (k : KT) (A : Nat → Prop) (a : Nat → Nat) (z : SK) (G : GS) (p0 : Int32) (p1 : Int32)  : Met l yX6_hasInch (WS yX6_hasInch cX6_hasInch 3 (some .boolean)) ({ frames := 1, cells := 0, slots := 0, locals := 21 }) (va_Pc [.ref (a 2), .int p0, .int p1] (cW D k A a z G)) (va_Qi (fun (r : Int32) (G1 : GS) => P_hasInch_2 p0 p1 G r G1) (fun (G1 : GS) t => Wd D k A a G1 t.heap) A) 0 0 A := by
  refine Met.ofW (cc := cX6_hasInch) (maxL := 3) (ret := (some .boolean)) (by decide) rfl ?_
  intro p e s m args below meth c s₁ B hml hv
  obtain ⟨rfl, hW, hB_G, hK, hZ⟩ := hv
  have hx := B.exec
  have hb := B.bytes
  have hr := B.returns
  have hts := atoms_spec (ws := WS yX6_hasInch cX6_hasInch 3 (some .boolean)) B.pre
  have hgd : ∀ w ∈ gd, w ∈ WS yX6_hasInch cX6_hasInch 3 (some .boolean) := fun w h => List.mem_cons_of_mem _ h
  have hg : ∀ w ∈ gd, w.before _ s = true := fun w h => hts w (hgd w h)
  have hown : s.vm.findClass RX6 = some m.cls := findClass_of_methodNamed B.named
  have hS : va_S A s.heap s.heap [] := va_S.rf
  have hF : Fr [] [] G G := Fr.rf
  have hl := lv_entry ([.ref (a 2), .int p0, .int p1]) (n := 3) (Nat.le_of_ble_eq_true rfl)
  rw [lg_entry_eq]
  generalize (lg_sl ([.ref (a 2), .int p0, .int p1]) ++ List.replicate (3 - (lg_sl ([.ref (a 2), .int p0, .int p1])).length) Slot.unset).toArray = ls at hl ⊢
  have hl : lv_has ls 3 [(0, .ref (a 2)), (1, .int p0), (2, .int p1)] := hl
  refine lv_aload_n hx hb dX6_hasInch_0 rfl (lv_at hl 0 rfl) ?_
  refine lv_iload_n hx hb dX6_hasInch_1 rfl (lv_at hl 1 rfl) ?_
  refine S_calli (va_runV (As := [.int p0]) (rest := []) ⟨hx, hb, hml, hown, hts⟩ (k_hasStreet_2 l D k A a z G p0 ) (cwV 1 hts (gd_V hgd m886 m887 m888 m118 m889) rfl rfl rfl hd_X6_hasStreet ⟨Nat.le_of_ble_eq_true rfl, Nat.le_of_ble_eq_true rfl⟩) (pre_W hW hB_G hK hZ hS kd_2 rfl) rfl rfl hl.1 rfl (lv_room (Nat.le_of_ble_eq_true rfl)) dX6_hasInch_2 ⟨Nat.le_of_ble_eq_true rfl, Nat.le_of_ble_eq_true rfl⟩) hS (fun r_1 G_2 H locs hpo hW hS => ?_)
  have hX_5 : P_hasStreet_2 p0 G r_1 G_2 := hpo
  obtain ⟨hB_G_2, hq_3, f_6, hp_4, -⟩ := hpo
  have hF := hF.call9 hq_3 rfl rfl
  refine lv_if_eq (tgt := 26) hx hb dX6_hasInch_5 rfl (fun c_7 => ?_) (fun c_7 => ?_)
  · have c_7 : r_1.toInt = 0 := xI_eq rfl rfl c_7
    refine ic_0 hx hb dX6_hasInch_26 ?_
    exact W.zret (v := 0) hx hb hr (by decide) (fun t ht _ => ⟨⟨0, G_2, rfl, (P_hasInch_2_mk ⟨hB_G_2, hF, ⟨by decide, by decide⟩, (by have hq : (0 : Int32).toInt = 0 := rfl; (try dsimp only); omega), ⟨r_1, G_2, hX_5, (Or.inl ⟨c_7, ⟨rfl, rfl⟩⟩)⟩⟩), wd_t ht hW⟩, hS.F ht⟩) hS.2.2 dX6_hasInch_27
  · have c_7 : r_1.toInt ≠ 0 := xI_ne rfl rfl c_7
    refine lv_iload_n hx hb dX6_hasInch_8 rfl (lv_at hl 2 rfl) ?_
    refine lv_if_lt (tgt := 26) hx hb dX6_hasInch_9 rfl (fun c_8 => ?_) (fun c_8 => ?_)
    · have c_8 : p1.toInt < 0 := xI_lt rfl rfl c_8
      refine ic_0 hx hb dX6_hasInch_26 ?_
      exact W.zret (v := 0) hx hb hr (by decide) (fun t ht _ => ⟨⟨0, G_2, rfl, (P_hasInch_2_mk ⟨hB_G_2, hF, ⟨by decide, by decide⟩, (by have hq : (0 : Int32).toInt = 0 := rfl; (try dsimp only); omega), ⟨r_1, G_2, hX_5, (Or.inr ⟨c_7, (Or.inl ⟨c_8, ⟨rfl, rfl⟩⟩)⟩)⟩⟩), wd_t ht hW⟩, hS.F ht⟩) hS.2.2 dX6_hasInch_27
    · have c_8 : 0 ≤ p1.toInt := xI_nlt rfl rfl c_8
      refine lv_iload_n hx hb dX6_hasInch_12 rfl (lv_at hl 2 rfl) ?_
      refine lv_aload_n hx hb dX6_hasInch_13 rfl (lv_at hl 0 rfl) ?_
      refine S_getR (n := 20) (C := RX6) (T := TX6) (N := 17) hx hb hg iX6 hown hK hW kd_2 rfl 0 (lt_b rfl) (hg (Cond.fieldLink RX6 9 "SlabWalk$Paving" "length" "[I") m156) (fun _ h9 => h9) rfl dX6_hasInch_14 ?_
      refine lv_iload_n hx hb dX6_hasInch_17 rfl (lv_at hl 1 rfl) ?_
      refine S_iald hx hb hK hW kd_20 (vin ((by first | exact ok_3 f_6.1 f_6.2 hp_4 c_7 | omega)) ((by first | exact ok_4 f_6.1 f_6.2 hp_4 c_7 | omega))) dX6_hasInch_18 (fun y_9 ey_9 => ?_)
      have ty_9 : 0 ≤ y_9.toInt ∧ y_9.toInt ≤ 400 := bv_20 hB_G_2 ey_9
      refine lv_icmp_ge (tgt := 26) hx hb dX6_hasInch_19 rfl (fun c_10 => ?_) (fun c_10 => ?_)
      · have c_10 : y_9.toInt ≤ p1.toInt := xI_le rfl rfl c_10
        refine ic_0 hx hb dX6_hasInch_26 ?_
        exact W.zret (v := 0) hx hb hr (by decide) (fun t ht _ => ⟨⟨0, G_2, rfl, (P_hasInch_2_mk ⟨hB_G_2, hF, ⟨by decide, by decide⟩, (by have hq : (0 : Int32).toInt = 0 := rfl; (try dsimp only); omega), ⟨r_1, G_2, hX_5, (Or.inr ⟨c_7, (Or.inr ⟨c_8, ⟨y_9, ey_9, (Or.inl ⟨c_10, ⟨rfl, rfl⟩⟩)⟩⟩)⟩)⟩⟩), wd_t ht hW⟩, hS.F ht⟩) hS.2.2 dX6_hasInch_27
      · have c_10 : p1.toInt < y_9.toInt := xI_nle rfl rfl c_10
        refine ic_1 hx hb dX6_hasInch_22 ?_
        refine lv_goto (tgt := 27) hx hb dX6_hasInch_23 rfl ?_
        exact W.zret (v := 1) hx hb hr (by decide) (fun t ht _ => ⟨⟨1, G_2, rfl, (P_hasInch_2_mk ⟨hB_G_2, hF, ⟨by decide, by decide⟩, (by have hq : (1 : Int32).toInt = 1 := rfl; (try dsimp only); omega), ⟨r_1, G_2, hX_5, (Or.inr ⟨c_7, (Or.inr ⟨c_8, ⟨y_9, ey_9, (Or.inr ⟨c_10, ⟨rfl, rfl⟩⟩)⟩⟩)⟩)⟩⟩), wd_t ht hW⟩, hS.F ht⟩) hS.2.2 dX6_hasInch_27

set_option maxHeartbeats 4000000 in
set_option maxRecDepth 100000 in
theorem k_stands_2 (l : Launch) (D : va_G) (k : KT) (A : Nat → Prop) (a : Nat → Nat) (z : SK) (G : GS) (p0 : Int32) (p1 : Int32) (p2 : Int32)  : Met l yX6_stands (WS yX6_stands cX6_stands 4 (some .boolean)) ({ frames := 1, cells := 0, slots := 0, locals := 21 }) (va_Pc [.ref (a 2), .int p0, .int p1, .int p2] (cW D k A a z G)) (va_Qi (fun (r : Int32) (G1 : GS) => P_stands_2 p0 p1 p2 G r G1) (fun (G1 : GS) t => Wd D k A a G1 t.heap) A) 0 0 A := by
  refine Met.ofW (cc := cX6_stands) (maxL := 4) (ret := (some .boolean)) (by decide) rfl ?_
  intro p e s m args below meth c s₁ B hml hv
  obtain ⟨rfl, hW, hB_G, hK, hZ⟩ := hv
  have hx := B.exec
  have hb := B.bytes
  have hr := B.returns
  have hts := atoms_spec (ws := WS yX6_stands cX6_stands 4 (some .boolean)) B.pre
  have hgd : ∀ w ∈ gd, w ∈ WS yX6_stands cX6_stands 4 (some .boolean) := fun w h => List.mem_cons_of_mem _ h
  have hg : ∀ w ∈ gd, w.before _ s = true := fun w h => hts w (hgd w h)
  have hown : s.vm.findClass RX6 = some m.cls := findClass_of_methodNamed B.named
  have hS : va_S A s.heap s.heap [] := va_S.rf
  have hF : Fr [] [] G G := Fr.rf
  have hl := lv_entry ([.ref (a 2), .int p0, .int p1, .int p2]) (n := 4) (Nat.le_of_ble_eq_true rfl)
  rw [lg_entry_eq]
  generalize (lg_sl ([.ref (a 2), .int p0, .int p1, .int p2]) ++ List.replicate (4 - (lg_sl ([.ref (a 2), .int p0, .int p1, .int p2])).length) Slot.unset).toArray = ls at hl ⊢
  have hl : lv_has ls 4 [(0, .ref (a 2)), (1, .int p0), (2, .int p1), (3, .int p2)] := hl
  refine lv_aload_n hx hb dX6_stands_0 rfl (lv_at hl 0 rfl) ?_
  refine lv_iload_n hx hb dX6_stands_1 rfl (lv_at hl 1 rfl) ?_
  refine S_calli (va_runV (As := [.int p0]) (rest := []) ⟨hx, hb, hml, hown, hts⟩ (k_hasWalker_2 l D k A a z G p0 ) (cwV 1 hts (gd_V hgd m969 m958 m959 m118 m960) rfl rfl rfl hd_X6_hasWalker ⟨Nat.le_of_ble_eq_true rfl, Nat.le_of_ble_eq_true rfl⟩) (pre_W hW hB_G hK hZ hS kd_2 rfl) rfl rfl hl.1 rfl (lv_room (Nat.le_of_ble_eq_true rfl)) dX6_stands_2 ⟨Nat.le_of_ble_eq_true rfl, Nat.le_of_ble_eq_true rfl⟩) hS (fun r_1 G_2 H locs hpo hW hS => ?_)
  have hX_5 : P_hasWalker_2 p0 G r_1 G_2 := hpo
  obtain ⟨hB_G_2, hq_3, f_6, hp_4, -⟩ := hpo
  have hF := hF.call9 hq_3 rfl rfl
  refine lv_if_eq (tgt := 41) hx hb dX6_stands_5 rfl (fun c_7 => ?_) (fun c_7 => ?_)
  · have c_7 : r_1.toInt = 0 := xI_eq rfl rfl c_7
    refine ic_0 hx hb dX6_stands_41 ?_
    exact W.zret (v := 0) hx hb hr (by decide) (fun t ht _ => ⟨⟨0, G_2, rfl, (P_stands_2_mk ⟨hB_G_2, hF, ⟨by decide, by decide⟩, (by have hq : (0 : Int32).toInt = 0 := rfl; (try dsimp only); omega), ⟨r_1, G_2, hX_5, (Or.inl ⟨c_7, ⟨rfl, rfl⟩⟩)⟩⟩), wd_t ht hW⟩, hS.F ht⟩) hS.2.2 dX6_stands_42
  · have c_7 : r_1.toInt ≠ 0 := xI_ne rfl rfl c_7
    refine lv_aload_n hx hb dX6_stands_8 rfl (lv_at hl 0 rfl) ?_
    refine lv_iload_n hx hb dX6_stands_9 rfl (lv_at hl 2 rfl) ?_
    have b_8 : 0 ≤ (G.1 2 9).toInt ∧ (G.1 2 9).toInt ≤ 3 := bd_2_9 hB_G
    have g_9 : (G_2.1 2 9).toInt = (G.1 2 9).toInt := (congrArg Int32.toInt (show G_2.1 2 9 = (G.1 2 9) from (hq_3.i9 2 9 rfl rfl)))
    refine S_calli (va_runV (As := [.int p1]) (rest := []) ⟨hx, hb, hml, hown, hts⟩ (k_hasStreet_2 l D k A a z G_2 p1 ) (cwV 1 hts (gd_V hgd m886 m887 m888 m118 m889) rfl rfl rfl hd_X6_hasStreet ⟨Nat.le_of_ble_eq_true rfl, Nat.le_of_ble_eq_true rfl⟩) (pre_W hW hB_G_2 hK hZ hS kd_2 rfl) rfl rfl hl.1 rfl (lv_room (Nat.le_of_ble_eq_true rfl)) dX6_stands_10 ⟨Nat.le_of_ble_eq_true rfl, Nat.le_of_ble_eq_true rfl⟩) hS (fun r_10 G_11 H locs hpo hW hS => ?_)
    have hX_14 : P_hasStreet_2 p1 G_2 r_10 G_11 := hpo
    obtain ⟨hB_G_11, hq_12, f_15, hp_13, -⟩ := hpo
    have hF := hF.call9 hq_12 rfl rfl
    refine lv_if_eq (tgt := 41) hx hb dX6_stands_13 rfl (fun c_16 => ?_) (fun c_16 => ?_)
    · have c_16 : r_10.toInt = 0 := xI_eq rfl rfl c_16
      refine ic_0 hx hb dX6_stands_41 ?_
      exact W.zret (v := 0) hx hb hr (by decide) (fun t ht _ => ⟨⟨0, G_11, rfl, (P_stands_2_mk ⟨hB_G_11, hF, ⟨by decide, by decide⟩, (by have hq : (0 : Int32).toInt = 0 := rfl; (try dsimp only); omega), ⟨r_1, G_2, hX_5, (Or.inr ⟨c_7, ⟨r_10, G_11, hX_14, (Or.inl ⟨c_16, ⟨rfl, rfl⟩⟩)⟩⟩)⟩⟩), wd_t ht hW⟩, hS.F ht⟩) hS.2.2 dX6_stands_42
    · have c_16 : r_10.toInt ≠ 0 := xI_ne rfl rfl c_16
      refine lv_iload_n hx hb dX6_stands_16 rfl (lv_at hl 3 rfl) ?_
      refine lv_if_lt (tgt := 41) hx hb dX6_stands_17 rfl (fun c_17 => ?_) (fun c_17 => ?_)
      · have c_17 : p2.toInt < 0 := xI_lt rfl rfl c_17
        refine ic_0 hx hb dX6_stands_41 ?_
        exact W.zret (v := 0) hx hb hr (by decide) (fun t ht _ => ⟨⟨0, G_11, rfl, (P_stands_2_mk ⟨hB_G_11, hF, ⟨by decide, by decide⟩, (by have hq : (0 : Int32).toInt = 0 := rfl; (try dsimp only); omega), ⟨r_1, G_2, hX_5, (Or.inr ⟨c_7, ⟨r_10, G_11, hX_14, (Or.inr ⟨c_16, (Or.inl ⟨c_17, ⟨rfl, rfl⟩⟩)⟩)⟩⟩)⟩⟩), wd_t ht hW⟩, hS.F ht⟩) hS.2.2 dX6_stands_42
      · have c_17 : 0 ≤ p2.toInt := xI_nlt rfl rfl c_17
        refine lv_iload_n hx hb dX6_stands_20 rfl (lv_at hl 3 rfl) ?_
        refine lv_aload_n hx hb dX6_stands_21 rfl (lv_at hl 0 rfl) ?_
        refine S_getR (n := 20) (C := RX6) (T := TX6) (N := 17) hx hb hg iX6 hown hK hW kd_2 rfl 0 (lt_b rfl) (hg (Cond.fieldLink RX6 9 "SlabWalk$Paving" "length" "[I") m156) (fun _ h9 => h9) rfl dX6_stands_22 ?_
        refine lv_iload_n hx hb dX6_stands_25 rfl (lv_at hl 2 rfl) ?_
        refine S_iald hx hb hK hW kd_20 (vin ((by first | exact ok_3 f_15.1 f_15.2 hp_13 c_16 | omega)) ((by first | exact ok_4 f_15.1 f_15.2 hp_13 c_16 | omega))) dX6_stands_26 (fun y_18 ey_18 => ?_)
        have ty_18 : 0 ≤ y_18.toInt ∧ y_18.toInt ≤ 400 := bv_20 hB_G_11 ey_18
        refine lv_aload_n hx hb dX6_stands_27 rfl (lv_at hl 0 rfl) ?_
        refine S_getR (n := 22) (C := RX6) (T := TX6) (N := 17) hx hb hg iX6 hown hK hW kd_2 rfl 2 (lt_b rfl) (hg (Cond.fieldLink RX6 18 "SlabWalk$Paving" "foot" "[I") m162) (fun _ h9 => h9) rfl dX6_stands_28 ?_
        refine lv_iload_n hx hb dX6_stands_31 rfl (lv_at hl 1 rfl) ?_
        refine S_iald hx hb hK hW kd_22 (vin ((by first | exact ok_5 f_6.1 f_6.2 hp_4 c_7 | omega)) ((by first | exact ok_6 f_6.1 f_6.2 hp_4 c_7 | omega))) dX6_stands_32 (fun y_19 ey_19 => ?_)
        have ty_19 : 0 ≤ y_19.toInt ∧ y_19.toInt ≤ 12 := bv_22 hB_G_11 ey_19
        have b_20 : 0 ≤ (G.1 2 10).toInt ∧ (G.1 2 10).toInt ≤ 4 := bd_2_10 hB_G
        have u_21 : 1 ≤ y_19.toInt := by have q := (hB_G_11.2.of2 (w := p0.toNatClampNeg) (by rw [tN (by first | (clear b_8 g_9 f_15 hp_13 c_16 c_17 ty_18; omega) | omega), show G_11.1 2 10 = (G.1 2 10) from ((hq_12.i9 2 10 rfl rfl).trans (hq_3.i9 2 10 rfl rfl))]; omega)).1; rw [← ey_19] at q; exact q
        refine lv_isub hx hb dX6_stands_33 ?_
        refine lv_topi (fun y_22 ey_22 => ?_)
        have ty_22 : y_22.toInt = y_18.toInt - y_19.toInt := xI_sub rfl rfl ey_22 ((by first | exact ok_7 ty_18.1 ty_19.2 | omega)) ((by first | exact ok_8 ty_18.2 u_21 | omega))
        refine lv_icmp_gt (tgt := 41) hx hb dX6_stands_34 rfl (fun c_23 => ?_) (fun c_23 => ?_)
        · have c_23 : y_22.toInt < p2.toInt := xI_lt rfl rfl c_23
          refine ic_0 hx hb dX6_stands_41 ?_
          exact W.zret (v := 0) hx hb hr (by decide) (fun t ht _ => ⟨⟨0, G_11, rfl, (P_stands_2_mk ⟨hB_G_11, hF, ⟨by decide, by decide⟩, (by have hq : (0 : Int32).toInt = 0 := rfl; (try dsimp only); omega), ⟨r_1, G_2, hX_5, (Or.inr ⟨c_7, ⟨r_10, G_11, hX_14, (Or.inr ⟨c_16, (Or.inr ⟨c_17, ⟨y_18, ey_18, ⟨y_19, ey_19, ⟨y_22, ty_22, (Or.inl ⟨c_23, ⟨rfl, rfl⟩⟩)⟩⟩⟩⟩)⟩)⟩⟩)⟩⟩), wd_t ht hW⟩, hS.F ht⟩) hS.2.2 dX6_stands_42
        · have c_23 : p2.toInt ≤ y_22.toInt := xI_nlt rfl rfl c_23
          refine ic_1 hx hb dX6_stands_37 ?_
          refine lv_goto (tgt := 42) hx hb dX6_stands_38 rfl ?_
          exact W.zret (v := 1) hx hb hr (by decide) (fun t ht _ => ⟨⟨1, G_11, rfl, (P_stands_2_mk ⟨hB_G_11, hF, ⟨by decide, by decide⟩, (by have hq : (1 : Int32).toInt = 1 := rfl; (try dsimp only); omega), ⟨r_1, G_2, hX_5, (Or.inr ⟨c_7, ⟨r_10, G_11, hX_14, (Or.inr ⟨c_16, (Or.inr ⟨c_17, ⟨y_18, ey_18, ⟨y_19, ey_19, ⟨y_22, ty_22, (Or.inr ⟨c_23, ⟨rfl, rfl⟩⟩)⟩⟩⟩⟩)⟩)⟩⟩)⟩⟩), wd_t ht hW⟩, hS.F ht⟩) hS.2.2 dX6_stands_42

set_option maxHeartbeats 4000000 in
set_option maxRecDepth 100000 in
theorem k_inchAt_2 (l : Launch) (D : va_G) (k : KT) (A : Nat → Prop) (a : Nat → Nat) (z : SK) (G : GS) (p0 : Int32) (p1 : Int32)  : Met l yX6_inchAt (WS yX6_inchAt cX6_inchAt 3 (some .int)) ({ frames := 2, cells := 0, slots := 0, locals := 43 }) (va_Pc [.ref (a 2), .int p0, .int p1] (cW D k A a z G)) (va_Qi (fun (r : Int32) (G1 : GS) => P_inchAt_2 p0 p1 G r G1) (fun (G1 : GS) t => Wd D k A a G1 t.heap) A) 0 0 A := by
  refine Met.ofW (cc := cX6_inchAt) (maxL := 3) (ret := (some .int)) (by decide) rfl ?_
  intro p e s m args below meth c s₁ B hml hv
  obtain ⟨rfl, hW, hB_G, hK, hZ⟩ := hv
  have hx := B.exec
  have hb := B.bytes
  have hr := B.returns
  have hts := atoms_spec (ws := WS yX6_inchAt cX6_inchAt 3 (some .int)) B.pre
  have hgd : ∀ w ∈ gd, w ∈ WS yX6_inchAt cX6_inchAt 3 (some .int) := fun w h => List.mem_cons_of_mem _ h
  have hg : ∀ w ∈ gd, w.before _ s = true := fun w h => hts w (hgd w h)
  have hown : s.vm.findClass RX6 = some m.cls := findClass_of_methodNamed B.named
  have hS : va_S A s.heap s.heap [] := va_S.rf
  have hF : Fr [] [] G G := Fr.rf
  have hl := lv_entry ([.ref (a 2), .int p0, .int p1]) (n := 3) (Nat.le_of_ble_eq_true rfl)
  rw [lg_entry_eq]
  generalize (lg_sl ([.ref (a 2), .int p0, .int p1]) ++ List.replicate (3 - (lg_sl ([.ref (a 2), .int p0, .int p1])).length) Slot.unset).toArray = ls at hl ⊢
  have hl : lv_has ls 3 [(0, .ref (a 2)), (1, .int p0), (2, .int p1)] := hl
  refine lv_aload_n hx hb dX6_inchAt_0 rfl (lv_at hl 0 rfl) ?_
  refine lv_iload_n hx hb dX6_inchAt_1 rfl (lv_at hl 1 rfl) ?_
  refine lv_iload_n hx hb dX6_inchAt_2 rfl (lv_at hl 2 rfl) ?_
  refine S_calli (va_runV (As := [.int p0, .int p1]) (rest := []) ⟨hx, hb, hml, hown, hts⟩ (k_hasInch_2 l D k A a z G p0 p1 ) (cwV 2 hts (gd_V hgd m894 m883 m884 m118 m885) rfl rfl rfl hd_X6_hasInch ⟨Nat.le_of_ble_eq_true rfl, Nat.le_of_ble_eq_true rfl⟩) (pre_W hW hB_G hK hZ hS kd_2 rfl) rfl rfl hl.1 rfl (lv_room (Nat.le_of_ble_eq_true rfl)) dX6_inchAt_3 ⟨Nat.le_of_ble_eq_true rfl, Nat.le_of_ble_eq_true rfl⟩) hS (fun r_1 G_2 H locs hpo hW hS => ?_)
  have hX_5 : P_hasInch_2 p0 p1 G r_1 G_2 := hpo
  obtain ⟨hB_G_2, hq_3, f_6, hp_4, -⟩ := hpo
  have hF := hF.call9 hq_3 rfl rfl
  refine lv_if_eq (tgt := 24) hx hb dX6_inchAt_6 rfl (fun c_7 => ?_) (fun c_7 => ?_)
  · have c_7 : r_1.toInt = 0 := xI_eq rfl rfl c_7
    refine ic_0 hx hb dX6_inchAt_24 ?_
    exact W.iret (v := 0) hx hb hr (fun t ht _ => ⟨⟨0, G_2, rfl, (P_inchAt_2_mk ⟨hB_G_2, hF, ⟨r_1, G_2, hX_5, (Or.inl ⟨c_7, ⟨rfl, rfl⟩⟩)⟩⟩), wd_t ht hW⟩, hS.F ht⟩) hS.2.2 dX6_inchAt_25
  · have c_7 : r_1.toInt ≠ 0 := xI_ne rfl rfl c_7
    refine lv_aload_n hx hb dX6_inchAt_9 rfl (lv_at hl 0 rfl) ?_
    refine S_getR (n := 21) (C := RX6) (T := TX6) (N := 17) hx hb hg iX6 hown hK hW kd_2 rfl 1 (lt_b rfl) (hg (Cond.fieldLink RX6 15 "SlabWalk$Paving" "inches" "[I") m161) (fun _ h9 => h9) rfl dX6_inchAt_10 ?_
    refine lv_iload_n hx hb dX6_inchAt_13 rfl (lv_at hl 1 rfl) ?_
    refine lv_sipush (v := 400) hx hb dX6_inchAt_14 (by decide) ?_
    refine lv_imul hx hb dX6_inchAt_17 ?_
    refine lv_topi (fun y_8 ey_8 => ?_)
    have ty_8 : y_8.toInt = p0.toInt * 400 := xI_mul rfl rfl ey_8 ((by first | exact ok_9 f_6.1 f_6.2 hp_4 c_7 | omega)) ((by first | exact ok_10 f_6.1 f_6.2 hp_4 c_7 | omega))
    refine lv_iload_n hx hb dX6_inchAt_18 rfl (lv_at hl 2 rfl) ?_
    refine lv_iadd hx hb dX6_inchAt_19 ?_
    refine lv_topi (fun y_9 ey_9 => ?_)
    have ty_9 : y_9.toInt = y_8.toInt + p1.toInt := xI_add rfl rfl ey_9 ((by first | exact ok_11 f_6.1 f_6.2 hp_4 c_7 ty_8 | omega)) ((by first | exact ok_12 f_6.1 f_6.2 hp_4 c_7 ty_8 | omega))
    refine S_iald hx hb hK hW kd_21 (vin ((by first | exact ok_13 f_6.1 f_6.2 hp_4 c_7 ty_8 ty_9 | omega)) ((by first | exact ok_14 f_6.1 f_6.2 hp_4 c_7 ty_8 ty_9 | omega))) dX6_inchAt_20 (fun y_10 ey_10 => ?_)
    refine lv_goto (tgt := 25) hx hb dX6_inchAt_21 rfl ?_
    exact W.iret (v := y_10) hx hb hr (fun t ht _ => ⟨⟨y_10, G_2, rfl, (P_inchAt_2_mk ⟨hB_G_2, hF, ⟨r_1, G_2, hX_5, (Or.inr ⟨c_7, ⟨y_8, ty_8, ⟨y_9, ty_9, ⟨y_10, ey_10, ⟨rfl, rfl⟩⟩⟩⟩⟩)⟩⟩), wd_t ht hW⟩, hS.F ht⟩) hS.2.2 dX6_inchAt_25

set_option maxHeartbeats 4000000 in
set_option maxRecDepth 100000 in
theorem k_allSlips_2 (l : Launch) (D : va_G) (k : KT) (A : Nat → Prop) (a : Nat → Nat) (z : SK) (G : GS)   : Met l yX6_allSlips (WS yX6_allSlips cX6_allSlips 1 (some .int)) ({ frames := 0, cells := 0, slots := 0, locals := 0 }) (va_Pc [.ref (a 2)] (cW D k A a z G)) (va_Qi (fun (r : Int32) (G1 : GS) => P_allSlips_2 G r G1) (fun (G1 : GS) t => Wd D k A a G1 t.heap) A) 0 0 A := by
  refine Met.ofW (cc := cX6_allSlips) (maxL := 1) (ret := (some .int)) (by decide) rfl ?_
  intro p e s m args below meth c s₁ B hml hv
  obtain ⟨rfl, hW, hB_G, hK, hZ⟩ := hv
  have hx := B.exec
  have hb := B.bytes
  have hr := B.returns
  have hts := atoms_spec (ws := WS yX6_allSlips cX6_allSlips 1 (some .int)) B.pre
  have hgd : ∀ w ∈ gd, w ∈ WS yX6_allSlips cX6_allSlips 1 (some .int) := fun w h => List.mem_cons_of_mem _ h
  have hg : ∀ w ∈ gd, w.before _ s = true := fun w h => hts w (hgd w h)
  have hown : s.vm.findClass RX6 = some m.cls := findClass_of_methodNamed B.named
  have hS : va_S A s.heap s.heap [] := va_S.rf
  have hF : Fr [] [] G G := Fr.rf
  have hl := lv_entry ([.ref (a 2)]) (n := 1) (Nat.le_of_ble_eq_true rfl)
  rw [lg_entry_eq]
  generalize (lg_sl ([.ref (a 2)]) ++ List.replicate (1 - (lg_sl ([.ref (a 2)])).length) Slot.unset).toArray = ls at hl ⊢
  have hl : lv_has ls 1 [(0, .ref (a 2))] := hl
  refine lv_aload_n hx hb dX6_allSlips_0 rfl (lv_at hl 0 rfl) ?_
  refine S_getR (n := 26) (C := RX6) (T := TX6) (N := 17) hx hb hg iX6 hown hK hW kd_2 rfl 6 (lt_b rfl) (hg (Cond.fieldLink RX6 30 "SlabWalk$Paving" "slip" "[I") m178) (fun _ h9 => h9) rfl dX6_allSlips_1 ?_
  refine ic_0 hx hb dX6_allSlips_4 ?_
  refine S_iald hx hb hK hW kd_26 (vin (by decide) (by decide)) dX6_allSlips_5 (fun y_1 ey_1 => ?_)
  have ty_1 : 0 ≤ y_1.toInt ∧ y_1.toInt ≤ 9 := bv_26 hB_G ey_1
  refine lv_aload_n hx hb dX6_allSlips_6 rfl (lv_at hl 0 rfl) ?_
  refine S_getR (n := 26) (C := RX6) (T := TX6) (N := 17) hx hb hg iX6 hown hK hW kd_2 rfl 6 (lt_b rfl) (hg (Cond.fieldLink RX6 30 "SlabWalk$Paving" "slip" "[I") m178) (fun _ h9 => h9) rfl dX6_allSlips_7 ?_
  refine ic_1 hx hb dX6_allSlips_10 ?_
  refine S_iald hx hb hK hW kd_26 (vin (by decide) (by decide)) dX6_allSlips_11 (fun y_2 ey_2 => ?_)
  have ty_2 : 0 ≤ y_2.toInt ∧ y_2.toInt ≤ 9 := bv_26 hB_G ey_2
  refine lv_iadd hx hb dX6_allSlips_12 ?_
  refine lv_topi (fun y_3 ey_3 => ?_)
  have ty_3 : y_3.toInt = y_1.toInt + y_2.toInt := xI_add rfl rfl ey_3 ((by first | exact ok_15 ty_1.1 ty_2.1 | omega)) ((by first | exact ok_16 ty_1.2 ty_2.2 | omega))
  refine lv_aload_n hx hb dX6_allSlips_13 rfl (lv_at hl 0 rfl) ?_
  refine S_getR (n := 26) (C := RX6) (T := TX6) (N := 17) hx hb hg iX6 hown hK hW kd_2 rfl 6 (lt_b rfl) (hg (Cond.fieldLink RX6 30 "SlabWalk$Paving" "slip" "[I") m178) (fun _ h9 => h9) rfl dX6_allSlips_14 ?_
  refine ic_2 hx hb dX6_allSlips_17 ?_
  refine S_iald hx hb hK hW kd_26 (vin (by decide) (by decide)) dX6_allSlips_18 (fun y_4 ey_4 => ?_)
  have ty_4 : 0 ≤ y_4.toInt ∧ y_4.toInt ≤ 9 := bv_26 hB_G ey_4
  refine lv_iadd hx hb dX6_allSlips_19 ?_
  refine lv_topi (fun y_5 ey_5 => ?_)
  have ty_5 : y_5.toInt = y_3.toInt + y_4.toInt := xI_add rfl rfl ey_5 ((by first | exact ok_17 ty_1.1 ty_2.1 ty_3 ty_4.1 | omega)) ((by first | exact ok_18 ty_1.2 ty_2.2 ty_3 ty_4.2 | omega))
  exact W.iret (v := y_5) hx hb hr (fun t ht _ => ⟨⟨y_5, G, rfl, (P_allSlips_2_mk ⟨hB_G, hF, ⟨(by first | exact ok_19 ty_1.1 ty_2.1 ty_3 ty_4.1 ty_5 | omega), (by first | exact ok_20 ty_1.2 ty_2.2 ty_3 ty_4.2 ty_5 | omega)⟩, ⟨y_1, ey_1, ⟨y_2, ey_2, ⟨y_3, ty_3, ⟨y_4, ey_4, ⟨y_5, ty_5, ⟨rfl, rfl⟩⟩⟩⟩⟩⟩⟩), wd_t ht hW⟩, hS.F ht⟩) hS.2.2 dX6_allSlips_20

set_option maxHeartbeats 4000000 in
set_option maxRecDepth 100000 in
theorem k_slipBy_2 (l : Launch) (D : va_G) (k : KT) (A : Nat → Prop) (a : Nat → Nat) (z : SK) (G : GS) (p0 : Int32)  : Met l yX6_slipBy (WS yX6_slipBy cX6_slipBy 4 (some .int)) ({ frames := 1, cells := 0, slots := 0, locals := 20 }) (va_Pc [.ref (a 2), .int p0] (cW D k A a z G)) (va_Qi (fun (r : Int32) (G1 : GS) => P_slipBy_2 p0 G r G1) (fun (G1 : GS) t => Wd D k A a G1 t.heap) A) 0 0 A := by
  refine Met.ofW (cc := cX6_slipBy) (maxL := 4) (ret := (some .int)) (by decide) rfl ?_
  intro p e s m args below meth c s₁ B hml hv
  obtain ⟨rfl, hW, hB_G, hK, hZ⟩ := hv
  have hx := B.exec
  have hb := B.bytes
  have hr := B.returns
  have hts := atoms_spec (ws := WS yX6_slipBy cX6_slipBy 4 (some .int)) B.pre
  have hgd : ∀ w ∈ gd, w ∈ WS yX6_slipBy cX6_slipBy 4 (some .int) := fun w h => List.mem_cons_of_mem _ h
  have hg : ∀ w ∈ gd, w.before _ s = true := fun w h => hts w (hgd w h)
  have hown : s.vm.findClass RX6 = some m.cls := findClass_of_methodNamed B.named
  have hS : va_S A s.heap s.heap [] := va_S.rf
  have hF : Fr [] [] G G := Fr.rf
  have hl := lv_entry ([.ref (a 2), .int p0]) (n := 4) (Nat.le_of_ble_eq_true rfl)
  rw [lg_entry_eq]
  generalize (lg_sl ([.ref (a 2), .int p0]) ++ List.replicate (4 - (lg_sl ([.ref (a 2), .int p0])).length) Slot.unset).toArray = ls at hl ⊢
  have hl : lv_has ls 4 [(0, .ref (a 2)), (1, .int p0)] := hl
  refine lv_aload_n hx hb dX6_slipBy_0 rfl (lv_at hl 0 rfl) ?_
  refine S_calli (va_runV (As := []) (rest := []) ⟨hx, hb, hml, hown, hts⟩ (k_allSlips_2 l D k A a z G  ) (cwV 0 hts (gd_V hgd m1198 m1199 m1200 m118 m1201) rfl rfl rfl hd_X6_allSlips ⟨Nat.le_of_ble_eq_true rfl, Nat.le_of_ble_eq_true rfl⟩) (pre_W hW hB_G hK hZ hS kd_2 rfl) rfl rfl hl.1 rfl (lv_room (Nat.le_of_ble_eq_true rfl)) dX6_slipBy_1 ⟨Nat.le_of_ble_eq_true rfl, Nat.le_of_ble_eq_true rfl⟩) hS (fun r_1 G_2 H locs hpo hW hS => ?_)
  have hX_5 : P_allSlips_2 G r_1 G_2 := hpo
  obtain ⟨hB_G_2, hq_3, f_6, -⟩ := hpo
  have hF := hF.call9 hq_3 rfl rfl
  refine lv_istore_n (lv' := [(2, .int r_1), (0, .ref (a 2)), (1, .int p0)]) hx hb dX6_slipBy_4 rfl hl (lt_b rfl) rfl (fun ls hl => ?_)
  refine lv_iload_n hx hb dX6_slipBy_5 rfl (lv_at hl 0 rfl) ?_
  refine W.cut (σ := Int32) (pcJ := 16) (J := fun y H locs ls => ∃ (G_9 : GS), Jn_k_slipBy_2_1 p0 r_1 G_2 y G_9 ∧ Wd D k A a G_9 H ∧ Bd G_9 ∧ Fr [] [] G G_9 ∧ Fr [] [] G_2 G_9 ∧ va_S A s.heap H locs ∧ lv_has ls 4 [(0, .ref (a 2))]) (stJ := fun y => [.int y]) ?_ (fun hJ_10 => ?_)
  · intro y H locs ls hI
    obtain ⟨w_8, hy⟩ : ∃ q, q = y := ⟨_, rfl⟩
    subst hy
    obtain ⟨G_9, hX_12, hW, hB_G_9, hF, hq_11, hS, hl⟩ := hI
    refine lv_istore_n (lv' := [(3, .int w_8), (0, .ref (a 2))]) hx hb dX6_slipBy_16 rfl hl (lt_b rfl) rfl (fun ls hl => ?_)
    refine lv_iload_n hx hb dX6_slipBy_17 rfl (lv_at hl 0 rfl) ?_
    refine lv_aload_n hx hb dX6_slipBy_18 rfl (lv_at hl 1 rfl) ?_
    refine S_getR (n := 26) (C := RX6) (T := TX6) (N := 17) hx hb hg iX6 hown hK hW kd_2 rfl 6 (lt_b rfl) (hg (Cond.fieldLink RX6 30 "SlabWalk$Paving" "slip" "[I") m178) (fun _ h9 => h9) rfl dX6_slipBy_19 ?_
    refine ic_0 hx hb dX6_slipBy_22 ?_
    refine S_iald hx hb hK hW kd_26 (vin (by decide) (by decide)) dX6_slipBy_23 (fun y_13 ey_13 => ?_)
    have ty_13 : 0 ≤ y_13.toInt ∧ y_13.toInt ≤ 9 := bv_26 hB_G_9 ey_13
    refine lv_icmp_ge (tgt := 31) hx hb dX6_slipBy_24 rfl (fun c_14 => ?_) (fun c_14 => ?_)
    · have c_14 : y_13.toInt ≤ w_8.toInt := xI_le rfl rfl c_14
      refine lv_iload_n hx hb dX6_slipBy_31 rfl (lv_at hl 0 rfl) ?_
      refine lv_aload_n hx hb dX6_slipBy_32 rfl (lv_at hl 1 rfl) ?_
      refine S_getR (n := 26) (C := RX6) (T := TX6) (N := 17) hx hb hg iX6 hown hK hW kd_2 rfl 6 (lt_b rfl) (hg (Cond.fieldLink RX6 30 "SlabWalk$Paving" "slip" "[I") m178) (fun _ h9 => h9) rfl dX6_slipBy_33 ?_
      refine ic_0 hx hb dX6_slipBy_36 ?_
      refine S_iald hx hb hK hW kd_26 (vin (by decide) (by decide)) dX6_slipBy_37 (fun y_15 ey_15 => ?_)
      have ty_15 : 0 ≤ y_15.toInt ∧ y_15.toInt ≤ 9 := bv_26 hB_G_9 ey_15
      refine lv_aload_n hx hb dX6_slipBy_38 rfl (lv_at hl 1 rfl) ?_
      refine S_getR (n := 26) (C := RX6) (T := TX6) (N := 17) hx hb hg iX6 hown hK hW kd_2 rfl 6 (lt_b rfl) (hg (Cond.fieldLink RX6 30 "SlabWalk$Paving" "slip" "[I") m178) (fun _ h9 => h9) rfl dX6_slipBy_39 ?_
      refine ic_1 hx hb dX6_slipBy_42 ?_
      refine S_iald hx hb hK hW kd_26 (vin (by decide) (by decide)) dX6_slipBy_43 (fun y_16 ey_16 => ?_)
      have ty_16 : 0 ≤ y_16.toInt ∧ y_16.toInt ≤ 9 := bv_26 hB_G_9 ey_16
      refine lv_iadd hx hb dX6_slipBy_44 ?_
      refine lv_topi (fun y_17 ey_17 => ?_)
      have ty_17 : y_17.toInt = y_15.toInt + y_16.toInt := xI_add rfl rfl ey_17 ((by first | exact ok_15 ty_15.1 ty_16.1 | omega)) ((by first | exact ok_16 ty_15.2 ty_16.2 | omega))
      refine lv_icmp_ge (tgt := 52) hx hb dX6_slipBy_45 rfl (fun c_18 => ?_) (fun c_18 => ?_)
      · have c_18 : y_17.toInt ≤ w_8.toInt := xI_le rfl rfl c_18
        refine ic_1 hx hb dX6_slipBy_52 ?_
        exact W.iret (v := 1) hx hb hr (fun t ht _ => ⟨⟨1, G_9, rfl, (P_slipBy_2_mk ⟨hB_G_9, hF, ⟨by decide, by decide⟩, ⟨r_1, G_2, hX_5, ⟨w_8, G_9, hX_12, hB_G_9, hq_11, ⟨y_13, ey_13, (Or.inl ⟨c_14, ⟨y_15, ey_15, ⟨y_16, ey_16, ⟨y_17, ty_17, (Or.inl ⟨c_18, ⟨rfl, rfl⟩⟩)⟩⟩⟩⟩)⟩⟩⟩⟩), wd_t ht hW⟩, hS.F ht⟩) hS.2.2 dX6_slipBy_53
      · have c_18 : w_8.toInt < y_17.toInt := xI_nle rfl rfl c_18
        refine ic_0 hx hb dX6_slipBy_48 ?_
        refine lv_goto (tgt := 53) hx hb dX6_slipBy_49 rfl ?_
        exact W.iret (v := 0) hx hb hr (fun t ht _ => ⟨⟨0, G_9, rfl, (P_slipBy_2_mk ⟨hB_G_9, hF, ⟨by decide, by decide⟩, ⟨r_1, G_2, hX_5, ⟨w_8, G_9, hX_12, hB_G_9, hq_11, ⟨y_13, ey_13, (Or.inl ⟨c_14, ⟨y_15, ey_15, ⟨y_16, ey_16, ⟨y_17, ty_17, (Or.inr ⟨c_18, ⟨rfl, rfl⟩⟩)⟩⟩⟩⟩)⟩⟩⟩⟩), wd_t ht hW⟩, hS.F ht⟩) hS.2.2 dX6_slipBy_53
    · have c_14 : w_8.toInt < y_13.toInt := xI_nle rfl rfl c_14
      refine ic_m1 hx hb dX6_slipBy_27 ?_
      refine lv_goto (tgt := 53) hx hb dX6_slipBy_28 rfl ?_
      exact W.iret (v := (-1)) hx hb hr (fun t ht _ => ⟨⟨(-1), G_9, rfl, (P_slipBy_2_mk ⟨hB_G_9, hF, ⟨by decide, by decide⟩, ⟨r_1, G_2, hX_5, ⟨w_8, G_9, hX_12, hB_G_9, hq_11, ⟨y_13, ey_13, (Or.inr ⟨c_14, ⟨rfl, rfl⟩⟩)⟩⟩⟩⟩), wd_t ht hW⟩, hS.F ht⟩) hS.2.2 dX6_slipBy_53
  refine lv_if_ne (tgt := 13) hx hb dX6_slipBy_6 rfl (fun c_19 => ?_) (fun c_19 => ?_)
  · have c_19 : r_1.toInt ≠ 0 := xI_ne rfl rfl c_19
    refine lv_iload_n hx hb dX6_slipBy_13 rfl (lv_at hl 2 rfl) ?_
    refine lv_iload_n hx hb dX6_slipBy_14 rfl (lv_at hl 0 rfl) ?_
    refine lv_irem hx hb dX6_slipBy_15 (fun q => by have q := xI_eq (Y := 0) rfl rfl q; omega) ?_
    refine lv_topi (fun y_20 ey_20 => ?_)
    exact hJ_10 y_20 _ _ _ ⟨G_2, (Jn_k_slipBy_2_1_mk (Or.inr ⟨c_19, ⟨y_20, ey_20, ⟨rfl, rfl⟩⟩⟩)), hW, hB_G_2, hF, (Fr.rf (rs := []) (fs := [])), hS, lv_sub hl [1] rfl⟩
  · have c_19 : r_1.toInt = 0 := xI_eq rfl rfl c_19
    refine ic_0 hx hb dX6_slipBy_9 ?_
    refine lv_goto (tgt := 16) hx hb dX6_slipBy_10 rfl ?_
    have qc_21 : (0 : Int32).toInt = 0 := rfl
    exact hJ_10 0 _ _ _ ⟨G_2, (Jn_k_slipBy_2_1_mk (Or.inl ⟨c_19, ⟨rfl, rfl⟩⟩)), hW, hB_G_2, hF, (Fr.rf (rs := []) (fs := [])), hS, lv_sub hl [1] rfl⟩

set_option maxHeartbeats 4000000 in
set_option maxRecDepth 100000 in
theorem k_emit_2 (l : Launch) (D : va_G) (k : KT) (A : Nat → Prop) (a : Nat → Nat) (z : SK) (G : GS) (p0 : Int32) (p1 : Int32)  : Met l yX6_emit (WS yX6_emit cX6_emit 3 none) ({ frames := 0, cells := 0, slots := 0, locals := 0 }) (va_Pc [.ref (a 2), .int p0, .int p1] (cW D k A a z G)) (va_Qv (fun (G1 : GS) => P_emit_2 p0 p1 G G1) (fun (G1 : GS) t => Wd D k A a G1 t.heap) A) 0 0 A := by
  refine Met.ofW (cc := cX6_emit) (maxL := 3) (ret := none) (by decide) rfl ?_
  intro p e s m args below meth c s₁ B hml hv
  obtain ⟨rfl, hW, hB_G, hK, hZ⟩ := hv
  have hx := B.exec
  have hb := B.bytes
  have hr := B.returns
  have hts := atoms_spec (ws := WS yX6_emit cX6_emit 3 none) B.pre
  have hgd : ∀ w ∈ gd, w ∈ WS yX6_emit cX6_emit 3 none := fun w h => List.mem_cons_of_mem _ h
  have hg : ∀ w ∈ gd, w.before _ s = true := fun w h => hts w (hgd w h)
  have hown : s.vm.findClass RX6 = some m.cls := findClass_of_methodNamed B.named
  have hS : va_S A s.heap s.heap [] := va_S.rf
  have hF : Fr [27] [(2, 13)] G G := Fr.rf
  have hl := lv_entry ([.ref (a 2), .int p0, .int p1]) (n := 3) (Nat.le_of_ble_eq_true rfl)
  rw [lg_entry_eq]
  generalize (lg_sl ([.ref (a 2), .int p0, .int p1]) ++ List.replicate (3 - (lg_sl ([.ref (a 2), .int p0, .int p1])).length) Slot.unset).toArray = ls at hl ⊢
  have hl : lv_has ls 3 [(0, .ref (a 2)), (1, .int p0), (2, .int p1)] := hl
  refine lv_aload_n hx hb dX6_emit_0 rfl (lv_at hl 0 rfl) ?_
  have b_1 : 0 ≤ (G.1 2 13).toInt ∧ (G.1 2 13).toInt ≤ 580 := bd_2_13 hB_G
  refine S_getI (v := (G.1 2 13)) (C := RX6) (T := TX6) (N := 17) hx hb hg iX6 hown hK hW kd_2 rfl 13 (lt_b rfl) (hg (Cond.fieldLink RX6 55 "SlabWalk$Paving" "coded" "I") m199) (fun _ h9 => h9) rfl rfl dX6_emit_1 ?_
  refine lv_sipush (v := 580) hx hb dX6_emit_4 (by decide) ?_
  refine lv_icmp_ge (tgt := 32) hx hb dX6_emit_7 rfl (fun c_2 => ?_) (fun c_2 => ?_)
  · have c_2 : 580 ≤ (G.1 2 13).toInt := xI_le rfl rfl c_2
    exact W.vret hx hb hr (fun t ht _ => ⟨⟨G, rfl, (P_emit_2_mk ⟨hB_G, hF, (Or.inl ⟨c_2, rfl⟩)⟩), wd_t ht hW⟩, hS.F ht⟩) hS.2.2 dX6_emit_32
  · have c_2 : (G.1 2 13).toInt < 580 := xI_nle rfl rfl c_2
    refine lv_aload_n hx hb dX6_emit_10 rfl (lv_at hl 0 rfl) ?_
    refine S_getR (n := 27) (C := RX6) (T := TX6) (N := 17) hx hb hg iX6 hown hK hW kd_2 rfl 7 (lt_b rfl) (hg (Cond.fieldLink RX6 33 "SlabWalk$Paving" "code" "[I") m181) (fun _ h9 => h9) rfl dX6_emit_11 ?_
    refine lv_aload_n hx hb dX6_emit_14 rfl (lv_at hl 0 rfl) ?_
    refine lv_dup hx hb dX6_emit_15 rfl ?_
    refine S_getI (v := (G.1 2 13)) (C := RX6) (T := TX6) (N := 17) hx hb hg iX6 hown hK hW kd_2 rfl 13 (lt_b rfl) (hg (Cond.fieldLink RX6 55 "SlabWalk$Paving" "coded" "I") m199) (fun _ h9 => h9) rfl rfl dX6_emit_16 ?_
    refine lv_dup_x1 hx hb dX6_emit_19 rfl rfl ?_
    refine ic_1 hx hb dX6_emit_20 ?_
    refine lv_iadd hx hb dX6_emit_21 ?_
    refine lv_topi (fun y_3 ey_3 => ?_)
    have ty_3 : y_3.toInt = (G.1 2 13).toInt + 1 := xI_add rfl rfl ey_3 ((by first | exact ok_21 b_1.1 | omega)) ((by first | exact ok_22 b_1.2 | omega))
    refine S_putI (ty := .int) (C := RX6) (T := TX6) (N := 17) hx hb hg iX6 tyX6 tyX6_ok nmX6 hown hK hW hS kd_2 rfl 13 (lt_b rfl) (hg (Cond.fieldLink RX6 55 "SlabWalk$Paving" "coded" "I") m199) (fun _ h9 => h9) rfl (by decide +kernel) rfl rfl rfl dX6_emit_22 (fun G_4 H locs eG_4 hW hS => ?_)
    have hB_G_4 : Bd G_4 := hB_G.put (V := y_3.toInt) (lo := 0) (hi := 580) eG_4 rfl rfl rfl ((by first | exact ok_23 b_1.1 ty_3 | omega)) ((by first | exact ok_24 b_1.2 c_2 ty_3 | omega)) (hB_G.2.put eG_4 rfl)
    have hF := hF.put eG_4 (Or.inr (by decide))
    refine lv_iload_n hx hb dX6_emit_25 rfl (lv_at hl 1 rfl) ?_
    refine lv_iload_n hx hb dX6_emit_26 rfl (lv_at hl 2 rfl) ?_
    refine lv_bipush (v := 10) hx hb dX6_emit_27 (by decide) ?_
    refine lv_ishl hx hb dX6_emit_29 ?_
    refine lv_topi (fun y_5 ey_5 => ?_)
    refine lv_ior hx hb dX6_emit_30 ?_
    refine lv_topi (fun y_6 ey_6 => ?_)
    refine S_iast hx hb hK hW hS kd_27 (vin ((by first | exact b_1.1 | omega)) ((by first | exact ok_25 b_1.2 c_2 | omega))) dX6_emit_31 (fun G_7 H locs eG_7 hW hS => ?_)
    have hB_G_7 : Bd G_7 := hB_G_4.put (lo := (-2147483648)) (hi := 2147483647) eG_7 rfl rfl rfl (tI_rng _).1 (tI_rng _).2 (hB_G_4.2.put eG_7 rfl)
    have hF := hF.put eG_7 (Or.inl (by decide))
    exact W.vret hx hb hr (fun t ht _ => ⟨⟨G_7, rfl, (P_emit_2_mk ⟨hB_G_7, hF, (Or.inr ⟨c_2, ⟨y_3, ty_3, ⟨y_5, ey_5, ⟨y_6, ey_6, ⟨(Fr.put (rs := [27]) (fs := [(2, 13)]) (Fr.put (rs := [27]) (fs := [(2, 13)]) Fr.rf eG_4 (Or.inr (by decide))) eG_7 (Or.inl (by decide))), ((gp_ne eG_7 (fun q => absurd q.1 (Nat.ne_of_beq_eq_false rfl))).trans (gp_eq eG_4)), (rw_ast eG_7).trans (congrArg (fun q => upd q ((G.1 2 13).toNatClampNeg) y_6) (rw_put eG_4 (by decide)))⟩⟩⟩⟩⟩)⟩), wd_t ht hW⟩, hS.F ht⟩) hS.2.2 dX6_emit_32

set_option maxHeartbeats 4000000 in
set_option maxRecDepth 100000 in
theorem k_empty_2 (l : Launch) (D : va_G) (k : KT) (A : Nat → Prop) (a : Nat → Nat) (z : SK) (G : GS)   : Met l yX6_empty (WS yX6_empty cX6_empty 1 none) ({ frames := 0, cells := 0, slots := 0, locals := 0 }) (va_Pc [.ref (a 2)] (cW D k A a z G)) (va_Qv (fun (G1 : GS) => P_empty_2 G G1) (fun (G1 : GS) t => Wd D k A a G1 t.heap) A) 0 0 A := by
  refine Met.ofW (cc := cX6_empty) (maxL := 1) (ret := none) (by decide) rfl ?_
  intro p e s m args below meth c s₁ B hml hv
  obtain ⟨rfl, hW, hB_G, hK, hZ⟩ := hv
  have hx := B.exec
  have hb := B.bytes
  have hr := B.returns
  have hts := atoms_spec (ws := WS yX6_empty cX6_empty 1 none) B.pre
  have hgd : ∀ w ∈ gd, w ∈ WS yX6_empty cX6_empty 1 none := fun w h => List.mem_cons_of_mem _ h
  have hg : ∀ w ∈ gd, w.before _ s = true := fun w h => hts w (hgd w h)
  have hown : s.vm.findClass RX6 = some m.cls := findClass_of_methodNamed B.named
  have hS : va_S A s.heap s.heap [] := va_S.rf
  have hF : Fr [26] [(2, 9), (2, 10), (2, 11), (2, 12), (2, 13), (2, 14), (2, 15), (2, 16)] G G := Fr.rf
  have hl := lv_entry ([.ref (a 2)]) (n := 1) (Nat.le_of_ble_eq_true rfl)
  rw [lg_entry_eq]
  generalize (lg_sl ([.ref (a 2)]) ++ List.replicate (1 - (lg_sl ([.ref (a 2)])).length) Slot.unset).toArray = ls at hl ⊢
  have hl : lv_has ls 1 [(0, .ref (a 2))] := hl
  refine lv_aload_n hx hb dX6_empty_0 rfl (lv_at hl 0 rfl) ?_
  refine ic_0 hx hb dX6_empty_1 ?_
  refine S_putI (ty := .int) (C := RX6) (T := TX6) (N := 17) hx hb hg iX6 tyX6 tyX6_ok nmX6 hown hK hW hS kd_2 rfl 9 (lt_b rfl) (hg (Cond.fieldLink RX6 42 "SlabWalk$Paving" "streets" "I") m186) (fun _ h9 => h9) rfl (by decide +kernel) rfl rfl rfl dX6_empty_2 (fun G_1 H locs eG_1 hW hS => ?_)
  have hB_G_1 : Bd G_1 := hB_G.put (V := 0) (lo := 0) (hi := 3) eG_1 rfl rfl rfl (by decide) (by decide) (hB_G.2.put eG_1 rfl)
  have hF := hF.put eG_1 (Or.inr (by decide))
  refine lv_aload_n hx hb dX6_empty_5 rfl (lv_at hl 0 rfl) ?_
  refine ic_0 hx hb dX6_empty_6 ?_
  refine S_putI (ty := .int) (C := RX6) (T := TX6) (N := 17) hx hb hg iX6 tyX6 tyX6_ok nmX6 hown hK hW hS kd_2 rfl 10 (lt_b rfl) (hg (Cond.fieldLink RX6 46 "SlabWalk$Paving" "walkers" "I") m189) (fun _ h9 => h9) rfl (by decide +kernel) rfl rfl rfl dX6_empty_7 (fun G_2 H locs eG_2 hW hS => ?_)
  have hB_G_2 : Bd G_2 := hB_G_1.put (V := 0) (lo := 0) (hi := 4) eG_2 rfl rfl rfl (by decide) (by decide) (hB_G_1.2.walkers (P := 2) eG_2 (by decide) (fun w hw => by have : (0 : Int32).toInt = 0 := rfl; omega))
  have hF := hF.put eG_2 (Or.inr (by decide))
  refine lv_aload_n hx hb dX6_empty_10 rfl (lv_at hl 0 rfl) ?_
  refine ic_0 hx hb dX6_empty_11 ?_
  refine S_putI (ty := .int) (C := RX6) (T := TX6) (N := 17) hx hb hg iX6 tyX6 tyX6_ok nmX6 hown hK hW hS kd_2 rfl 11 (lt_b rfl) (hg (Cond.fieldLink RX6 49 "SlabWalk$Paving" "rules" "I") m192) (fun _ h9 => h9) rfl (by decide +kernel) rfl rfl rfl dX6_empty_12 (fun G_3 H locs eG_3 hW hS => ?_)
  have hB_G_3 : Bd G_3 := hB_G_2.put (V := 0) (lo := 0) (hi := 6) eG_3 rfl rfl rfl (by decide) (by decide) (hB_G_2.2.put eG_3 rfl)
  have hF := hF.put eG_3 (Or.inr (by decide))
  refine lv_aload_n hx hb dX6_empty_15 rfl (lv_at hl 0 rfl) ?_
  refine ic_0 hx hb dX6_empty_16 ?_
  refine S_putI (ty := .int) (C := RX6) (T := TX6) (N := 17) hx hb hg iX6 tyX6 tyX6_ok nmX6 hown hK hW hS kd_2 rfl 12 (lt_b rfl) (hg (Cond.fieldLink RX6 52 "SlabWalk$Paving" "units" "I") m196) (fun _ h9 => h9) rfl (by decide +kernel) rfl rfl rfl dX6_empty_17 (fun G_4 H locs eG_4 hW hS => ?_)
  have hB_G_4 : Bd G_4 := hB_G_3.put (V := 0) (lo := 0) (hi := 90) eG_4 rfl rfl rfl (by decide) (by decide) (hB_G_3.2.put eG_4 rfl)
  have hF := hF.put eG_4 (Or.inr (by decide))
  refine lv_aload_n hx hb dX6_empty_20 rfl (lv_at hl 0 rfl) ?_
  refine ic_0 hx hb dX6_empty_21 ?_
  refine S_putI (ty := .int) (C := RX6) (T := TX6) (N := 17) hx hb hg iX6 tyX6 tyX6_ok nmX6 hown hK hW hS kd_2 rfl 13 (lt_b rfl) (hg (Cond.fieldLink RX6 55 "SlabWalk$Paving" "coded" "I") m199) (fun _ h9 => h9) rfl (by decide +kernel) rfl rfl rfl dX6_empty_22 (fun G_5 H locs eG_5 hW hS => ?_)
  have hB_G_5 : Bd G_5 := hB_G_4.put (V := 0) (lo := 0) (hi := 580) eG_5 rfl rfl rfl (by decide) (by decide) (hB_G_4.2.put eG_5 rfl)
  have hF := hF.put eG_5 (Or.inr (by decide))
  refine lv_aload_n hx hb dX6_empty_25 rfl (lv_at hl 0 rfl) ?_
  refine lv_bipush (v := 30) hx hb dX6_empty_26 (by decide) ?_
  refine S_putI (ty := .int) (C := RX6) (T := TX6) (N := 17) hx hb hg iX6 tyX6 tyX6_ok nmX6 hown hK hW hS kd_2 rfl 14 (lt_b rfl) (hg (Cond.fieldLink RX6 58 "SlabWalk$Paving" "hand" "I") m201) (fun _ h9 => h9) rfl (by decide +kernel) rfl rfl rfl dX6_empty_28 (fun G_6 H locs eG_6 hW hS => ?_)
  have hB_G_6 : Bd G_6 := hB_G_5.put (V := 30) (lo := 0) (hi := 99) eG_6 rfl rfl rfl (by decide) (by decide) (hB_G_5.2.put eG_6 rfl)
  have hF := hF.put eG_6 (Or.inr (by decide))
  refine lv_aload_n hx hb dX6_empty_31 rfl (lv_at hl 0 rfl) ?_
  refine lv_bipush (v := 10) hx hb dX6_empty_32 (by decide) ?_
  refine S_putI (ty := .int) (C := RX6) (T := TX6) (N := 17) hx hb hg iX6 tyX6 tyX6_ok nmX6 hown hK hW hS kd_2 rfl 15 (lt_b rfl) (hg (Cond.fieldLink RX6 61 "SlabWalk$Paving" "slack" "I") m204) (fun _ h9 => h9) rfl (by decide +kernel) rfl rfl rfl dX6_empty_34 (fun G_7 H locs eG_7 hW hS => ?_)
  have hB_G_7 : Bd G_7 := hB_G_6.put (V := 10) (lo := 0) (hi := 99) eG_7 rfl rfl rfl (by decide) (by decide) (hB_G_6.2.put eG_7 rfl)
  have hF := hF.put eG_7 (Or.inr (by decide))
  refine lv_aload_n hx hb dX6_empty_37 rfl (lv_at hl 0 rfl) ?_
  refine ic_0 hx hb dX6_empty_38 ?_
  refine S_putI (ty := .int) (C := RX6) (T := TX6) (N := 17) hx hb hg iX6 tyX6 tyX6_ok nmX6 hown hK hW hS kd_2 rfl 16 (lt_b rfl) (hg (Cond.fieldLink RX6 64 "SlabWalk$Paving" "draw" "I") m207) (fun _ h9 => h9) rfl (by decide +kernel) rfl rfl rfl dX6_empty_39 (fun G_8 H locs eG_8 hW hS => ?_)
  have hB_G_8 : Bd G_8 := hB_G_7.put (V := 0) (lo := 0) (hi := 999) eG_8 rfl rfl rfl (by decide) (by decide) (hB_G_7.2.put eG_8 rfl)
  have hF := hF.put eG_8 (Or.inr (by decide))
  refine lv_aload_n hx hb dX6_empty_42 rfl (lv_at hl 0 rfl) ?_
  refine S_getR (n := 26) (C := RX6) (T := TX6) (N := 17) hx hb hg iX6 hown hK hW kd_2 rfl 6 (lt_b rfl) (hg (Cond.fieldLink RX6 30 "SlabWalk$Paving" "slip" "[I") m178) (fun _ h9 => h9) rfl dX6_empty_43 ?_
  refine ic_0 hx hb dX6_empty_46 ?_
  refine ic_0 hx hb dX6_empty_47 ?_
  refine S_iast hx hb hK hW hS kd_26 (vin (by decide) (by decide)) dX6_empty_48 (fun G_9 H locs eG_9 hW hS => ?_)
  have hB_G_9 : Bd G_9 := hB_G_8.put (V := 0) (lo := 0) (hi := 9) eG_9 rfl rfl rfl (by decide) (by decide) (hB_G_8.2.put eG_9 rfl)
  have hF := hF.put eG_9 (Or.inl (by decide))
  refine lv_aload_n hx hb dX6_empty_49 rfl (lv_at hl 0 rfl) ?_
  refine S_getR (n := 26) (C := RX6) (T := TX6) (N := 17) hx hb hg iX6 hown hK hW kd_2 rfl 6 (lt_b rfl) (hg (Cond.fieldLink RX6 30 "SlabWalk$Paving" "slip" "[I") m178) (fun _ h9 => h9) rfl dX6_empty_50 ?_
  refine ic_1 hx hb dX6_empty_53 ?_
  refine ic_1 hx hb dX6_empty_54 ?_
  refine S_iast hx hb hK hW hS kd_26 (vin (by decide) (by decide)) dX6_empty_55 (fun G_10 H locs eG_10 hW hS => ?_)
  have hB_G_10 : Bd G_10 := hB_G_9.put (V := 1) (lo := 0) (hi := 9) eG_10 rfl rfl rfl (by decide) (by decide) (hB_G_9.2.put eG_10 rfl)
  have hF := hF.put eG_10 (Or.inl (by decide))
  refine lv_aload_n hx hb dX6_empty_56 rfl (lv_at hl 0 rfl) ?_
  refine S_getR (n := 26) (C := RX6) (T := TX6) (N := 17) hx hb hg iX6 hown hK hW kd_2 rfl 6 (lt_b rfl) (hg (Cond.fieldLink RX6 30 "SlabWalk$Paving" "slip" "[I") m178) (fun _ h9 => h9) rfl dX6_empty_57 ?_
  refine ic_2 hx hb dX6_empty_60 ?_
  refine ic_0 hx hb dX6_empty_61 ?_
  refine S_iast hx hb hK hW hS kd_26 (vin (by decide) (by decide)) dX6_empty_62 (fun G_11 H locs eG_11 hW hS => ?_)
  have hB_G_11 : Bd G_11 := hB_G_10.put (V := 0) (lo := 0) (hi := 9) eG_11 rfl rfl rfl (by decide) (by decide) (hB_G_10.2.put eG_11 rfl)
  have hF := hF.put eG_11 (Or.inl (by decide))
  exact W.vret hx hb hr (fun t ht _ => ⟨⟨G_11, rfl, (P_empty_2_mk ⟨hB_G_11, hF, ⟨(Fr.put (rs := [26]) (fs := [(2, 9), (2, 10), (2, 11), (2, 12), (2, 13), (2, 14), (2, 15), (2, 16)]) (Fr.put (rs := [26]) (fs := [(2, 9), (2, 10), (2, 11), (2, 12), (2, 13), (2, 14), (2, 15), (2, 16)]) (Fr.put (rs := [26]) (fs := [(2, 9), (2, 10), (2, 11), (2, 12), (2, 13), (2, 14), (2, 15), (2, 16)]) (Fr.put (rs := [26]) (fs := [(2, 9), (2, 10), (2, 11), (2, 12), (2, 13), (2, 14), (2, 15), (2, 16)]) (Fr.put (rs := [26]) (fs := [(2, 9), (2, 10), (2, 11), (2, 12), (2, 13), (2, 14), (2, 15), (2, 16)]) (Fr.put (rs := [26]) (fs := [(2, 9), (2, 10), (2, 11), (2, 12), (2, 13), (2, 14), (2, 15), (2, 16)]) (Fr.put (rs := [26]) (fs := [(2, 9), (2, 10), (2, 11), (2, 12), (2, 13), (2, 14), (2, 15), (2, 16)]) (Fr.put (rs := [26]) (fs := [(2, 9), (2, 10), (2, 11), (2, 12), (2, 13), (2, 14), (2, 15), (2, 16)]) (Fr.put (rs := [26]) (fs := [(2, 9), (2, 10), (2, 11), (2, 12), (2, 13), (2, 14), (2, 15), (2, 16)]) (Fr.put (rs := [26]) (fs := [(2, 9), (2, 10), (2, 11), (2, 12), (2, 13), (2, 14), (2, 15), (2, 16)]) (Fr.put (rs := [26]) (fs := [(2, 9), (2, 10), (2, 11), (2, 12), (2, 13), (2, 14), (2, 15), (2, 16)]) Fr.rf eG_1 (Or.inr (by decide))) eG_2 (Or.inr (by decide))) eG_3 (Or.inr (by decide))) eG_4 (Or.inr (by decide))) eG_5 (Or.inr (by decide))) eG_6 (Or.inr (by decide))) eG_7 (Or.inr (by decide))) eG_8 (Or.inr (by decide))) eG_9 (Or.inl (by decide))) eG_10 (Or.inl (by decide))) eG_11 (Or.inl (by decide))), ((gp_ne eG_11 (fun q => absurd q.1 (Nat.ne_of_beq_eq_false rfl))).trans ((gp_ne eG_10 (fun q => absurd q.1 (Nat.ne_of_beq_eq_false rfl))).trans ((gp_ne eG_9 (fun q => absurd q.1 (Nat.ne_of_beq_eq_false rfl))).trans ((gp_ne eG_8 (by decide)).trans ((gp_ne eG_7 (by decide)).trans ((gp_ne eG_6 (by decide)).trans ((gp_ne eG_5 (by decide)).trans ((gp_ne eG_4 (by decide)).trans ((gp_ne eG_3 (by decide)).trans ((gp_ne eG_2 (by decide)).trans (gp_eq eG_1))))))))))), ((gp_ne eG_11 (fun q => absurd q.1 (Nat.ne_of_beq_eq_false rfl))).trans ((gp_ne eG_10 (fun q => absurd q.1 (Nat.ne_of_beq_eq_false rfl))).trans ((gp_ne eG_9 (fun q => absurd q.1 (Nat.ne_of_beq_eq_false rfl))).trans ((gp_ne eG_8 (by decide)).trans ((gp_ne eG_7 (by decide)).trans ((gp_ne eG_6 (by decide)).trans ((gp_ne eG_5 (by decide)).trans ((gp_ne eG_4 (by decide)).trans ((gp_ne eG_3 (by decide)).trans (gp_eq eG_2)))))))))), ((gp_ne eG_11 (fun q => absurd q.1 (Nat.ne_of_beq_eq_false rfl))).trans ((gp_ne eG_10 (fun q => absurd q.1 (Nat.ne_of_beq_eq_false rfl))).trans ((gp_ne eG_9 (fun q => absurd q.1 (Nat.ne_of_beq_eq_false rfl))).trans ((gp_ne eG_8 (by decide)).trans ((gp_ne eG_7 (by decide)).trans ((gp_ne eG_6 (by decide)).trans ((gp_ne eG_5 (by decide)).trans ((gp_ne eG_4 (by decide)).trans (gp_eq eG_3))))))))), ((gp_ne eG_11 (fun q => absurd q.1 (Nat.ne_of_beq_eq_false rfl))).trans ((gp_ne eG_10 (fun q => absurd q.1 (Nat.ne_of_beq_eq_false rfl))).trans ((gp_ne eG_9 (fun q => absurd q.1 (Nat.ne_of_beq_eq_false rfl))).trans ((gp_ne eG_8 (by decide)).trans ((gp_ne eG_7 (by decide)).trans ((gp_ne eG_6 (by decide)).trans ((gp_ne eG_5 (by decide)).trans (gp_eq eG_4)))))))), ((gp_ne eG_11 (fun q => absurd q.1 (Nat.ne_of_beq_eq_false rfl))).trans ((gp_ne eG_10 (fun q => absurd q.1 (Nat.ne_of_beq_eq_false rfl))).trans ((gp_ne eG_9 (fun q => absurd q.1 (Nat.ne_of_beq_eq_false rfl))).trans ((gp_ne eG_8 (by decide)).trans ((gp_ne eG_7 (by decide)).trans ((gp_ne eG_6 (by decide)).trans (gp_eq eG_5))))))), ((gp_ne eG_11 (fun q => absurd q.1 (Nat.ne_of_beq_eq_false rfl))).trans ((gp_ne eG_10 (fun q => absurd q.1 (Nat.ne_of_beq_eq_false rfl))).trans ((gp_ne eG_9 (fun q => absurd q.1 (Nat.ne_of_beq_eq_false rfl))).trans ((gp_ne eG_8 (by decide)).trans ((gp_ne eG_7 (by decide)).trans (gp_eq eG_6)))))), ((gp_ne eG_11 (fun q => absurd q.1 (Nat.ne_of_beq_eq_false rfl))).trans ((gp_ne eG_10 (fun q => absurd q.1 (Nat.ne_of_beq_eq_false rfl))).trans ((gp_ne eG_9 (fun q => absurd q.1 (Nat.ne_of_beq_eq_false rfl))).trans ((gp_ne eG_8 (by decide)).trans (gp_eq eG_7))))), ((gp_ne eG_11 (fun q => absurd q.1 (Nat.ne_of_beq_eq_false rfl))).trans ((gp_ne eG_10 (fun q => absurd q.1 (Nat.ne_of_beq_eq_false rfl))).trans ((gp_ne eG_9 (fun q => absurd q.1 (Nat.ne_of_beq_eq_false rfl))).trans (gp_eq eG_8)))), (rw_ast eG_11).trans (congrArg (fun q => upd q ((2 : Int32).toNatClampNeg) 0) ((rw_ast eG_10).trans (congrArg (fun q => upd q ((1 : Int32).toNatClampNeg) 1) ((rw_ast eG_9).trans (congrArg (fun q => upd q ((0 : Int32).toNatClampNeg) 0) ((rw_put eG_8 (by decide)).trans ((rw_put eG_7 (by decide)).trans ((rw_put eG_6 (by decide)).trans ((rw_put eG_5 (by decide)).trans ((rw_put eG_4 (by decide)).trans ((rw_put eG_3 (by decide)).trans ((rw_put eG_2 (by decide)).trans (rw_put eG_1 (by decide))))))))))))))⟩⟩), wd_t ht hW⟩, hS.F ht⟩) hS.2.2 dX6_empty_63

set_option maxHeartbeats 4000000 in
set_option maxRecDepth 100000 in
theorem k_lay_2 (l : Launch) (D : va_G) (k : KT) (A : Nat → Prop) (a : Nat → Nat) (z : SK) (G : GS) (p0 : Int32) (p1 : Int32) (p2 : Int32) (p3 : Int32) (ha_p3 : 0 ≤ p3.toInt ∧ p3.toInt ≤ 60) : Met l yX6_lay (WS yX6_lay cX6_lay 7 none) ({ frames := 1, cells := 0, slots := 0, locals := 15 }) (va_Pc [.ref (a 2), .int p0, .int p1, .int p2, .int p3] (cW D k A a z G)) (va_Qv (fun (G1 : GS) => P_lay_2 p0 p1 p2 p3 G G1) (fun (G1 : GS) t => Wd D k A a G1 t.heap) A) 0 0 A := by
  refine Met.ofW (cc := cX6_lay) (maxL := 7) (ret := none) (by decide) rfl ?_
  intro p e s m args below meth c s₁ B hml hv
  obtain ⟨rfl, hW, hB_G, hK, hZ⟩ := hv
  have hx := B.exec
  have hb := B.bytes
  have hr := B.returns
  have hts := atoms_spec (ws := WS yX6_lay cX6_lay 7 none) B.pre
  have hgd : ∀ w ∈ gd, w ∈ WS yX6_lay cX6_lay 7 none := fun w h => List.mem_cons_of_mem _ h
  have hg : ∀ w ∈ gd, w.before _ s = true := fun w h => hts w (hgd w h)
  have hown : s.vm.findClass RX6 = some m.cls := findClass_of_methodNamed B.named
  have hS : va_S A s.heap s.heap [] := va_S.rf
  have hF : Fr [20, 21] [] G G := Fr.rf
  have hl := lv_entry ([.ref (a 2), .int p0, .int p1, .int p2, .int p3]) (n := 7) (Nat.le_of_ble_eq_true rfl)
  rw [lg_entry_eq]
  generalize (lg_sl ([.ref (a 2), .int p0, .int p1, .int p2, .int p3]) ++ List.replicate (7 - (lg_sl ([.ref (a 2), .int p0, .int p1, .int p2, .int p3])).length) Slot.unset).toArray = ls at hl ⊢
  have hl : lv_has ls 7 [(0, .ref (a 2)), (1, .int p0), (2, .int p1), (3, .int p2), (4, .int p3)] := hl
  refine lv_aload_n hx hb dX6_lay_0 rfl (lv_at hl 0 rfl) ?_
  have b_1 : 0 ≤ (G.1 2 9).toInt ∧ (G.1 2 9).toInt ≤ 3 := bd_2_9 hB_G
  refine S_getI (v := (G.1 2 9)) (C := RX6) (T := TX6) (N := 17) hx hb hg iX6 hown hK hW kd_2 rfl 9 (lt_b rfl) (hg (Cond.fieldLink RX6 42 "SlabWalk$Paving" "streets" "I") m186) (fun _ h9 => h9) rfl rfl dX6_lay_1 ?_
  refine ic_3 hx hb dX6_lay_4 ?_
  refine lv_icmp_lt (tgt := 9) hx hb dX6_lay_5 rfl (fun c_2 => ?_) (fun c_2 => ?_)
  · have c_2 : (G.1 2 9).toInt < 3 := xI_lt rfl rfl c_2
    refine lv_aload_n hx hb dX6_lay_9 rfl (lv_at hl 0 rfl) ?_
    refine S_getR (n := 20) (C := RX6) (T := TX6) (N := 17) hx hb hg iX6 hown hK hW kd_2 rfl 0 (lt_b rfl) (hg (Cond.fieldLink RX6 9 "SlabWalk$Paving" "length" "[I") m156) (fun _ h9 => h9) rfl dX6_lay_10 ?_
    refine lv_aload_n hx hb dX6_lay_13 rfl (lv_at hl 0 rfl) ?_
    refine S_getI (v := (G.1 2 9)) (C := RX6) (T := TX6) (N := 17) hx hb hg iX6 hown hK hW kd_2 rfl 9 (lt_b rfl) (hg (Cond.fieldLink RX6 42 "SlabWalk$Paving" "streets" "I") m186) (fun _ h9 => h9) rfl rfl dX6_lay_14 ?_
    refine S_iald hx hb hK hW kd_20 (vin ((by first | exact b_1.1 | omega)) ((by first | exact ok_26 b_1.2 c_2 | omega))) dX6_lay_17 (fun y_3 ey_3 => ?_)
    have ty_3 : 0 ≤ y_3.toInt ∧ y_3.toInt ≤ 400 := bv_20 hB_G ey_3
    refine lv_istore (lv' := [(5, .int y_3), (0, .ref (a 2)), (1, .int p0), (2, .int p1), (3, .int p2), (4, .int p3)]) hx hb dX6_lay_18 hl (lt_b rfl) rfl (fun ls hl => ?_)
    refine ic_0 hx hb dX6_lay_20 ?_
    refine lv_istore (lv' := [(6, .int 0), (5, .int y_3), (0, .ref (a 2)), (1, .int p0), (2, .int p1), (3, .int p2), (4, .int p3)]) hx hb dX6_lay_21 hl (lt_b rfl) rfl (fun ls hl => ?_)
    have qc_10 : (0 : Int32).toInt = 0 := rfl
    refine loop_N (Inv := fun n H locs ls => ∃ (G_4 : GS) (x_8 : Int32), (n : Int) = 400 - x_8.toInt ∧ (0 ≤ x_8.toInt ∧ x_8.toInt ≤ 400) ∧ Rc (St_k_lay_2_1 p0 p1 p2 p3 y_3 G) (0, G) (x_8, G_4) ∧ Wd D k A a G_4 H ∧ Bd G_4 ∧ Fr [20, 21] [] G G_4 ∧ Fr [21] [] G G_4 ∧ va_S A s.heap H locs ∧ lv_has ls 7 [(6, .int x_8), (5, .int y_3), (0, .ref (a 2)), (1, .int p0), (2, .int p1), (3, .int p2), (4, .int p3)]) (fun n_7 H locs ls ih_6 hI => ?_) (400 - 0 : Int).toNat ⟨G, 0, (Int.toNat_of_nonneg ((by decide))), ⟨(by decide), (by decide)⟩, Rc.rf, hW, hB_G, hF, Fr.rf, hS, lv_sub hl [0, 1, 2, 3, 4, 5, 6] rfl⟩
    obtain ⟨G_4, x_8, hn_12, f_11, hX_9, hW, hB_G_4, hF, hq_5, hS, hl⟩ := hI
    refine lv_iload hx hb dX6_lay_23 (lv_at hl 0 rfl) ?_
    refine lv_iload hx hb dX6_lay_25 (lv_at hl 6 rfl) ?_
    refine lv_icmp_ge (tgt := 87) hx hb dX6_lay_27 rfl (fun c_13 => ?_) (fun c_13 => ?_)
    · have c_13 : p3.toInt ≤ x_8.toInt := xI_le rfl rfl c_13
      refine lv_aload_n hx hb dX6_lay_87 rfl (lv_at hl 2 rfl) ?_
      refine S_getR (n := 20) (C := RX6) (T := TX6) (N := 17) hx hb hg iX6 hown hK hW kd_2 rfl 0 (lt_b rfl) (hg (Cond.fieldLink RX6 9 "SlabWalk$Paving" "length" "[I") m156) (fun _ h9 => h9) rfl dX6_lay_88 ?_
      refine lv_aload_n hx hb dX6_lay_91 rfl (lv_at hl 2 rfl) ?_
      refine S_getI (v := (G.1 2 9)) (C := RX6) (T := TX6) (N := 17) hx hb hg iX6 hown hK hW kd_2 rfl 9 (lt_b rfl) (hg (Cond.fieldLink RX6 42 "SlabWalk$Paving" "streets" "I") m186) (fun _ h9 => h9) rfl ((hq_5.i9 2 9 rfl rfl).trans (rfl)) dX6_lay_92 ?_
      refine lv_iload hx hb dX6_lay_95 (lv_at hl 1 rfl) ?_
      refine lv_iload hx hb dX6_lay_97 (lv_at hl 6 rfl) ?_
      refine lv_iadd hx hb dX6_lay_99 ?_
      refine lv_topi (fun y_14 ey_14 => ?_)
      have ty_14 : y_14.toInt = y_3.toInt + p3.toInt := xI_add rfl rfl ey_14 ((by first | exact ok_27 ha_p3.1 ty_3.1 | omega)) ((by first | exact ok_28 ha_p3.2 ty_3.2 | omega))
      refine lv_sipush (v := 400) hx hb dX6_lay_100 (by decide) ?_
      refine va_mmin hx hb (by rw [hml]; exact hl.1.symm) hown (hg (Cond.methodLink RX6 71 Lib.Math.min.name) m808) (hg (Cond.static Lib.Math.min.name) m636) (hg (Cond.initialized "java/lang/Math") m132) (hg (Cond.code Lib.Math.min.name Lib.Math.min.code 2 (some .int)) m637) (Nat.le_of_ble_eq_true rfl) (Nat.le_of_ble_eq_true rfl) (Nat.le_of_ble_eq_true rfl) (Nat.le_of_ble_eq_true rfl) dX6_lay_103 ?_
      refine lv_topi (fun y_15 ey_15 => ?_)
      have ty_15 := xI_min (X := y_14.toInt) (Y := 400) rfl rfl ey_15
      refine S_iast hx hb hK hW hS kd_20 (vin ((by first | exact b_1.1 | omega)) ((by first | exact ok_26 b_1.2 c_2 | omega))) dX6_lay_106 (fun G_16 H locs eG_16 hW hS => ?_)
      have hB_G_16 : Bd G_16 := hB_G_4.put (V := y_15.toInt) (lo := 0) (hi := 400) eG_16 rfl rfl rfl ((by first | exact ok_29 ha_p3.1 ty_3.1 ty_14 ty_15 | omega)) ((by first | exact ok_30 ty_15 | omega)) (hB_G_4.2.put eG_16 rfl)
      have hF := hF.put eG_16 (Or.inl (by decide))
      exact W.vret hx hb hr (fun t ht _ => ⟨⟨G_16, rfl, (P_lay_2_mk ⟨hB_G_16, hF, (Or.inl ⟨c_2, ⟨y_3, ey_3, ⟨x_8, G_4, hX_9, f_11, hB_G_4, hq_5, (Or.inl ⟨c_13, ⟨y_14, ty_14, ⟨y_15, ty_15, ⟨(Fr.put (rs := [20]) (fs := []) Fr.rf eG_16 (Or.inl (by decide))), rw_ast eG_16⟩⟩⟩⟩)⟩⟩⟩)⟩), wd_t ht hW⟩, hS.F ht⟩) hS.2.2 dX6_lay_107
    · have c_13 : x_8.toInt < p3.toInt := xI_nle rfl rfl c_13
      refine lv_iload hx hb dX6_lay_30 (lv_at hl 1 rfl) ?_
      refine lv_iload hx hb dX6_lay_32 (lv_at hl 0 rfl) ?_
      refine lv_iadd hx hb dX6_lay_34 ?_
      refine lv_topi (fun y_17 ey_17 => ?_)
      have ty_17 : y_17.toInt = y_3.toInt + x_8.toInt := xI_add rfl rfl ey_17 ((by first | exact ok_15 ty_3.1 f_11.1 | omega)) ((by first | exact ok_31 ty_3.2 f_11.2 | omega))
      refine lv_sipush (v := 400) hx hb dX6_lay_35 (by decide) ?_
      refine lv_icmp_ge (tgt := 87) hx hb dX6_lay_38 rfl (fun c_18 => ?_) (fun c_18 => ?_)
      · have c_18 : 400 ≤ y_17.toInt := xI_le rfl rfl c_18
        refine lv_aload_n hx hb dX6_lay_87 rfl (lv_at hl 2 rfl) ?_
        refine S_getR (n := 20) (C := RX6) (T := TX6) (N := 17) hx hb hg iX6 hown hK hW kd_2 rfl 0 (lt_b rfl) (hg (Cond.fieldLink RX6 9 "SlabWalk$Paving" "length" "[I") m156) (fun _ h9 => h9) rfl dX6_lay_88 ?_
        refine lv_aload_n hx hb dX6_lay_91 rfl (lv_at hl 2 rfl) ?_
        refine S_getI (v := (G.1 2 9)) (C := RX6) (T := TX6) (N := 17) hx hb hg iX6 hown hK hW kd_2 rfl 9 (lt_b rfl) (hg (Cond.fieldLink RX6 42 "SlabWalk$Paving" "streets" "I") m186) (fun _ h9 => h9) rfl ((hq_5.i9 2 9 rfl rfl).trans (rfl)) dX6_lay_92 ?_
        refine lv_iload hx hb dX6_lay_95 (lv_at hl 1 rfl) ?_
        refine lv_iload hx hb dX6_lay_97 (lv_at hl 6 rfl) ?_
        refine lv_iadd hx hb dX6_lay_99 ?_
        refine lv_topi (fun y_19 ey_19 => ?_)
        have ty_19 : y_19.toInt = y_3.toInt + p3.toInt := xI_add rfl rfl ey_19 ((by first | exact ok_27 ha_p3.1 ty_3.1 | omega)) ((by first | exact ok_28 ha_p3.2 ty_3.2 | omega))
        refine lv_sipush (v := 400) hx hb dX6_lay_100 (by decide) ?_
        refine va_mmin hx hb (by rw [hml]; exact hl.1.symm) hown (hg (Cond.methodLink RX6 71 Lib.Math.min.name) m808) (hg (Cond.static Lib.Math.min.name) m636) (hg (Cond.initialized "java/lang/Math") m132) (hg (Cond.code Lib.Math.min.name Lib.Math.min.code 2 (some .int)) m637) (Nat.le_of_ble_eq_true rfl) (Nat.le_of_ble_eq_true rfl) (Nat.le_of_ble_eq_true rfl) (Nat.le_of_ble_eq_true rfl) dX6_lay_103 ?_
        refine lv_topi (fun y_20 ey_20 => ?_)
        have ty_20 := xI_min (X := y_19.toInt) (Y := 400) rfl rfl ey_20
        refine S_iast hx hb hK hW hS kd_20 (vin ((by first | exact b_1.1 | omega)) ((by first | exact ok_26 b_1.2 c_2 | omega))) dX6_lay_106 (fun G_21 H locs eG_21 hW hS => ?_)
        have hB_G_21 : Bd G_21 := hB_G_4.put (V := y_20.toInt) (lo := 0) (hi := 400) eG_21 rfl rfl rfl ((by first | exact ok_29 ha_p3.1 ty_3.1 ty_19 ty_20 | omega)) ((by first | exact ok_30 ty_20 | omega)) (hB_G_4.2.put eG_21 rfl)
        have hF := hF.put eG_21 (Or.inl (by decide))
        exact W.vret hx hb hr (fun t ht _ => ⟨⟨G_21, rfl, (P_lay_2_mk ⟨hB_G_21, hF, (Or.inl ⟨c_2, ⟨y_3, ey_3, ⟨x_8, G_4, hX_9, f_11, hB_G_4, hq_5, (Or.inr ⟨c_13, ⟨y_17, ty_17, ⟨c_18, ⟨y_19, ty_19, ⟨y_20, ty_20, ⟨(Fr.put (rs := [20]) (fs := []) Fr.rf eG_21 (Or.inl (by decide))), rw_ast eG_21⟩⟩⟩⟩⟩⟩)⟩⟩⟩)⟩), wd_t ht hW⟩, hS.F ht⟩) hS.2.2 dX6_lay_107
      · have c_18 : y_17.toInt < 400 := xI_nle rfl rfl c_18
        refine lv_aload_n hx hb dX6_lay_41 rfl (lv_at hl 2 rfl) ?_
        refine S_getR (n := 21) (C := RX6) (T := TX6) (N := 17) hx hb hg iX6 hown hK hW kd_2 rfl 1 (lt_b rfl) (hg (Cond.fieldLink RX6 15 "SlabWalk$Paving" "inches" "[I") m161) (fun _ h9 => h9) rfl dX6_lay_42 ?_
        refine lv_aload_n hx hb dX6_lay_45 rfl (lv_at hl 2 rfl) ?_
        refine S_getI (v := (G.1 2 9)) (C := RX6) (T := TX6) (N := 17) hx hb hg iX6 hown hK hW kd_2 rfl 9 (lt_b rfl) (hg (Cond.fieldLink RX6 42 "SlabWalk$Paving" "streets" "I") m186) (fun _ h9 => h9) rfl ((hq_5.i9 2 9 rfl rfl).trans (rfl)) dX6_lay_46 ?_
        refine lv_sipush (v := 400) hx hb dX6_lay_49 (by decide) ?_
        refine lv_imul hx hb dX6_lay_52 ?_
        refine lv_topi (fun y_22 ey_22 => ?_)
        have ty_22 : y_22.toInt = (G.1 2 9).toInt * 400 := xI_mul rfl rfl ey_22 ((by first | exact ok_32 b_1.1 | omega)) ((by first | exact ok_33 b_1.2 | omega))
        refine lv_iload hx hb dX6_lay_53 (lv_at hl 1 rfl) ?_
        refine lv_iadd hx hb dX6_lay_55 ?_
        refine lv_topi (fun y_23 ey_23 => ?_)
        have ty_23 : y_23.toInt = y_22.toInt + y_3.toInt := xI_add rfl rfl ey_23 ((by first | exact ok_34 b_1.1 ty_3.1 ty_22 | omega)) ((by first | exact ok_35 c_2 ty_3.2 ty_22 | omega))
        refine lv_iload hx hb dX6_lay_56 (lv_at hl 0 rfl) ?_
        refine lv_iadd hx hb dX6_lay_58 ?_
        refine lv_topi (fun y_24 ey_24 => ?_)
        have ty_24 : y_24.toInt = y_23.toInt + x_8.toInt := xI_add rfl rfl ey_24 ((by first | exact ok_36 b_1.1 ty_3.1 f_11.1 ty_22 ty_23 | omega)) ((by first | exact ok_37 b_1.2 ty_17 c_18 ty_22 ty_23 | omega))
        refine lv_iload_n hx hb dX6_lay_59 rfl (lv_at hl 3 rfl) ?_
        refine lv_iload_n hx hb dX6_lay_60 rfl (lv_at hl 4 rfl) ?_
        refine ic_1 hx hb dX6_lay_61 ?_
        refine lv_ishl hx hb dX6_lay_62 ?_
        refine lv_topi (fun y_25 ey_25 => ?_)
        refine lv_ior hx hb dX6_lay_63 ?_
        refine lv_topi (fun y_26 ey_26 => ?_)
        refine lv_iload_n hx hb dX6_lay_64 rfl (lv_at hl 5 rfl) ?_
        refine ic_5 hx hb dX6_lay_65 ?_
        refine lv_ishl hx hb dX6_lay_66 ?_
        refine lv_topi (fun y_27 ey_27 => ?_)
        refine lv_ior hx hb dX6_lay_67 ?_
        refine lv_topi (fun y_28 ey_28 => ?_)
        refine lv_iload hx hb dX6_lay_68 (lv_at hl 0 rfl) ?_
        refine lv_bipush (v := 14) hx hb dX6_lay_70 (by decide) ?_
        refine lv_ishl hx hb dX6_lay_72 ?_
        refine lv_topi (fun y_29 ey_29 => ?_)
        refine lv_ior hx hb dX6_lay_73 ?_
        refine lv_topi (fun y_30 ey_30 => ?_)
        refine lv_iload hx hb dX6_lay_74 (lv_at hl 6 rfl) ?_
        refine lv_bipush (v := 20) hx hb dX6_lay_76 (by decide) ?_
        refine lv_ishl hx hb dX6_lay_78 ?_
        refine lv_topi (fun y_31 ey_31 => ?_)
        refine lv_ior hx hb dX6_lay_79 ?_
        refine lv_topi (fun y_32 ey_32 => ?_)
        refine S_iast hx hb hK hW hS kd_21 (vin ((by first | exact ok_38 b_1.1 ty_3.1 f_11.1 ty_22 ty_23 ty_24 | omega)) ((by first | exact ok_39 b_1.2 c_2 ty_17 c_18 ty_22 ty_23 ty_24 | omega))) dX6_lay_80 (fun G_33 H locs eG_33 hW hS => ?_)
        have hB_G_33 : Bd G_33 := hB_G_4.put (lo := (-2147483648)) (hi := 2147483647) eG_33 rfl rfl rfl (tI_rng _).1 (tI_rng _).2 (hB_G_4.2.put eG_33 rfl)
        have hF := hF.put eG_33 (Or.inl (by decide))
        obtain ⟨y_34, ey_34⟩ : ∃ q, q = x_8 + 1 := ⟨_, rfl⟩
        have ty_34 : y_34.toInt = x_8.toInt + 1 := xI_add rfl rfl ey_34 ((by first | exact ok_21 f_11.1 | omega)) ((by first | exact ok_40 f_11.2 | omega))
        refine lv_iinc (v := y_34) (lv' := [(6, .int y_34), (5, .int y_3), (0, .ref (a 2)), (1, .int p0), (2, .int p1), (3, .int p2), (4, .int p3)]) hx hb dX6_lay_81 hl (k := 0) rfl (by rw [ey_34]; rfl) (lt_b rfl) rfl (fun ls hl => ?_)
        refine lv_goto (tgt := 23) hx hb dX6_lay_84 rfl ?_
        exact ih_6 (400 - y_34.toInt : Int).toNat (by omega) _ _ _ ⟨G_33, y_34, (Int.toNat_of_nonneg ((by first | exact ok_41 ha_p3.2 f_11.2 c_13 ty_34 | omega))), ⟨(by first | exact ok_23 f_11.1 ty_34 | omega), (by first | exact ok_42 ha_p3.2 f_11.2 c_13 ty_34 | omega)⟩, (hX_9.st (St_k_lay_2_1_mk ⟨x_8, G_4, y_34, G_33, rfl, rfl, f_11, hB_G_4, ⟨c_13, ⟨y_17, ty_17, ⟨c_18, ⟨y_22, ty_22, ⟨y_23, ty_23, ⟨y_24, ty_24, ⟨y_25, ey_25, ⟨y_26, ey_26, ⟨y_27, ey_27, ⟨y_28, ey_28, ⟨y_29, ey_29, ⟨y_30, ey_30, ⟨y_31, ey_31, ⟨y_32, ey_32, ⟨y_34, ty_34, ⟨rfl, (Fr.put (rs := [21]) (fs := []) Fr.rf eG_33 (Or.inl (by decide))), rw_ast eG_33⟩⟩⟩⟩⟩⟩⟩⟩⟩⟩⟩⟩⟩⟩⟩⟩⟩)), hW, hB_G_33, hF, (Fr.put (rs := [21]) (fs := []) (Fr.call9 (rs := [21]) (fs := []) Fr.rf hq_5 rfl rfl) eG_33 (Or.inl (by decide))), hS, lv_sub hl [0, 1, 2, 3, 4, 5, 6] rfl⟩
  · have c_2 : 3 ≤ (G.1 2 9).toInt := xI_nlt rfl rfl c_2
    exact W.vret hx hb hr (fun t ht _ => ⟨⟨G, rfl, (P_lay_2_mk ⟨hB_G, hF, (Or.inr ⟨c_2, rfl⟩)⟩), wd_t ht hW⟩, hS.F ht⟩) hS.2.2 dX6_lay_8


noncomputable def rbJ7_fill_53178_0 : List (Nat × List Nat) := [(0, [3]), (1, [61]), (2, [42]), (3, [190]), (4, [62]), (5, [28]), (6, [29]), (7, [162, 0, 13]), (10, [42]), (11, [28]), (12, [27]), (13, [79]), (14, [132, 2, 1]), (17, [167, 255, 244]), (20, [177])]
theorem rcJ7_fill_53178_0 : dgo (lb cJ7_fill_53178) 0 rbJ7_fill_53178_0 = true := by decide +kernel
theorem dJ7_fill_53178_0 : decode cJ7_fill_53178 0 = .ok (.iconst 0, 1) := dk_3 (dw rcJ7_fill_53178_0 0 rfl)
theorem dJ7_fill_53178_1 : decode cJ7_fill_53178 1 = .ok (.istore_n 2, 1) := dk_61 (dw rcJ7_fill_53178_0 1 rfl)
theorem dJ7_fill_53178_2 : decode cJ7_fill_53178 2 = .ok (.aload_n 0, 1) := dk_42 (dw rcJ7_fill_53178_0 2 rfl)
theorem dJ7_fill_53178_3 : decode cJ7_fill_53178 3 = .ok (.arraylength, 1) := dk_190 (dw rcJ7_fill_53178_0 3 rfl)
theorem dJ7_fill_53178_4 : decode cJ7_fill_53178 4 = .ok (.istore_n 3, 1) := dk_62 (dw rcJ7_fill_53178_0 4 rfl)
theorem dJ7_fill_53178_5 : decode cJ7_fill_53178 5 = .ok (.iload_n 2, 1) := dk_28 (dw rcJ7_fill_53178_0 5 rfl)
theorem dJ7_fill_53178_6 : decode cJ7_fill_53178 6 = .ok (.iload_n 3, 1) := dk_29 (dw rcJ7_fill_53178_0 6 rfl)
theorem dJ7_fill_53178_7 : decode cJ7_fill_53178 7 = .ok (.if_icmp .ge 13, 3) := dk_162 (dw rcJ7_fill_53178_0 7 rfl) rfl
theorem dJ7_fill_53178_10 : decode cJ7_fill_53178 10 = .ok (.aload_n 0, 1) := dk_42 (dw rcJ7_fill_53178_0 8 rfl)
theorem dJ7_fill_53178_11 : decode cJ7_fill_53178 11 = .ok (.iload_n 2, 1) := dk_28 (dw rcJ7_fill_53178_0 9 rfl)
theorem dJ7_fill_53178_12 : decode cJ7_fill_53178 12 = .ok (.iload_n 1, 1) := dk_27 (dw rcJ7_fill_53178_0 10 rfl)
theorem dJ7_fill_53178_13 : decode cJ7_fill_53178 13 = .ok (.iastore, 1) := dk_79 (dw rcJ7_fill_53178_0 11 rfl)
theorem dJ7_fill_53178_14 : decode cJ7_fill_53178 14 = .ok (.iinc 2 1, 3) := dk_132 (dw rcJ7_fill_53178_0 12 rfl) rfl
theorem dJ7_fill_53178_17 : decode cJ7_fill_53178 17 = .ok (.goto (-12), 3) := dk_167 (dw rcJ7_fill_53178_0 13 rfl) rfl
theorem dJ7_fill_53178_20 : decode cJ7_fill_53178 20 = .ok (.return_, 1) := dk_177 (dw rcJ7_fill_53178_0 14 rfl)
set_option maxHeartbeats 4000000 in
set_option maxRecDepth 100000 in
theorem k_fill_38 (l : Launch) (D : va_G) (k : KT) (A : Nat → Prop) (a : Nat → Nat) (z : SK) (G : GS) (p0 : Int32)  : Met l yJ7_fill_53178 (WS yJ7_fill_53178 cJ7_fill_53178 4 none) ({ frames := 0, cells := 0, slots := 0, locals := 0 }) (va_Pc [.ref (a 38), .int p0] (cW D k A a z G)) (va_Qv (fun (G1 : GS) => P_fill_38 p0 G G1) (fun (G1 : GS) t => Wd D k A a G1 t.heap) A) 0 0 A := by
  refine Met.ofW (cc := cJ7_fill_53178) (maxL := 4) (ret := none) (by decide) rfl ?_
  intro p e s m args below meth c s₁ B hml hv
  obtain ⟨rfl, hW, hB_G, hK, hZ⟩ := hv
  have hx := B.exec
  have hb := B.bytes
  have hr := B.returns
  have hts := atoms_spec (ws := WS yJ7_fill_53178 cJ7_fill_53178 4 none) B.pre
  have hgd : ∀ w ∈ gd, w ∈ WS yJ7_fill_53178 cJ7_fill_53178 4 none := fun w h => List.mem_cons_of_mem _ h
  have hg : ∀ w ∈ gd, w.before _ s = true := fun w h => hts w (hgd w h)
  have hown : s.vm.findClass RJ7 = some m.cls := findClass_of_methodNamed B.named
  have hS : va_S A s.heap s.heap [] := va_S.rf
  have hF : Fr [38] [] G G := Fr.rf
  have hl := lv_entry ([.ref (a 38), .int p0]) (n := 4) (Nat.le_of_ble_eq_true rfl)
  rw [lg_entry_eq]
  generalize (lg_sl ([.ref (a 38), .int p0]) ++ List.replicate (4 - (lg_sl ([.ref (a 38), .int p0])).length) Slot.unset).toArray = ls at hl ⊢
  have hl : lv_has ls 4 [(0, .ref (a 38)), (1, .int p0)] := hl
  refine ic_0 hx hb dJ7_fill_53178_0 ?_
  refine lv_istore_n (lv' := [(2, .int 0), (0, .ref (a 38)), (1, .int p0)]) hx hb dJ7_fill_53178_1 rfl hl (lt_b rfl) rfl (fun ls hl => ?_)
  refine lv_aload_n hx hb dJ7_fill_53178_2 rfl (lv_at hl 1 rfl) ?_
  refine S_alen (v := 3) hx hb hK hW kd_38 1 rfl rfl dJ7_fill_53178_3 ?_
  refine lv_istore_n (lv' := [(3, .int 3), (2, .int 0), (0, .ref (a 38)), (1, .int p0)]) hx hb dJ7_fill_53178_4 rfl hl (lt_b rfl) rfl (fun ls hl => ?_)
  have qc_7 : (0 : Int32).toInt = 0 := rfl
  refine loop_N (Inv := fun n H locs ls => ∃ (G_1 : GS) (x_5 : Int32), (n : Int) = 3 - x_5.toInt ∧ (0 ≤ x_5.toInt ∧ x_5.toInt ≤ 3) ∧ Rc (St_k_fill_38_1 p0) (0, G) (x_5, G_1) ∧ Wd D k A a G_1 H ∧ Bd G_1 ∧ Fr [38] [] G G_1 ∧ Fr [38] [] G G_1 ∧ va_S A s.heap H locs ∧ lv_has ls 4 [(3, .int 3), (2, .int x_5), (0, .ref (a 38)), (1, .int p0)]) (fun n_4 H locs ls ih_3 hI => ?_) (3 - 0 : Int).toNat ⟨G, 0, (Int.toNat_of_nonneg ((by decide))), ⟨(by decide), (by decide)⟩, Rc.rf, hW, hB_G, hF, Fr.rf, hS, lv_sub hl [0, 1, 2, 3] rfl⟩
  obtain ⟨G_1, x_5, hn_9, f_8, hX_6, hW, hB_G_1, hF, hq_2, hS, hl⟩ := hI
  refine lv_iload_n hx hb dJ7_fill_53178_5 rfl (lv_at hl 1 rfl) ?_
  refine lv_iload_n hx hb dJ7_fill_53178_6 rfl (lv_at hl 0 rfl) ?_
  refine lv_icmp_ge (tgt := 20) hx hb dJ7_fill_53178_7 rfl (fun c_10 => ?_) (fun c_10 => ?_)
  · have c_10 : 3 ≤ x_5.toInt := xI_le rfl rfl c_10
    exact W.vret hx hb hr (fun t ht _ => ⟨⟨G_1, rfl, (P_fill_38_mk ⟨hB_G_1, hF, ⟨x_5, G_1, hX_6, f_8, hB_G_1, hq_2, ⟨c_10, rfl⟩⟩⟩), wd_t ht hW⟩, hS.F ht⟩) hS.2.2 dJ7_fill_53178_20
  · have c_10 : x_5.toInt < 3 := xI_nle rfl rfl c_10
    refine lv_aload_n hx hb dJ7_fill_53178_10 rfl (lv_at hl 2 rfl) ?_
    refine lv_iload_n hx hb dJ7_fill_53178_11 rfl (lv_at hl 1 rfl) ?_
    refine lv_iload_n hx hb dJ7_fill_53178_12 rfl (lv_at hl 3 rfl) ?_
    refine S_iast hx hb hK hW hS kd_38 (vin ((by first | exact f_8.1 | omega)) ((by first | exact ok_26 f_8.2 c_10 | omega))) dJ7_fill_53178_13 (fun G_11 H locs eG_11 hW hS => ?_)
    have hB_G_11 : Bd G_11 := hB_G_1.put (lo := (-2147483648)) (hi := 2147483647) eG_11 rfl rfl rfl (tI_rng _).1 (tI_rng _).2 (hB_G_1.2.put eG_11 rfl)
    have hF := hF.put eG_11 (Or.inl (by decide))
    obtain ⟨y_12, ey_12⟩ : ∃ q, q = x_5 + 1 := ⟨_, rfl⟩
    have ty_12 : y_12.toInt = x_5.toInt + 1 := xI_add rfl rfl ey_12 ((by first | exact ok_21 f_8.1 | omega)) ((by first | exact ok_43 f_8.2 | omega))
    refine lv_iinc (v := y_12) (lv' := [(2, .int y_12), (3, .int 3), (0, .ref (a 38)), (1, .int p0)]) hx hb dJ7_fill_53178_14 hl (k := 1) rfl (by rw [ey_12]; rfl) (lt_b rfl) rfl (fun ls hl => ?_)
    refine lv_goto (tgt := 5) hx hb dJ7_fill_53178_17 rfl ?_
    exact ih_3 (3 - y_12.toInt : Int).toNat (by omega) _ _ _ ⟨G_11, y_12, (Int.toNat_of_nonneg ((by first | exact ok_44 f_8.2 c_10 ty_12 | omega))), ⟨(by first | exact ok_23 f_8.1 ty_12 | omega), (by first | exact ok_45 f_8.2 c_10 ty_12 | omega)⟩, (hX_6.st (St_k_fill_38_1_mk ⟨x_5, G_1, y_12, G_11, rfl, rfl, f_8, hB_G_1, ⟨c_10, ⟨y_12, ty_12, ⟨rfl, (Fr.put (rs := [38]) (fs := []) Fr.rf eG_11 (Or.inl (by decide))), rw_ast eG_11⟩⟩⟩⟩)), hW, hB_G_11, hF, (Fr.put (rs := [38]) (fs := []) (Fr.call9 (rs := [38]) (fs := []) Fr.rf hq_2 rfl rfl) eG_11 (Or.inl (by decide))), hS, lv_sub hl [1, 0, 2, 3] rfl⟩

set_option maxHeartbeats 4000000 in
set_option maxRecDepth 100000 in
theorem k_fill_58 (l : Launch) (D : va_G) (k : KT) (A : Nat → Prop) (a : Nat → Nat) (z : SK) (G : GS) (p0 : Int32)  : Met l yJ7_fill_53178 (WS yJ7_fill_53178 cJ7_fill_53178 4 none) ({ frames := 0, cells := 0, slots := 0, locals := 0 }) (va_Pc [.ref (a 58), .int p0] (cW D k A a z G)) (va_Qv (fun (G1 : GS) => P_fill_58 p0 G G1) (fun (G1 : GS) t => Wd D k A a G1 t.heap) A) 0 0 A := by
  refine Met.ofW (cc := cJ7_fill_53178) (maxL := 4) (ret := none) (by decide) rfl ?_
  intro p e s m args below meth c s₁ B hml hv
  obtain ⟨rfl, hW, hB_G, hK, hZ⟩ := hv
  have hx := B.exec
  have hb := B.bytes
  have hr := B.returns
  have hts := atoms_spec (ws := WS yJ7_fill_53178 cJ7_fill_53178 4 none) B.pre
  have hgd : ∀ w ∈ gd, w ∈ WS yJ7_fill_53178 cJ7_fill_53178 4 none := fun w h => List.mem_cons_of_mem _ h
  have hg : ∀ w ∈ gd, w.before _ s = true := fun w h => hts w (hgd w h)
  have hown : s.vm.findClass RJ7 = some m.cls := findClass_of_methodNamed B.named
  have hS : va_S A s.heap s.heap [] := va_S.rf
  have hF : Fr [58] [] G G := Fr.rf
  have hl := lv_entry ([.ref (a 58), .int p0]) (n := 4) (Nat.le_of_ble_eq_true rfl)
  rw [lg_entry_eq]
  generalize (lg_sl ([.ref (a 58), .int p0]) ++ List.replicate (4 - (lg_sl ([.ref (a 58), .int p0])).length) Slot.unset).toArray = ls at hl ⊢
  have hl : lv_has ls 4 [(0, .ref (a 58)), (1, .int p0)] := hl
  refine ic_0 hx hb dJ7_fill_53178_0 ?_
  refine lv_istore_n (lv' := [(2, .int 0), (0, .ref (a 58)), (1, .int p0)]) hx hb dJ7_fill_53178_1 rfl hl (lt_b rfl) rfl (fun ls hl => ?_)
  refine lv_aload_n hx hb dJ7_fill_53178_2 rfl (lv_at hl 1 rfl) ?_
  refine S_alen (v := 10) hx hb hK hW kd_58 1 rfl rfl dJ7_fill_53178_3 ?_
  refine lv_istore_n (lv' := [(3, .int 10), (2, .int 0), (0, .ref (a 58)), (1, .int p0)]) hx hb dJ7_fill_53178_4 rfl hl (lt_b rfl) rfl (fun ls hl => ?_)
  have qc_7 : (0 : Int32).toInt = 0 := rfl
  refine loop_N (Inv := fun n H locs ls => ∃ (G_1 : GS) (x_5 : Int32), (n : Int) = 10 - x_5.toInt ∧ (0 ≤ x_5.toInt ∧ x_5.toInt ≤ 10) ∧ Rc (St_k_fill_58_1 p0) (0, G) (x_5, G_1) ∧ Wd D k A a G_1 H ∧ Bd G_1 ∧ Fr [58] [] G G_1 ∧ Fr [58] [] G G_1 ∧ va_S A s.heap H locs ∧ lv_has ls 4 [(3, .int 10), (2, .int x_5), (0, .ref (a 58)), (1, .int p0)]) (fun n_4 H locs ls ih_3 hI => ?_) (10 - 0 : Int).toNat ⟨G, 0, (Int.toNat_of_nonneg ((by decide))), ⟨(by decide), (by decide)⟩, Rc.rf, hW, hB_G, hF, Fr.rf, hS, lv_sub hl [0, 1, 2, 3] rfl⟩
  obtain ⟨G_1, x_5, hn_9, f_8, hX_6, hW, hB_G_1, hF, hq_2, hS, hl⟩ := hI
  refine lv_iload_n hx hb dJ7_fill_53178_5 rfl (lv_at hl 1 rfl) ?_
  refine lv_iload_n hx hb dJ7_fill_53178_6 rfl (lv_at hl 0 rfl) ?_
  refine lv_icmp_ge (tgt := 20) hx hb dJ7_fill_53178_7 rfl (fun c_10 => ?_) (fun c_10 => ?_)
  · have c_10 : 10 ≤ x_5.toInt := xI_le rfl rfl c_10
    exact W.vret hx hb hr (fun t ht _ => ⟨⟨G_1, rfl, (P_fill_58_mk ⟨hB_G_1, hF, ⟨x_5, G_1, hX_6, f_8, hB_G_1, hq_2, ⟨c_10, rfl⟩⟩⟩), wd_t ht hW⟩, hS.F ht⟩) hS.2.2 dJ7_fill_53178_20
  · have c_10 : x_5.toInt < 10 := xI_nle rfl rfl c_10
    refine lv_aload_n hx hb dJ7_fill_53178_10 rfl (lv_at hl 2 rfl) ?_
    refine lv_iload_n hx hb dJ7_fill_53178_11 rfl (lv_at hl 1 rfl) ?_
    refine lv_iload_n hx hb dJ7_fill_53178_12 rfl (lv_at hl 3 rfl) ?_
    refine S_iast hx hb hK hW hS kd_58 (vin ((by first | exact f_8.1 | omega)) ((by first | exact ok_46 f_8.2 c_10 | omega))) dJ7_fill_53178_13 (fun G_11 H locs eG_11 hW hS => ?_)
    have hB_G_11 : Bd G_11 := hB_G_1.put (lo := (-2147483648)) (hi := 2147483647) eG_11 rfl rfl rfl (tI_rng _).1 (tI_rng _).2 (hB_G_1.2.put eG_11 rfl)
    have hF := hF.put eG_11 (Or.inl (by decide))
    obtain ⟨y_12, ey_12⟩ : ∃ q, q = x_5 + 1 := ⟨_, rfl⟩
    have ty_12 : y_12.toInt = x_5.toInt + 1 := xI_add rfl rfl ey_12 ((by first | exact ok_21 f_8.1 | omega)) ((by first | exact ok_47 f_8.2 | omega))
    refine lv_iinc (v := y_12) (lv' := [(2, .int y_12), (3, .int 10), (0, .ref (a 58)), (1, .int p0)]) hx hb dJ7_fill_53178_14 hl (k := 1) rfl (by rw [ey_12]; rfl) (lt_b rfl) rfl (fun ls hl => ?_)
    refine lv_goto (tgt := 5) hx hb dJ7_fill_53178_17 rfl ?_
    exact ih_3 (10 - y_12.toInt : Int).toNat (by omega) _ _ _ ⟨G_11, y_12, (Int.toNat_of_nonneg ((by first | exact ok_48 f_8.2 c_10 ty_12 | omega))), ⟨(by first | exact ok_23 f_8.1 ty_12 | omega), (by first | exact ok_49 f_8.2 c_10 ty_12 | omega)⟩, (hX_6.st (St_k_fill_58_1_mk ⟨x_5, G_1, y_12, G_11, rfl, rfl, f_8, hB_G_1, ⟨c_10, ⟨y_12, ty_12, ⟨rfl, (Fr.put (rs := [58]) (fs := []) Fr.rf eG_11 (Or.inl (by decide))), rw_ast eG_11⟩⟩⟩⟩)), hW, hB_G_11, hF, (Fr.put (rs := [58]) (fs := []) (Fr.call9 (rs := [58]) (fs := []) Fr.rf hq_2 rfl rfl) eG_11 (Or.inl (by decide))), hS, lv_sub hl [1, 0, 2, 3] rfl⟩

set_option maxHeartbeats 4000000 in
set_option maxRecDepth 100000 in
theorem k_fill_42 (l : Launch) (D : va_G) (k : KT) (A : Nat → Prop) (a : Nat → Nat) (z : SK) (G : GS) (p0 : Int32)  : Met l yJ7_fill_53178 (WS yJ7_fill_53178 cJ7_fill_53178 4 none) ({ frames := 0, cells := 0, slots := 0, locals := 0 }) (va_Pc [.ref (a 42), .int p0] (cW D k A a z G)) (va_Qv (fun (G1 : GS) => P_fill_42 p0 G G1) (fun (G1 : GS) t => Wd D k A a G1 t.heap) A) 0 0 A := by
  refine Met.ofW (cc := cJ7_fill_53178) (maxL := 4) (ret := none) (by decide) rfl ?_
  intro p e s m args below meth c s₁ B hml hv
  obtain ⟨rfl, hW, hB_G, hK, hZ⟩ := hv
  have hx := B.exec
  have hb := B.bytes
  have hr := B.returns
  have hts := atoms_spec (ws := WS yJ7_fill_53178 cJ7_fill_53178 4 none) B.pre
  have hgd : ∀ w ∈ gd, w ∈ WS yJ7_fill_53178 cJ7_fill_53178 4 none := fun w h => List.mem_cons_of_mem _ h
  have hg : ∀ w ∈ gd, w.before _ s = true := fun w h => hts w (hgd w h)
  have hown : s.vm.findClass RJ7 = some m.cls := findClass_of_methodNamed B.named
  have hS : va_S A s.heap s.heap [] := va_S.rf
  have hF : Fr [42] [] G G := Fr.rf
  have hl := lv_entry ([.ref (a 42), .int p0]) (n := 4) (Nat.le_of_ble_eq_true rfl)
  rw [lg_entry_eq]
  generalize (lg_sl ([.ref (a 42), .int p0]) ++ List.replicate (4 - (lg_sl ([.ref (a 42), .int p0])).length) Slot.unset).toArray = ls at hl ⊢
  have hl : lv_has ls 4 [(0, .ref (a 42)), (1, .int p0)] := hl
  refine ic_0 hx hb dJ7_fill_53178_0 ?_
  refine lv_istore_n (lv' := [(2, .int 0), (0, .ref (a 42)), (1, .int p0)]) hx hb dJ7_fill_53178_1 rfl hl (lt_b rfl) rfl (fun ls hl => ?_)
  refine lv_aload_n hx hb dJ7_fill_53178_2 rfl (lv_at hl 1 rfl) ?_
  refine S_alen (v := 402) hx hb hK hW kd_42 1 rfl rfl dJ7_fill_53178_3 ?_
  refine lv_istore_n (lv' := [(3, .int 402), (2, .int 0), (0, .ref (a 42)), (1, .int p0)]) hx hb dJ7_fill_53178_4 rfl hl (lt_b rfl) rfl (fun ls hl => ?_)
  have qc_7 : (0 : Int32).toInt = 0 := rfl
  refine loop_N (Inv := fun n H locs ls => ∃ (G_1 : GS) (x_5 : Int32), (n : Int) = 402 - x_5.toInt ∧ (0 ≤ x_5.toInt ∧ x_5.toInt ≤ 402) ∧ Rc (St_k_fill_42_1 p0) (0, G) (x_5, G_1) ∧ Wd D k A a G_1 H ∧ Bd G_1 ∧ Fr [42] [] G G_1 ∧ Fr [42] [] G G_1 ∧ va_S A s.heap H locs ∧ lv_has ls 4 [(3, .int 402), (2, .int x_5), (0, .ref (a 42)), (1, .int p0)]) (fun n_4 H locs ls ih_3 hI => ?_) (402 - 0 : Int).toNat ⟨G, 0, (Int.toNat_of_nonneg ((by decide))), ⟨(by decide), (by decide)⟩, Rc.rf, hW, hB_G, hF, Fr.rf, hS, lv_sub hl [0, 1, 2, 3] rfl⟩
  obtain ⟨G_1, x_5, hn_9, f_8, hX_6, hW, hB_G_1, hF, hq_2, hS, hl⟩ := hI
  refine lv_iload_n hx hb dJ7_fill_53178_5 rfl (lv_at hl 1 rfl) ?_
  refine lv_iload_n hx hb dJ7_fill_53178_6 rfl (lv_at hl 0 rfl) ?_
  refine lv_icmp_ge (tgt := 20) hx hb dJ7_fill_53178_7 rfl (fun c_10 => ?_) (fun c_10 => ?_)
  · have c_10 : 402 ≤ x_5.toInt := xI_le rfl rfl c_10
    exact W.vret hx hb hr (fun t ht _ => ⟨⟨G_1, rfl, (P_fill_42_mk ⟨hB_G_1, hF, ⟨x_5, G_1, hX_6, f_8, hB_G_1, hq_2, ⟨c_10, rfl⟩⟩⟩), wd_t ht hW⟩, hS.F ht⟩) hS.2.2 dJ7_fill_53178_20
  · have c_10 : x_5.toInt < 402 := xI_nle rfl rfl c_10
    refine lv_aload_n hx hb dJ7_fill_53178_10 rfl (lv_at hl 2 rfl) ?_
    refine lv_iload_n hx hb dJ7_fill_53178_11 rfl (lv_at hl 1 rfl) ?_
    refine lv_iload_n hx hb dJ7_fill_53178_12 rfl (lv_at hl 3 rfl) ?_
    refine S_iast hx hb hK hW hS kd_42 (vin ((by first | exact f_8.1 | omega)) ((by first | exact ok_50 f_8.2 c_10 | omega))) dJ7_fill_53178_13 (fun G_11 H locs eG_11 hW hS => ?_)
    have hB_G_11 : Bd G_11 := hB_G_1.put (lo := (-2147483648)) (hi := 2147483647) eG_11 rfl rfl rfl (tI_rng _).1 (tI_rng _).2 (hB_G_1.2.put eG_11 rfl)
    have hF := hF.put eG_11 (Or.inl (by decide))
    obtain ⟨y_12, ey_12⟩ : ∃ q, q = x_5 + 1 := ⟨_, rfl⟩
    have ty_12 : y_12.toInt = x_5.toInt + 1 := xI_add rfl rfl ey_12 ((by first | exact ok_21 f_8.1 | omega)) ((by first | exact ok_51 f_8.2 | omega))
    refine lv_iinc (v := y_12) (lv' := [(2, .int y_12), (3, .int 402), (0, .ref (a 42)), (1, .int p0)]) hx hb dJ7_fill_53178_14 hl (k := 1) rfl (by rw [ey_12]; rfl) (lt_b rfl) rfl (fun ls hl => ?_)
    refine lv_goto (tgt := 5) hx hb dJ7_fill_53178_17 rfl ?_
    exact ih_3 (402 - y_12.toInt : Int).toNat (by omega) _ _ _ ⟨G_11, y_12, (Int.toNat_of_nonneg ((by first | exact ok_52 f_8.2 c_10 ty_12 | omega))), ⟨(by first | exact ok_23 f_8.1 ty_12 | omega), (by first | exact ok_53 f_8.2 c_10 ty_12 | omega)⟩, (hX_6.st (St_k_fill_42_1_mk ⟨x_5, G_1, y_12, G_11, rfl, rfl, f_8, hB_G_1, ⟨c_10, ⟨y_12, ty_12, ⟨rfl, (Fr.put (rs := [42]) (fs := []) Fr.rf eG_11 (Or.inl (by decide))), rw_ast eG_11⟩⟩⟩⟩)), hW, hB_G_11, hF, (Fr.put (rs := [42]) (fs := []) (Fr.call9 (rs := [42]) (fs := []) Fr.rf hq_2 rfl rfl) eG_11 (Or.inl (by decide))), hS, lv_sub hl [1, 0, 2, 3] rfl⟩

set_option maxHeartbeats 4000000 in
set_option maxRecDepth 100000 in
theorem k_fill_43 (l : Launch) (D : va_G) (k : KT) (A : Nat → Prop) (a : Nat → Nat) (z : SK) (G : GS) (p0 : Int32)  : Met l yJ7_fill_53178 (WS yJ7_fill_53178 cJ7_fill_53178 4 none) ({ frames := 0, cells := 0, slots := 0, locals := 0 }) (va_Pc [.ref (a 43), .int p0] (cW D k A a z G)) (va_Qv (fun (G1 : GS) => P_fill_43 p0 G G1) (fun (G1 : GS) t => Wd D k A a G1 t.heap) A) 0 0 A := by
  refine Met.ofW (cc := cJ7_fill_53178) (maxL := 4) (ret := none) (by decide) rfl ?_
  intro p e s m args below meth c s₁ B hml hv
  obtain ⟨rfl, hW, hB_G, hK, hZ⟩ := hv
  have hx := B.exec
  have hb := B.bytes
  have hr := B.returns
  have hts := atoms_spec (ws := WS yJ7_fill_53178 cJ7_fill_53178 4 none) B.pre
  have hgd : ∀ w ∈ gd, w ∈ WS yJ7_fill_53178 cJ7_fill_53178 4 none := fun w h => List.mem_cons_of_mem _ h
  have hg : ∀ w ∈ gd, w.before _ s = true := fun w h => hts w (hgd w h)
  have hown : s.vm.findClass RJ7 = some m.cls := findClass_of_methodNamed B.named
  have hS : va_S A s.heap s.heap [] := va_S.rf
  have hF : Fr [43] [] G G := Fr.rf
  have hl := lv_entry ([.ref (a 43), .int p0]) (n := 4) (Nat.le_of_ble_eq_true rfl)
  rw [lg_entry_eq]
  generalize (lg_sl ([.ref (a 43), .int p0]) ++ List.replicate (4 - (lg_sl ([.ref (a 43), .int p0])).length) Slot.unset).toArray = ls at hl ⊢
  have hl : lv_has ls 4 [(0, .ref (a 43)), (1, .int p0)] := hl
  refine ic_0 hx hb dJ7_fill_53178_0 ?_
  refine lv_istore_n (lv' := [(2, .int 0), (0, .ref (a 43)), (1, .int p0)]) hx hb dJ7_fill_53178_1 rfl hl (lt_b rfl) rfl (fun ls hl => ?_)
  refine lv_aload_n hx hb dJ7_fill_53178_2 rfl (lv_at hl 1 rfl) ?_
  refine S_alen (v := 402) hx hb hK hW kd_43 1 rfl rfl dJ7_fill_53178_3 ?_
  refine lv_istore_n (lv' := [(3, .int 402), (2, .int 0), (0, .ref (a 43)), (1, .int p0)]) hx hb dJ7_fill_53178_4 rfl hl (lt_b rfl) rfl (fun ls hl => ?_)
  have qc_7 : (0 : Int32).toInt = 0 := rfl
  refine loop_N (Inv := fun n H locs ls => ∃ (G_1 : GS) (x_5 : Int32), (n : Int) = 402 - x_5.toInt ∧ (0 ≤ x_5.toInt ∧ x_5.toInt ≤ 402) ∧ Rc (St_k_fill_43_1 p0) (0, G) (x_5, G_1) ∧ Wd D k A a G_1 H ∧ Bd G_1 ∧ Fr [43] [] G G_1 ∧ Fr [43] [] G G_1 ∧ va_S A s.heap H locs ∧ lv_has ls 4 [(3, .int 402), (2, .int x_5), (0, .ref (a 43)), (1, .int p0)]) (fun n_4 H locs ls ih_3 hI => ?_) (402 - 0 : Int).toNat ⟨G, 0, (Int.toNat_of_nonneg ((by decide))), ⟨(by decide), (by decide)⟩, Rc.rf, hW, hB_G, hF, Fr.rf, hS, lv_sub hl [0, 1, 2, 3] rfl⟩
  obtain ⟨G_1, x_5, hn_9, f_8, hX_6, hW, hB_G_1, hF, hq_2, hS, hl⟩ := hI
  refine lv_iload_n hx hb dJ7_fill_53178_5 rfl (lv_at hl 1 rfl) ?_
  refine lv_iload_n hx hb dJ7_fill_53178_6 rfl (lv_at hl 0 rfl) ?_
  refine lv_icmp_ge (tgt := 20) hx hb dJ7_fill_53178_7 rfl (fun c_10 => ?_) (fun c_10 => ?_)
  · have c_10 : 402 ≤ x_5.toInt := xI_le rfl rfl c_10
    exact W.vret hx hb hr (fun t ht _ => ⟨⟨G_1, rfl, (P_fill_43_mk ⟨hB_G_1, hF, ⟨x_5, G_1, hX_6, f_8, hB_G_1, hq_2, ⟨c_10, rfl⟩⟩⟩), wd_t ht hW⟩, hS.F ht⟩) hS.2.2 dJ7_fill_53178_20
  · have c_10 : x_5.toInt < 402 := xI_nle rfl rfl c_10
    refine lv_aload_n hx hb dJ7_fill_53178_10 rfl (lv_at hl 2 rfl) ?_
    refine lv_iload_n hx hb dJ7_fill_53178_11 rfl (lv_at hl 1 rfl) ?_
    refine lv_iload_n hx hb dJ7_fill_53178_12 rfl (lv_at hl 3 rfl) ?_
    refine S_iast hx hb hK hW hS kd_43 (vin ((by first | exact f_8.1 | omega)) ((by first | exact ok_50 f_8.2 c_10 | omega))) dJ7_fill_53178_13 (fun G_11 H locs eG_11 hW hS => ?_)
    have hB_G_11 : Bd G_11 := hB_G_1.put (lo := (-2147483648)) (hi := 2147483647) eG_11 rfl rfl rfl (tI_rng _).1 (tI_rng _).2 (hB_G_1.2.put eG_11 rfl)
    have hF := hF.put eG_11 (Or.inl (by decide))
    obtain ⟨y_12, ey_12⟩ : ∃ q, q = x_5 + 1 := ⟨_, rfl⟩
    have ty_12 : y_12.toInt = x_5.toInt + 1 := xI_add rfl rfl ey_12 ((by first | exact ok_21 f_8.1 | omega)) ((by first | exact ok_51 f_8.2 | omega))
    refine lv_iinc (v := y_12) (lv' := [(2, .int y_12), (3, .int 402), (0, .ref (a 43)), (1, .int p0)]) hx hb dJ7_fill_53178_14 hl (k := 1) rfl (by rw [ey_12]; rfl) (lt_b rfl) rfl (fun ls hl => ?_)
    refine lv_goto (tgt := 5) hx hb dJ7_fill_53178_17 rfl ?_
    exact ih_3 (402 - y_12.toInt : Int).toNat (by omega) _ _ _ ⟨G_11, y_12, (Int.toNat_of_nonneg ((by first | exact ok_52 f_8.2 c_10 ty_12 | omega))), ⟨(by first | exact ok_23 f_8.1 ty_12 | omega), (by first | exact ok_53 f_8.2 c_10 ty_12 | omega)⟩, (hX_6.st (St_k_fill_43_1_mk ⟨x_5, G_1, y_12, G_11, rfl, rfl, f_8, hB_G_1, ⟨c_10, ⟨y_12, ty_12, ⟨rfl, (Fr.put (rs := [43]) (fs := []) Fr.rf eG_11 (Or.inl (by decide))), rw_ast eG_11⟩⟩⟩⟩)), hW, hB_G_11, hF, (Fr.put (rs := [43]) (fs := []) (Fr.call9 (rs := [43]) (fs := []) Fr.rf hq_2 rfl rfl) eG_11 (Or.inl (by decide))), hS, lv_sub hl [1, 0, 2, 3] rfl⟩

set_option maxHeartbeats 4000000 in
set_option maxRecDepth 100000 in
theorem k_fill_44 (l : Launch) (D : va_G) (k : KT) (A : Nat → Prop) (a : Nat → Nat) (z : SK) (G : GS) (p0 : Int32)  : Met l yJ7_fill_53178 (WS yJ7_fill_53178 cJ7_fill_53178 4 none) ({ frames := 0, cells := 0, slots := 0, locals := 0 }) (va_Pc [.ref (a 44), .int p0] (cW D k A a z G)) (va_Qv (fun (G1 : GS) => P_fill_44 p0 G G1) (fun (G1 : GS) t => Wd D k A a G1 t.heap) A) 0 0 A := by
  refine Met.ofW (cc := cJ7_fill_53178) (maxL := 4) (ret := none) (by decide) rfl ?_
  intro p e s m args below meth c s₁ B hml hv
  obtain ⟨rfl, hW, hB_G, hK, hZ⟩ := hv
  have hx := B.exec
  have hb := B.bytes
  have hr := B.returns
  have hts := atoms_spec (ws := WS yJ7_fill_53178 cJ7_fill_53178 4 none) B.pre
  have hgd : ∀ w ∈ gd, w ∈ WS yJ7_fill_53178 cJ7_fill_53178 4 none := fun w h => List.mem_cons_of_mem _ h
  have hg : ∀ w ∈ gd, w.before _ s = true := fun w h => hts w (hgd w h)
  have hown : s.vm.findClass RJ7 = some m.cls := findClass_of_methodNamed B.named
  have hS : va_S A s.heap s.heap [] := va_S.rf
  have hF : Fr [44] [] G G := Fr.rf
  have hl := lv_entry ([.ref (a 44), .int p0]) (n := 4) (Nat.le_of_ble_eq_true rfl)
  rw [lg_entry_eq]
  generalize (lg_sl ([.ref (a 44), .int p0]) ++ List.replicate (4 - (lg_sl ([.ref (a 44), .int p0])).length) Slot.unset).toArray = ls at hl ⊢
  have hl : lv_has ls 4 [(0, .ref (a 44)), (1, .int p0)] := hl
  refine ic_0 hx hb dJ7_fill_53178_0 ?_
  refine lv_istore_n (lv' := [(2, .int 0), (0, .ref (a 44)), (1, .int p0)]) hx hb dJ7_fill_53178_1 rfl hl (lt_b rfl) rfl (fun ls hl => ?_)
  refine lv_aload_n hx hb dJ7_fill_53178_2 rfl (lv_at hl 1 rfl) ?_
  refine S_alen (v := 402) hx hb hK hW kd_44 1 rfl rfl dJ7_fill_53178_3 ?_
  refine lv_istore_n (lv' := [(3, .int 402), (2, .int 0), (0, .ref (a 44)), (1, .int p0)]) hx hb dJ7_fill_53178_4 rfl hl (lt_b rfl) rfl (fun ls hl => ?_)
  have qc_7 : (0 : Int32).toInt = 0 := rfl
  refine loop_N (Inv := fun n H locs ls => ∃ (G_1 : GS) (x_5 : Int32), (n : Int) = 402 - x_5.toInt ∧ (0 ≤ x_5.toInt ∧ x_5.toInt ≤ 402) ∧ Rc (St_k_fill_44_1 p0) (0, G) (x_5, G_1) ∧ Wd D k A a G_1 H ∧ Bd G_1 ∧ Fr [44] [] G G_1 ∧ Fr [44] [] G G_1 ∧ va_S A s.heap H locs ∧ lv_has ls 4 [(3, .int 402), (2, .int x_5), (0, .ref (a 44)), (1, .int p0)]) (fun n_4 H locs ls ih_3 hI => ?_) (402 - 0 : Int).toNat ⟨G, 0, (Int.toNat_of_nonneg ((by decide))), ⟨(by decide), (by decide)⟩, Rc.rf, hW, hB_G, hF, Fr.rf, hS, lv_sub hl [0, 1, 2, 3] rfl⟩
  obtain ⟨G_1, x_5, hn_9, f_8, hX_6, hW, hB_G_1, hF, hq_2, hS, hl⟩ := hI
  refine lv_iload_n hx hb dJ7_fill_53178_5 rfl (lv_at hl 1 rfl) ?_
  refine lv_iload_n hx hb dJ7_fill_53178_6 rfl (lv_at hl 0 rfl) ?_
  refine lv_icmp_ge (tgt := 20) hx hb dJ7_fill_53178_7 rfl (fun c_10 => ?_) (fun c_10 => ?_)
  · have c_10 : 402 ≤ x_5.toInt := xI_le rfl rfl c_10
    exact W.vret hx hb hr (fun t ht _ => ⟨⟨G_1, rfl, (P_fill_44_mk ⟨hB_G_1, hF, ⟨x_5, G_1, hX_6, f_8, hB_G_1, hq_2, ⟨c_10, rfl⟩⟩⟩), wd_t ht hW⟩, hS.F ht⟩) hS.2.2 dJ7_fill_53178_20
  · have c_10 : x_5.toInt < 402 := xI_nle rfl rfl c_10
    refine lv_aload_n hx hb dJ7_fill_53178_10 rfl (lv_at hl 2 rfl) ?_
    refine lv_iload_n hx hb dJ7_fill_53178_11 rfl (lv_at hl 1 rfl) ?_
    refine lv_iload_n hx hb dJ7_fill_53178_12 rfl (lv_at hl 3 rfl) ?_
    refine S_iast hx hb hK hW hS kd_44 (vin ((by first | exact f_8.1 | omega)) ((by first | exact ok_50 f_8.2 c_10 | omega))) dJ7_fill_53178_13 (fun G_11 H locs eG_11 hW hS => ?_)
    have hB_G_11 : Bd G_11 := hB_G_1.put (lo := (-2147483648)) (hi := 2147483647) eG_11 rfl rfl rfl (tI_rng _).1 (tI_rng _).2 (hB_G_1.2.put eG_11 rfl)
    have hF := hF.put eG_11 (Or.inl (by decide))
    obtain ⟨y_12, ey_12⟩ : ∃ q, q = x_5 + 1 := ⟨_, rfl⟩
    have ty_12 : y_12.toInt = x_5.toInt + 1 := xI_add rfl rfl ey_12 ((by first | exact ok_21 f_8.1 | omega)) ((by first | exact ok_51 f_8.2 | omega))
    refine lv_iinc (v := y_12) (lv' := [(2, .int y_12), (3, .int 402), (0, .ref (a 44)), (1, .int p0)]) hx hb dJ7_fill_53178_14 hl (k := 1) rfl (by rw [ey_12]; rfl) (lt_b rfl) rfl (fun ls hl => ?_)
    refine lv_goto (tgt := 5) hx hb dJ7_fill_53178_17 rfl ?_
    exact ih_3 (402 - y_12.toInt : Int).toNat (by omega) _ _ _ ⟨G_11, y_12, (Int.toNat_of_nonneg ((by first | exact ok_52 f_8.2 c_10 ty_12 | omega))), ⟨(by first | exact ok_23 f_8.1 ty_12 | omega), (by first | exact ok_53 f_8.2 c_10 ty_12 | omega)⟩, (hX_6.st (St_k_fill_44_1_mk ⟨x_5, G_1, y_12, G_11, rfl, rfl, f_8, hB_G_1, ⟨c_10, ⟨y_12, ty_12, ⟨rfl, (Fr.put (rs := [44]) (fs := []) Fr.rf eG_11 (Or.inl (by decide))), rw_ast eG_11⟩⟩⟩⟩)), hW, hB_G_11, hF, (Fr.put (rs := [44]) (fs := []) (Fr.call9 (rs := [44]) (fs := []) Fr.rf hq_2 rfl rfl) eG_11 (Or.inl (by decide))), hS, lv_sub hl [1, 0, 2, 3] rfl⟩

set_option maxHeartbeats 4000000 in
set_option maxRecDepth 100000 in
theorem k_fill_45 (l : Launch) (D : va_G) (k : KT) (A : Nat → Prop) (a : Nat → Nat) (z : SK) (G : GS) (p0 : Int32)  : Met l yJ7_fill_53178 (WS yJ7_fill_53178 cJ7_fill_53178 4 none) ({ frames := 0, cells := 0, slots := 0, locals := 0 }) (va_Pc [.ref (a 45), .int p0] (cW D k A a z G)) (va_Qv (fun (G1 : GS) => P_fill_45 p0 G G1) (fun (G1 : GS) t => Wd D k A a G1 t.heap) A) 0 0 A := by
  refine Met.ofW (cc := cJ7_fill_53178) (maxL := 4) (ret := none) (by decide) rfl ?_
  intro p e s m args below meth c s₁ B hml hv
  obtain ⟨rfl, hW, hB_G, hK, hZ⟩ := hv
  have hx := B.exec
  have hb := B.bytes
  have hr := B.returns
  have hts := atoms_spec (ws := WS yJ7_fill_53178 cJ7_fill_53178 4 none) B.pre
  have hgd : ∀ w ∈ gd, w ∈ WS yJ7_fill_53178 cJ7_fill_53178 4 none := fun w h => List.mem_cons_of_mem _ h
  have hg : ∀ w ∈ gd, w.before _ s = true := fun w h => hts w (hgd w h)
  have hown : s.vm.findClass RJ7 = some m.cls := findClass_of_methodNamed B.named
  have hS : va_S A s.heap s.heap [] := va_S.rf
  have hF : Fr [45] [] G G := Fr.rf
  have hl := lv_entry ([.ref (a 45), .int p0]) (n := 4) (Nat.le_of_ble_eq_true rfl)
  rw [lg_entry_eq]
  generalize (lg_sl ([.ref (a 45), .int p0]) ++ List.replicate (4 - (lg_sl ([.ref (a 45), .int p0])).length) Slot.unset).toArray = ls at hl ⊢
  have hl : lv_has ls 4 [(0, .ref (a 45)), (1, .int p0)] := hl
  refine ic_0 hx hb dJ7_fill_53178_0 ?_
  refine lv_istore_n (lv' := [(2, .int 0), (0, .ref (a 45)), (1, .int p0)]) hx hb dJ7_fill_53178_1 rfl hl (lt_b rfl) rfl (fun ls hl => ?_)
  refine lv_aload_n hx hb dJ7_fill_53178_2 rfl (lv_at hl 1 rfl) ?_
  refine S_alen (v := 402) hx hb hK hW kd_45 1 rfl rfl dJ7_fill_53178_3 ?_
  refine lv_istore_n (lv' := [(3, .int 402), (2, .int 0), (0, .ref (a 45)), (1, .int p0)]) hx hb dJ7_fill_53178_4 rfl hl (lt_b rfl) rfl (fun ls hl => ?_)
  have qc_7 : (0 : Int32).toInt = 0 := rfl
  refine loop_N (Inv := fun n H locs ls => ∃ (G_1 : GS) (x_5 : Int32), (n : Int) = 402 - x_5.toInt ∧ (0 ≤ x_5.toInt ∧ x_5.toInt ≤ 402) ∧ Rc (St_k_fill_45_1 p0) (0, G) (x_5, G_1) ∧ Wd D k A a G_1 H ∧ Bd G_1 ∧ Fr [45] [] G G_1 ∧ Fr [45] [] G G_1 ∧ va_S A s.heap H locs ∧ lv_has ls 4 [(3, .int 402), (2, .int x_5), (0, .ref (a 45)), (1, .int p0)]) (fun n_4 H locs ls ih_3 hI => ?_) (402 - 0 : Int).toNat ⟨G, 0, (Int.toNat_of_nonneg ((by decide))), ⟨(by decide), (by decide)⟩, Rc.rf, hW, hB_G, hF, Fr.rf, hS, lv_sub hl [0, 1, 2, 3] rfl⟩
  obtain ⟨G_1, x_5, hn_9, f_8, hX_6, hW, hB_G_1, hF, hq_2, hS, hl⟩ := hI
  refine lv_iload_n hx hb dJ7_fill_53178_5 rfl (lv_at hl 1 rfl) ?_
  refine lv_iload_n hx hb dJ7_fill_53178_6 rfl (lv_at hl 0 rfl) ?_
  refine lv_icmp_ge (tgt := 20) hx hb dJ7_fill_53178_7 rfl (fun c_10 => ?_) (fun c_10 => ?_)
  · have c_10 : 402 ≤ x_5.toInt := xI_le rfl rfl c_10
    exact W.vret hx hb hr (fun t ht _ => ⟨⟨G_1, rfl, (P_fill_45_mk ⟨hB_G_1, hF, ⟨x_5, G_1, hX_6, f_8, hB_G_1, hq_2, ⟨c_10, rfl⟩⟩⟩), wd_t ht hW⟩, hS.F ht⟩) hS.2.2 dJ7_fill_53178_20
  · have c_10 : x_5.toInt < 402 := xI_nle rfl rfl c_10
    refine lv_aload_n hx hb dJ7_fill_53178_10 rfl (lv_at hl 2 rfl) ?_
    refine lv_iload_n hx hb dJ7_fill_53178_11 rfl (lv_at hl 1 rfl) ?_
    refine lv_iload_n hx hb dJ7_fill_53178_12 rfl (lv_at hl 3 rfl) ?_
    refine S_iast hx hb hK hW hS kd_45 (vin ((by first | exact f_8.1 | omega)) ((by first | exact ok_50 f_8.2 c_10 | omega))) dJ7_fill_53178_13 (fun G_11 H locs eG_11 hW hS => ?_)
    have hB_G_11 : Bd G_11 := hB_G_1.put (lo := (-2147483648)) (hi := 2147483647) eG_11 rfl rfl rfl (tI_rng _).1 (tI_rng _).2 (hB_G_1.2.put eG_11 rfl)
    have hF := hF.put eG_11 (Or.inl (by decide))
    obtain ⟨y_12, ey_12⟩ : ∃ q, q = x_5 + 1 := ⟨_, rfl⟩
    have ty_12 : y_12.toInt = x_5.toInt + 1 := xI_add rfl rfl ey_12 ((by first | exact ok_21 f_8.1 | omega)) ((by first | exact ok_51 f_8.2 | omega))
    refine lv_iinc (v := y_12) (lv' := [(2, .int y_12), (3, .int 402), (0, .ref (a 45)), (1, .int p0)]) hx hb dJ7_fill_53178_14 hl (k := 1) rfl (by rw [ey_12]; rfl) (lt_b rfl) rfl (fun ls hl => ?_)
    refine lv_goto (tgt := 5) hx hb dJ7_fill_53178_17 rfl ?_
    exact ih_3 (402 - y_12.toInt : Int).toNat (by omega) _ _ _ ⟨G_11, y_12, (Int.toNat_of_nonneg ((by first | exact ok_52 f_8.2 c_10 ty_12 | omega))), ⟨(by first | exact ok_23 f_8.1 ty_12 | omega), (by first | exact ok_53 f_8.2 c_10 ty_12 | omega)⟩, (hX_6.st (St_k_fill_45_1_mk ⟨x_5, G_1, y_12, G_11, rfl, rfl, f_8, hB_G_1, ⟨c_10, ⟨y_12, ty_12, ⟨rfl, (Fr.put (rs := [45]) (fs := []) Fr.rf eG_11 (Or.inl (by decide))), rw_ast eG_11⟩⟩⟩⟩)), hW, hB_G_11, hF, (Fr.put (rs := [45]) (fs := []) (Fr.call9 (rs := [45]) (fs := []) Fr.rf hq_2 rfl rfl) eG_11 (Or.inl (by decide))), hS, lv_sub hl [1, 0, 2, 3] rfl⟩

theorem m427 : Cond.fieldLink RX4 9 "SlabWalk$Minima" "keys" "[I" ∈ gd := gdc_2_4 7 rfl gw_fieldLink
theorem m428 : Cond.fieldLink RX4 15 "SlabWalk$Minima" "values" "[I" ∈ gd := gdc_2_4 8 rfl gw_fieldLink
theorem m429 : Cond.fieldLink RX4 18 "SlabWalk$Minima" "head" "I" ∈ gd := gdc_2_4 9 rfl gw_fieldLink
theorem m430 : Cond.fieldLink RX4 22 "SlabWalk$Minima" "tail" "I" ∈ gd := gdc_2_4 10 rfl gw_fieldLink
theorem m1112 : Cond.constant RX4 27 1000000 ∈ gd := gdc_5_2 4 rfl gw_constant
noncomputable def rbX4_add_0 : List (Nat × List Nat) := [(0, [42]), (1, [180, 0, 22]), (4, [42]), (5, [180, 0, 18]), (8, [164, 0, 31]), (11, [42]), (12, [180, 0, 15]), (15, [42]), (16, [180, 0, 22]), (19, [4]), (20, [100]), (21, [46]), (22, [28]), (23, [161, 0, 16]), (26, [42]), (27, [89]), (28, [180, 0, 22]), (31, [4]), (32, [100]), (33, [181, 0, 22]), (36, [167, 255, 220]), (39, [42]), (40, [180, 0, 22]), (43, [17, 1, 144])]
theorem rcX4_add_0 : dgo (lb cX4_add) 0 rbX4_add_0 = true := by decide +kernel
theorem dX4_add_0 : decode cX4_add 0 = .ok (.aload_n 0, 1) := dk_42 (dw rcX4_add_0 0 rfl)
theorem dX4_add_1 : decode cX4_add 1 = .ok (.getfield 22, 3) := dk_180 (dw rcX4_add_0 1 rfl) rfl
theorem dX4_add_4 : decode cX4_add 4 = .ok (.aload_n 0, 1) := dk_42 (dw rcX4_add_0 2 rfl)
theorem dX4_add_5 : decode cX4_add 5 = .ok (.getfield 18, 3) := dk_180 (dw rcX4_add_0 3 rfl) rfl
theorem dX4_add_8 : decode cX4_add 8 = .ok (.if_icmp .le 31, 3) := dk_164 (dw rcX4_add_0 4 rfl) rfl
theorem dX4_add_11 : decode cX4_add 11 = .ok (.aload_n 0, 1) := dk_42 (dw rcX4_add_0 5 rfl)
theorem dX4_add_12 : decode cX4_add 12 = .ok (.getfield 15, 3) := dk_180 (dw rcX4_add_0 6 rfl) rfl
theorem dX4_add_15 : decode cX4_add 15 = .ok (.aload_n 0, 1) := dk_42 (dw rcX4_add_0 7 rfl)
theorem dX4_add_16 : decode cX4_add 16 = .ok (.getfield 22, 3) := dk_180 (dw rcX4_add_0 8 rfl) rfl
theorem dX4_add_19 : decode cX4_add 19 = .ok (.iconst 1, 1) := dk_4 (dw rcX4_add_0 9 rfl)
theorem dX4_add_20 : decode cX4_add 20 = .ok (.isub, 1) := dk_100 (dw rcX4_add_0 10 rfl)
theorem dX4_add_21 : decode cX4_add 21 = .ok (.iaload, 1) := dk_46 (dw rcX4_add_0 11 rfl)
theorem dX4_add_22 : decode cX4_add 22 = .ok (.iload_n 2, 1) := dk_28 (dw rcX4_add_0 12 rfl)
theorem dX4_add_23 : decode cX4_add 23 = .ok (.if_icmp .lt 16, 3) := dk_161 (dw rcX4_add_0 13 rfl) rfl
theorem dX4_add_26 : decode cX4_add 26 = .ok (.aload_n 0, 1) := dk_42 (dw rcX4_add_0 14 rfl)
theorem dX4_add_27 : decode cX4_add 27 = .ok (.dup, 1) := dk_89 (dw rcX4_add_0 15 rfl)
theorem dX4_add_28 : decode cX4_add 28 = .ok (.getfield 22, 3) := dk_180 (dw rcX4_add_0 16 rfl) rfl
theorem dX4_add_31 : decode cX4_add 31 = .ok (.iconst 1, 1) := dk_4 (dw rcX4_add_0 17 rfl)
theorem dX4_add_32 : decode cX4_add 32 = .ok (.isub, 1) := dk_100 (dw rcX4_add_0 18 rfl)
theorem dX4_add_33 : decode cX4_add 33 = .ok (.putfield 22, 3) := dk_181 (dw rcX4_add_0 19 rfl) rfl
theorem dX4_add_36 : decode cX4_add 36 = .ok (.goto (-36), 3) := dk_167 (dw rcX4_add_0 20 rfl) rfl
theorem dX4_add_39 : decode cX4_add 39 = .ok (.aload_n 0, 1) := dk_42 (dw rcX4_add_0 21 rfl)
theorem dX4_add_40 : decode cX4_add 40 = .ok (.getfield 22, 3) := dk_180 (dw rcX4_add_0 22 rfl) rfl
theorem dX4_add_43 : decode cX4_add 43 = .ok (.sipush 400, 3) := dk_17 (dw rcX4_add_0 23 rfl) rfl
noncomputable def rbX4_add_46 : List (Nat × List Nat) := [(46, [162, 0, 30]), (49, [42]), (50, [180, 0, 9]), (53, [42]), (54, [180, 0, 22]), (57, [27]), (58, [79]), (59, [42]), (60, [180, 0, 15]), (63, [42]), (64, [89]), (65, [180, 0, 22]), (68, [90]), (69, [4]), (70, [96]), (71, [181, 0, 22]), (74, [28]), (75, [79]), (76, [177])]
theorem rcX4_add_46 : dgo (lb cX4_add) 0 rbX4_add_46 = true := by decide +kernel
theorem dX4_add_46 : decode cX4_add 46 = .ok (.if_icmp .ge 30, 3) := dk_162 (dw rcX4_add_46 0 rfl) rfl
theorem dX4_add_49 : decode cX4_add 49 = .ok (.aload_n 0, 1) := dk_42 (dw rcX4_add_46 1 rfl)
theorem dX4_add_50 : decode cX4_add 50 = .ok (.getfield 9, 3) := dk_180 (dw rcX4_add_46 2 rfl) rfl
theorem dX4_add_53 : decode cX4_add 53 = .ok (.aload_n 0, 1) := dk_42 (dw rcX4_add_46 3 rfl)
theorem dX4_add_54 : decode cX4_add 54 = .ok (.getfield 22, 3) := dk_180 (dw rcX4_add_46 4 rfl) rfl
theorem dX4_add_57 : decode cX4_add 57 = .ok (.iload_n 1, 1) := dk_27 (dw rcX4_add_46 5 rfl)
theorem dX4_add_58 : decode cX4_add 58 = .ok (.iastore, 1) := dk_79 (dw rcX4_add_46 6 rfl)
theorem dX4_add_59 : decode cX4_add 59 = .ok (.aload_n 0, 1) := dk_42 (dw rcX4_add_46 7 rfl)
theorem dX4_add_60 : decode cX4_add 60 = .ok (.getfield 15, 3) := dk_180 (dw rcX4_add_46 8 rfl) rfl
theorem dX4_add_63 : decode cX4_add 63 = .ok (.aload_n 0, 1) := dk_42 (dw rcX4_add_46 9 rfl)
theorem dX4_add_64 : decode cX4_add 64 = .ok (.dup, 1) := dk_89 (dw rcX4_add_46 10 rfl)
theorem dX4_add_65 : decode cX4_add 65 = .ok (.getfield 22, 3) := dk_180 (dw rcX4_add_46 11 rfl) rfl
theorem dX4_add_68 : decode cX4_add 68 = .ok (.dup_x1, 1) := dk_90 (dw rcX4_add_46 12 rfl)
theorem dX4_add_69 : decode cX4_add 69 = .ok (.iconst 1, 1) := dk_4 (dw rcX4_add_46 13 rfl)
theorem dX4_add_70 : decode cX4_add 70 = .ok (.iadd, 1) := dk_96 (dw rcX4_add_46 14 rfl)
theorem dX4_add_71 : decode cX4_add 71 = .ok (.putfield 22, 3) := dk_181 (dw rcX4_add_46 15 rfl) rfl
theorem dX4_add_74 : decode cX4_add 74 = .ok (.iload_n 2, 1) := dk_28 (dw rcX4_add_46 16 rfl)
theorem dX4_add_75 : decode cX4_add 75 = .ok (.iastore, 1) := dk_79 (dw rcX4_add_46 17 rfl)
theorem dX4_add_76 : decode cX4_add 76 = .ok (.return_, 1) := dk_177 (dw rcX4_add_46 18 rfl)
noncomputable def rbX4_empty_0 : List (Nat × List Nat) := [(0, [42]), (1, [3]), (2, [181, 0, 18]), (5, [42]), (6, [3]), (7, [181, 0, 22]), (10, [177])]
theorem rcX4_empty_0 : dgo (lb cX4_empty) 0 rbX4_empty_0 = true := by decide +kernel
theorem dX4_empty_0 : decode cX4_empty 0 = .ok (.aload_n 0, 1) := dk_42 (dw rcX4_empty_0 0 rfl)
theorem dX4_empty_1 : decode cX4_empty 1 = .ok (.iconst 0, 1) := dk_3 (dw rcX4_empty_0 1 rfl)
theorem dX4_empty_2 : decode cX4_empty 2 = .ok (.putfield 18, 3) := dk_181 (dw rcX4_empty_0 2 rfl) rfl
theorem dX4_empty_5 : decode cX4_empty 5 = .ok (.aload_n 0, 1) := dk_42 (dw rcX4_empty_0 3 rfl)
theorem dX4_empty_6 : decode cX4_empty 6 = .ok (.iconst 0, 1) := dk_3 (dw rcX4_empty_0 4 rfl)
theorem dX4_empty_7 : decode cX4_empty 7 = .ok (.putfield 22, 3) := dk_181 (dw rcX4_empty_0 5 rfl) rfl
theorem dX4_empty_10 : decode cX4_empty 10 = .ok (.return_, 1) := dk_177 (dw rcX4_empty_0 6 rfl)
noncomputable def rbX4_leastFrom_0 : List (Nat × List Nat) := [(0, [42]), (1, [180, 0, 18]), (4, [42]), (5, [180, 0, 22]), (8, [162, 0, 29]), (11, [42]), (12, [180, 0, 9]), (15, [42]), (16, [180, 0, 18]), (19, [46]), (20, [27]), (21, [162, 0, 16]), (24, [42]), (25, [89]), (26, [180, 0, 18]), (29, [4]), (30, [96]), (31, [181, 0, 18]), (34, [167, 255, 222]), (37, [42]), (38, [180, 0, 18]), (41, [42]), (42, [180, 0, 22]), (45, [162, 0, 15])]
theorem rcX4_leastFrom_0 : dgo (lb cX4_leastFrom) 0 rbX4_leastFrom_0 = true := by decide +kernel
theorem dX4_leastFrom_0 : decode cX4_leastFrom 0 = .ok (.aload_n 0, 1) := dk_42 (dw rcX4_leastFrom_0 0 rfl)
theorem dX4_leastFrom_1 : decode cX4_leastFrom 1 = .ok (.getfield 18, 3) := dk_180 (dw rcX4_leastFrom_0 1 rfl) rfl
theorem dX4_leastFrom_4 : decode cX4_leastFrom 4 = .ok (.aload_n 0, 1) := dk_42 (dw rcX4_leastFrom_0 2 rfl)
theorem dX4_leastFrom_5 : decode cX4_leastFrom 5 = .ok (.getfield 22, 3) := dk_180 (dw rcX4_leastFrom_0 3 rfl) rfl
theorem dX4_leastFrom_8 : decode cX4_leastFrom 8 = .ok (.if_icmp .ge 29, 3) := dk_162 (dw rcX4_leastFrom_0 4 rfl) rfl
theorem dX4_leastFrom_11 : decode cX4_leastFrom 11 = .ok (.aload_n 0, 1) := dk_42 (dw rcX4_leastFrom_0 5 rfl)
theorem dX4_leastFrom_12 : decode cX4_leastFrom 12 = .ok (.getfield 9, 3) := dk_180 (dw rcX4_leastFrom_0 6 rfl) rfl
theorem dX4_leastFrom_15 : decode cX4_leastFrom 15 = .ok (.aload_n 0, 1) := dk_42 (dw rcX4_leastFrom_0 7 rfl)
theorem dX4_leastFrom_16 : decode cX4_leastFrom 16 = .ok (.getfield 18, 3) := dk_180 (dw rcX4_leastFrom_0 8 rfl) rfl
theorem dX4_leastFrom_19 : decode cX4_leastFrom 19 = .ok (.iaload, 1) := dk_46 (dw rcX4_leastFrom_0 9 rfl)
theorem dX4_leastFrom_20 : decode cX4_leastFrom 20 = .ok (.iload_n 1, 1) := dk_27 (dw rcX4_leastFrom_0 10 rfl)
theorem dX4_leastFrom_21 : decode cX4_leastFrom 21 = .ok (.if_icmp .ge 16, 3) := dk_162 (dw rcX4_leastFrom_0 11 rfl) rfl
theorem dX4_leastFrom_24 : decode cX4_leastFrom 24 = .ok (.aload_n 0, 1) := dk_42 (dw rcX4_leastFrom_0 12 rfl)
theorem dX4_leastFrom_25 : decode cX4_leastFrom 25 = .ok (.dup, 1) := dk_89 (dw rcX4_leastFrom_0 13 rfl)
theorem dX4_leastFrom_26 : decode cX4_leastFrom 26 = .ok (.getfield 18, 3) := dk_180 (dw rcX4_leastFrom_0 14 rfl) rfl
theorem dX4_leastFrom_29 : decode cX4_leastFrom 29 = .ok (.iconst 1, 1) := dk_4 (dw rcX4_leastFrom_0 15 rfl)
theorem dX4_leastFrom_30 : decode cX4_leastFrom 30 = .ok (.iadd, 1) := dk_96 (dw rcX4_leastFrom_0 16 rfl)
theorem dX4_leastFrom_31 : decode cX4_leastFrom 31 = .ok (.putfield 18, 3) := dk_181 (dw rcX4_leastFrom_0 17 rfl) rfl
theorem dX4_leastFrom_34 : decode cX4_leastFrom 34 = .ok (.goto (-34), 3) := dk_167 (dw rcX4_leastFrom_0 18 rfl) rfl
theorem dX4_leastFrom_37 : decode cX4_leastFrom 37 = .ok (.aload_n 0, 1) := dk_42 (dw rcX4_leastFrom_0 19 rfl)
theorem dX4_leastFrom_38 : decode cX4_leastFrom 38 = .ok (.getfield 18, 3) := dk_180 (dw rcX4_leastFrom_0 20 rfl) rfl
theorem dX4_leastFrom_41 : decode cX4_leastFrom 41 = .ok (.aload_n 0, 1) := dk_42 (dw rcX4_leastFrom_0 21 rfl)
theorem dX4_leastFrom_42 : decode cX4_leastFrom 42 = .ok (.getfield 22, 3) := dk_180 (dw rcX4_leastFrom_0 22 rfl) rfl
theorem dX4_leastFrom_45 : decode cX4_leastFrom 45 = .ok (.if_icmp .ge 15, 3) := dk_162 (dw rcX4_leastFrom_0 23 rfl) rfl
noncomputable def rbX4_leastFrom_48 : List (Nat × List Nat) := [(48, [42]), (49, [180, 0, 15]), (52, [42]), (53, [180, 0, 18]), (56, [46]), (57, [167, 0, 5]), (60, [18, 27]), (62, [172])]
theorem rcX4_leastFrom_48 : dgo (lb cX4_leastFrom) 0 rbX4_leastFrom_48 = true := by decide +kernel
theorem dX4_leastFrom_48 : decode cX4_leastFrom 48 = .ok (.aload_n 0, 1) := dk_42 (dw rcX4_leastFrom_48 0 rfl)
theorem dX4_leastFrom_49 : decode cX4_leastFrom 49 = .ok (.getfield 15, 3) := dk_180 (dw rcX4_leastFrom_48 1 rfl) rfl
theorem dX4_leastFrom_52 : decode cX4_leastFrom 52 = .ok (.aload_n 0, 1) := dk_42 (dw rcX4_leastFrom_48 2 rfl)
theorem dX4_leastFrom_53 : decode cX4_leastFrom 53 = .ok (.getfield 18, 3) := dk_180 (dw rcX4_leastFrom_48 3 rfl) rfl
theorem dX4_leastFrom_56 : decode cX4_leastFrom 56 = .ok (.iaload, 1) := dk_46 (dw rcX4_leastFrom_48 4 rfl)
theorem dX4_leastFrom_57 : decode cX4_leastFrom 57 = .ok (.goto 5, 3) := dk_167 (dw rcX4_leastFrom_48 5 rfl) rfl
theorem dX4_leastFrom_60 : decode cX4_leastFrom 60 = .ok (.ldc 27, 2) := dk_18 (dw rcX4_leastFrom_48 6 rfl)
theorem dX4_leastFrom_62 : decode cX4_leastFrom 62 = .ok (.ireturn, 1) := dk_172 (dw rcX4_leastFrom_48 7 rfl)
set_option maxHeartbeats 4000000 in
set_option maxRecDepth 100000 in
theorem k_mempty_9 (l : Launch) (D : va_G) (k : KT) (A : Nat → Prop) (a : Nat → Nat) (z : SK) (G : GS)   : Met l yX4_empty (WS yX4_empty cX4_empty 1 none) ({ frames := 0, cells := 0, slots := 0, locals := 0 }) (va_Pc [.ref (a 9)] (cW D k A a z G)) (va_Qv (fun (G1 : GS) => P_mempty_9 G G1) (fun (G1 : GS) t => Wd D k A a G1 t.heap) A) 0 0 A := by
  refine Met.ofW (cc := cX4_empty) (maxL := 1) (ret := none) (by decide) rfl ?_
  intro p e s m args below meth c s₁ B hml hv
  obtain ⟨rfl, hW, hB_G, hK, hZ⟩ := hv
  have hx := B.exec
  have hb := B.bytes
  have hr := B.returns
  have hts := atoms_spec (ws := WS yX4_empty cX4_empty 1 none) B.pre
  have hgd : ∀ w ∈ gd, w ∈ WS yX4_empty cX4_empty 1 none := fun w h => List.mem_cons_of_mem _ h
  have hg : ∀ w ∈ gd, w.before _ s = true := fun w h => hts w (hgd w h)
  have hown : s.vm.findClass RX4 = some m.cls := findClass_of_methodNamed B.named
  have hS : va_S A s.heap s.heap [] := va_S.rf
  have hF : Fr [] [(9, 2), (9, 3)] G G := Fr.rf
  have hl := lv_entry ([.ref (a 9)]) (n := 1) (Nat.le_of_ble_eq_true rfl)
  rw [lg_entry_eq]
  generalize (lg_sl ([.ref (a 9)]) ++ List.replicate (1 - (lg_sl ([.ref (a 9)])).length) Slot.unset).toArray = ls at hl ⊢
  have hl : lv_has ls 1 [(0, .ref (a 9))] := hl
  refine lv_aload_n hx hb dX4_empty_0 rfl (lv_at hl 0 rfl) ?_
  refine ic_0 hx hb dX4_empty_1 ?_
  refine S_putI (ty := .int) (C := RX4) (T := TX4) (N := 4) hx hb hg iX4 tyX4 tyX4_ok nmX4 hown hK hW hS kd_9 rfl 2 (lt_b rfl) (hg (Cond.fieldLink RX4 18 "SlabWalk$Minima" "head" "I") m429) (fun _ h9 => h9) rfl (by decide +kernel) rfl rfl rfl dX4_empty_2 (fun G_1 H locs eG_1 hW hS => ?_)
  have hB_G_1 : Bd G_1 := hB_G.put (V := 0) (lo := 0) (hi := 400) eG_1 rfl rfl rfl (by decide) (by decide) (hB_G.2.put eG_1 rfl)
  have hF := hF.put eG_1 (Or.inr (by decide))
  refine lv_aload_n hx hb dX4_empty_5 rfl (lv_at hl 0 rfl) ?_
  refine ic_0 hx hb dX4_empty_6 ?_
  refine S_putI (ty := .int) (C := RX4) (T := TX4) (N := 4) hx hb hg iX4 tyX4 tyX4_ok nmX4 hown hK hW hS kd_9 rfl 3 (lt_b rfl) (hg (Cond.fieldLink RX4 22 "SlabWalk$Minima" "tail" "I") m430) (fun _ h9 => h9) rfl (by decide +kernel) rfl rfl rfl dX4_empty_7 (fun G_2 H locs eG_2 hW hS => ?_)
  have hB_G_2 : Bd G_2 := hB_G_1.put (V := 0) (lo := 0) (hi := 400) eG_2 rfl rfl rfl (by decide) (by decide) (hB_G_1.2.put eG_2 rfl)
  have hF := hF.put eG_2 (Or.inr (by decide))
  exact W.vret hx hb hr (fun t ht _ => ⟨⟨G_2, rfl, (P_mempty_9_mk ⟨hB_G_2, hF, ⟨(Fr.put (rs := []) (fs := [(9, 2), (9, 3)]) (Fr.put (rs := []) (fs := [(9, 2), (9, 3)]) Fr.rf eG_1 (Or.inr (by decide))) eG_2 (Or.inr (by decide))), ((gp_ne eG_2 (by decide)).trans (gp_eq eG_1)), (gp_eq eG_2)⟩⟩), wd_t ht hW⟩, hS.F ht⟩) hS.2.2 dX4_empty_10

set_option maxHeartbeats 4000000 in
set_option maxRecDepth 100000 in
theorem k_madd_9 (l : Launch) (D : va_G) (k : KT) (A : Nat → Prop) (a : Nat → Nat) (z : SK) (G : GS) (p0 : Int32) (p1 : Int32)  : Met l yX4_add (WS yX4_add cX4_add 3 none) ({ frames := 0, cells := 0, slots := 0, locals := 0 }) (va_Pc [.ref (a 9), .int p0, .int p1] (cW D k A a z G)) (va_Qv (fun (G1 : GS) => P_madd_9 p0 p1 G G1) (fun (G1 : GS) t => Wd D k A a G1 t.heap) A) 0 0 A := by
  refine Met.ofW (cc := cX4_add) (maxL := 3) (ret := none) (by decide) rfl ?_
  intro p e s m args below meth c s₁ B hml hv
  obtain ⟨rfl, hW, hB_G, hK, hZ⟩ := hv
  have hx := B.exec
  have hb := B.bytes
  have hr := B.returns
  have hts := atoms_spec (ws := WS yX4_add cX4_add 3 none) B.pre
  have hgd : ∀ w ∈ gd, w ∈ WS yX4_add cX4_add 3 none := fun w h => List.mem_cons_of_mem _ h
  have hg : ∀ w ∈ gd, w.before _ s = true := fun w h => hts w (hgd w h)
  have hown : s.vm.findClass RX4 = some m.cls := findClass_of_methodNamed B.named
  have hS : va_S A s.heap s.heap [] := va_S.rf
  have hF : Fr [48, 49] [(9, 3)] G G := Fr.rf
  have hl := lv_entry ([.ref (a 9), .int p0, .int p1]) (n := 3) (Nat.le_of_ble_eq_true rfl)
  rw [lg_entry_eq]
  generalize (lg_sl ([.ref (a 9), .int p0, .int p1]) ++ List.replicate (3 - (lg_sl ([.ref (a 9), .int p0, .int p1])).length) Slot.unset).toArray = ls at hl ⊢
  have hl : lv_has ls 3 [(0, .ref (a 9)), (1, .int p0), (2, .int p1)] := hl
  have b_6 : 0 ≤ (G.1 9 3).toInt ∧ (G.1 9 3).toInt ≤ 400 := bd_9_3 hB_G
  refine loop_N (Inv := fun n H locs ls => ∃ (G_1 : GS), (n : Int) = (G_1.1 9 3).toInt ∧ Rc (St_k_madd_9_1 p1 G) G G_1 ∧ Wd D k A a G_1 H ∧ Bd G_1 ∧ Fr [48, 49] [(9, 3)] G G_1 ∧ Fr [] [(9, 3)] G G_1 ∧ va_S A s.heap H locs ∧ lv_has ls 3 [(0, .ref (a 9)), (1, .int p0), (2, .int p1)]) (fun n_4 H locs ls ih_3 hI => ?_) ((G.1 9 3).toInt : Int).toNat ⟨G, (Int.toNat_of_nonneg ((by first | exact b_6.1 | omega))), Rc.rf, hW, hB_G, hF, Fr.rf, hS, lv_sub hl [0, 1, 2] rfl⟩
  obtain ⟨G_1, hn_7, hX_5, hW, hB_G_1, hF, hq_2, hS, hl⟩ := hI
  refine lv_aload_n hx hb dX4_add_0 rfl (lv_at hl 0 rfl) ?_
  have b_8 : 0 ≤ (G_1.1 9 3).toInt ∧ (G_1.1 9 3).toInt ≤ 400 := bd_9_3 hB_G_1
  refine S_getI (v := (G_1.1 9 3)) (C := RX4) (T := TX4) (N := 4) hx hb hg iX4 hown hK hW kd_9 rfl 3 (lt_b rfl) (hg (Cond.fieldLink RX4 22 "SlabWalk$Minima" "tail" "I") m430) (fun _ h9 => h9) rfl rfl dX4_add_1 ?_
  refine lv_aload_n hx hb dX4_add_4 rfl (lv_at hl 0 rfl) ?_
  have b_9 : 0 ≤ (G.1 9 2).toInt ∧ (G.1 9 2).toInt ≤ 400 := bd_9_2 hB_G
  refine S_getI (v := (G.1 9 2)) (C := RX4) (T := TX4) (N := 4) hx hb hg iX4 hown hK hW kd_9 rfl 2 (lt_b rfl) (hg (Cond.fieldLink RX4 18 "SlabWalk$Minima" "head" "I") m429) (fun _ h9 => h9) rfl (hq_2.i9 9 2 rfl rfl) dX4_add_5 ?_
  refine W.cut (σ := Unit) (pcJ := 39) (J := fun y H locs ls => ∃ (G_13 : GS), Jn_k_madd_9_2 p1 G G_1 G_13 ∧ Wd D k A a G_13 H ∧ Bd G_13 ∧ Fr [48, 49] [(9, 3)] G G_13 ∧ Fr [] [] G_1 G_13 ∧ va_S A s.heap H locs ∧ lv_has ls 3 [(0, .ref (a 9)), (1, .int p0), (2, .int p1)]) (stJ := fun _ => []) ?_ (fun hJ_14 => ?_)
  · intro y H locs ls hI
    obtain ⟨G_13, hX_16, hW, hB_G_13, hF, hq_15, hS, hl⟩ := hI
    refine lv_aload_n hx hb dX4_add_39 rfl (lv_at hl 0 rfl) ?_
    refine S_getI (v := (G_1.1 9 3)) (C := RX4) (T := TX4) (N := 4) hx hb hg iX4 hown hK hW kd_9 rfl 3 (lt_b rfl) (hg (Cond.fieldLink RX4 22 "SlabWalk$Minima" "tail" "I") m430) (fun _ h9 => h9) rfl ((hq_15.i9 9 3 rfl rfl).trans (rfl)) dX4_add_40 ?_
    refine lv_sipush (v := 400) hx hb dX4_add_43 (by decide) ?_
    refine lv_icmp_ge (tgt := 76) hx hb dX4_add_46 rfl (fun c_17 => ?_) (fun c_17 => ?_)
    · have c_17 : 400 ≤ (G_1.1 9 3).toInt := xI_le rfl rfl c_17
      exact W.vret hx hb hr (fun t ht _ => ⟨⟨G_13, rfl, (P_madd_9_mk ⟨hB_G_13, hF, ⟨G_1, hX_5, hB_G_1, hq_2, ⟨G_13, hX_16, hB_G_13, hq_15, (Or.inl ⟨c_17, rfl⟩)⟩⟩⟩), wd_t ht hW⟩, hS.F ht⟩) hS.2.2 dX4_add_76
    · have c_17 : (G_1.1 9 3).toInt < 400 := xI_nle rfl rfl c_17
      refine lv_aload_n hx hb dX4_add_49 rfl (lv_at hl 0 rfl) ?_
      refine S_getR (n := 48) (C := RX4) (T := TX4) (N := 4) hx hb hg iX4 hown hK hW kd_9 rfl 0 (lt_b rfl) (hg (Cond.fieldLink RX4 9 "SlabWalk$Minima" "keys" "[I") m427) (fun _ h9 => h9) rfl dX4_add_50 ?_
      refine lv_aload_n hx hb dX4_add_53 rfl (lv_at hl 0 rfl) ?_
      refine S_getI (v := (G_1.1 9 3)) (C := RX4) (T := TX4) (N := 4) hx hb hg iX4 hown hK hW kd_9 rfl 3 (lt_b rfl) (hg (Cond.fieldLink RX4 22 "SlabWalk$Minima" "tail" "I") m430) (fun _ h9 => h9) rfl ((hq_15.i9 9 3 rfl rfl).trans (rfl)) dX4_add_54 ?_
      refine lv_iload_n hx hb dX4_add_57 rfl (lv_at hl 1 rfl) ?_
      refine S_iast hx hb hK hW hS kd_48 (vin ((by first | exact b_8.1 | omega)) ((by first | exact ok_54 b_8.2 c_17 | omega))) dX4_add_58 (fun G_18 H locs eG_18 hW hS => ?_)
      have hB_G_18 : Bd G_18 := hB_G_13.put (lo := (-2147483648)) (hi := 2147483647) eG_18 rfl rfl rfl (tI_rng _).1 (tI_rng _).2 (hB_G_13.2.put eG_18 rfl)
      have hF := hF.put eG_18 (Or.inl (by decide))
      refine lv_aload_n hx hb dX4_add_59 rfl (lv_at hl 0 rfl) ?_
      refine S_getR (n := 49) (C := RX4) (T := TX4) (N := 4) hx hb hg iX4 hown hK hW kd_9 rfl 1 (lt_b rfl) (hg (Cond.fieldLink RX4 15 "SlabWalk$Minima" "values" "[I") m428) (fun _ h9 => h9) rfl dX4_add_60 ?_
      refine lv_aload_n hx hb dX4_add_63 rfl (lv_at hl 0 rfl) ?_
      refine lv_dup hx hb dX4_add_64 rfl ?_
      refine S_getI (v := (G_1.1 9 3)) (C := RX4) (T := TX4) (N := 4) hx hb hg iX4 hown hK hW kd_9 rfl 3 (lt_b rfl) (hg (Cond.fieldLink RX4 22 "SlabWalk$Minima" "tail" "I") m430) (fun _ h9 => h9) rfl ((gp_ne eG_18 (fun q => absurd q.1 (Nat.ne_of_beq_eq_false rfl))).trans ((hq_15.i9 9 3 rfl rfl).trans (rfl))) dX4_add_65 ?_
      refine lv_dup_x1 hx hb dX4_add_68 rfl rfl ?_
      refine ic_1 hx hb dX4_add_69 ?_
      refine lv_iadd hx hb dX4_add_70 ?_
      refine lv_topi (fun y_19 ey_19 => ?_)
      have ty_19 : y_19.toInt = (G_1.1 9 3).toInt + 1 := xI_add rfl rfl ey_19 ((by first | exact ok_21 b_8.1 | omega)) ((by first | exact ok_40 b_8.2 | omega))
      refine S_putI (ty := .int) (C := RX4) (T := TX4) (N := 4) hx hb hg iX4 tyX4 tyX4_ok nmX4 hown hK hW hS kd_9 rfl 3 (lt_b rfl) (hg (Cond.fieldLink RX4 22 "SlabWalk$Minima" "tail" "I") m430) (fun _ h9 => h9) rfl (by decide +kernel) rfl rfl rfl dX4_add_71 (fun G_20 H locs eG_20 hW hS => ?_)
      have hB_G_20 : Bd G_20 := hB_G_18.put (V := y_19.toInt) (lo := 0) (hi := 400) eG_20 rfl rfl rfl ((by first | exact ok_23 b_8.1 ty_19 | omega)) ((by first | exact ok_55 b_8.2 c_17 ty_19 | omega)) (hB_G_18.2.put eG_20 rfl)
      have hF := hF.put eG_20 (Or.inr (by decide))
      refine lv_iload_n hx hb dX4_add_74 rfl (lv_at hl 2 rfl) ?_
      refine S_iast hx hb hK hW hS kd_49 (vin ((by first | exact b_8.1 | omega)) ((by first | exact ok_54 b_8.2 c_17 | omega))) dX4_add_75 (fun G_21 H locs eG_21 hW hS => ?_)
      have hB_G_21 : Bd G_21 := hB_G_20.put (lo := (-2147483648)) (hi := 2147483647) eG_21 rfl rfl rfl (tI_rng _).1 (tI_rng _).2 (hB_G_20.2.put eG_21 rfl)
      have hF := hF.put eG_21 (Or.inl (by decide))
      exact W.vret hx hb hr (fun t ht _ => ⟨⟨G_21, rfl, (P_madd_9_mk ⟨hB_G_21, hF, ⟨G_1, hX_5, hB_G_1, hq_2, ⟨G_13, hX_16, hB_G_13, hq_15, (Or.inr ⟨c_17, ⟨y_19, ty_19, ⟨(Fr.put (rs := [48, 49]) (fs := [(9, 3)]) (Fr.put (rs := [48, 49]) (fs := [(9, 3)]) (Fr.put (rs := [48, 49]) (fs := [(9, 3)]) Fr.rf eG_18 (Or.inl (by decide))) eG_20 (Or.inr (by decide))) eG_21 (Or.inl (by decide))), ((gp_ne eG_21 (fun q => absurd q.1 (Nat.ne_of_beq_eq_false rfl))).trans (gp_eq eG_20)), (rw_put eG_21 (by decide)).trans ((rw_put eG_20 (by decide)).trans (rw_ast eG_18)), (rw_ast eG_21).trans (congrArg (fun q => upd q ((G_1.1 9 3).toNatClampNeg) p1) ((rw_put eG_20 (by decide)).trans (rw_put eG_18 (by decide))))⟩⟩⟩)⟩⟩⟩), wd_t ht hW⟩, hS.F ht⟩) hS.2.2 dX4_add_76
  refine lv_icmp_le (tgt := 39) hx hb dX4_add_8 rfl (fun c_22 => ?_) (fun c_22 => ?_)
  · have c_22 : (G_1.1 9 3).toInt ≤ (G.1 9 2).toInt := xI_le rfl rfl c_22
    exact hJ_14 () _ _ _ ⟨G_1, (Jn_k_madd_9_2_mk (Or.inl ⟨c_22, rfl⟩)), hW, hB_G_1, hF, (Fr.rf (rs := []) (fs := [])), hS, lv_sub hl [0, 1, 2] rfl⟩
  · have c_22 : (G.1 9 2).toInt < (G_1.1 9 3).toInt := xI_nle rfl rfl c_22
    refine lv_aload_n hx hb dX4_add_11 rfl (lv_at hl 0 rfl) ?_
    refine S_getR (n := 49) (C := RX4) (T := TX4) (N := 4) hx hb hg iX4 hown hK hW kd_9 rfl 1 (lt_b rfl) (hg (Cond.fieldLink RX4 15 "SlabWalk$Minima" "values" "[I") m428) (fun _ h9 => h9) rfl dX4_add_12 ?_
    refine lv_aload_n hx hb dX4_add_15 rfl (lv_at hl 0 rfl) ?_
    refine S_getI (v := (G_1.1 9 3)) (C := RX4) (T := TX4) (N := 4) hx hb hg iX4 hown hK hW kd_9 rfl 3 (lt_b rfl) (hg (Cond.fieldLink RX4 22 "SlabWalk$Minima" "tail" "I") m430) (fun _ h9 => h9) rfl rfl dX4_add_16 ?_
    refine ic_1 hx hb dX4_add_19 ?_
    refine lv_isub hx hb dX4_add_20 ?_
    refine lv_topi (fun y_23 ey_23 => ?_)
    have ty_23 : y_23.toInt = (G_1.1 9 3).toInt - 1 := xI_sub rfl rfl ey_23 ((by first | exact ok_56 b_8.1 | omega)) ((by first | exact ok_57 b_8.2 | omega))
    refine S_iald hx hb hK hW kd_49 (vin ((by first | exact ok_58 b_8.1 b_9.1 c_22 ty_23 | omega)) ((by first | exact ok_59 b_8.2 ty_23 | omega))) dX4_add_21 (fun y_24 ey_24 => ?_)
    refine lv_iload_n hx hb dX4_add_22 rfl (lv_at hl 2 rfl) ?_
    refine lv_icmp_lt (tgt := 39) hx hb dX4_add_23 rfl (fun c_25 => ?_) (fun c_25 => ?_)
    · have c_25 : y_24.toInt < p1.toInt := xI_lt rfl rfl c_25
      exact hJ_14 () _ _ _ ⟨G_1, (Jn_k_madd_9_2_mk (Or.inr ⟨c_22, ⟨y_23, ty_23, ⟨y_24, ey_24, ⟨c_25, rfl⟩⟩⟩⟩)), hW, hB_G_1, hF, (Fr.rf (rs := []) (fs := [])), hS, lv_sub hl [0, 1, 2] rfl⟩
    · have c_25 : p1.toInt ≤ y_24.toInt := xI_nlt rfl rfl c_25
      refine lv_aload_n hx hb dX4_add_26 rfl (lv_at hl 0 rfl) ?_
      refine lv_dup hx hb dX4_add_27 rfl ?_
      refine S_getI (v := (G_1.1 9 3)) (C := RX4) (T := TX4) (N := 4) hx hb hg iX4 hown hK hW kd_9 rfl 3 (lt_b rfl) (hg (Cond.fieldLink RX4 22 "SlabWalk$Minima" "tail" "I") m430) (fun _ h9 => h9) rfl rfl dX4_add_28 ?_
      refine ic_1 hx hb dX4_add_31 ?_
      refine lv_isub hx hb dX4_add_32 ?_
      refine lv_topi (fun y_26 ey_26 => ?_)
      have ty_26 : y_26.toInt = (G_1.1 9 3).toInt - 1 := xI_sub rfl rfl ey_26 ((by first | exact ok_56 b_8.1 | omega)) ((by first | exact ok_57 b_8.2 | omega))
      refine S_putI (ty := .int) (C := RX4) (T := TX4) (N := 4) hx hb hg iX4 tyX4 tyX4_ok nmX4 hown hK hW hS kd_9 rfl 3 (lt_b rfl) (hg (Cond.fieldLink RX4 22 "SlabWalk$Minima" "tail" "I") m430) (fun _ h9 => h9) rfl (by decide +kernel) rfl rfl rfl dX4_add_33 (fun G_27 H locs eG_27 hW hS => ?_)
      have hB_G_27 : Bd G_27 := hB_G_1.put (V := y_26.toInt) (lo := 0) (hi := 400) eG_27 rfl rfl rfl ((by first | exact ok_58 b_8.1 b_9.1 c_22 ty_26 | omega)) ((by first | exact ok_60 b_8.2 ty_26 | omega)) (hB_G_1.2.put eG_27 rfl)
      have hF := hF.put eG_27 (Or.inr (by decide))
      refine lv_goto (tgt := 0) hx hb dX4_add_36 rfl ?_
      have g_28 : (G_27.1 9 3).toInt = y_26.toInt := (congrArg Int32.toInt (show G_27.1 9 3 = y_26 from (gp_eq eG_27)))
      exact ih_3 ((G_27.1 9 3).toInt : Int).toNat (by omega) _ _ _ ⟨G_27, (Int.toNat_of_nonneg ((by first | exact ok_61 b_8.1 b_9.1 c_22 ty_26 g_28 | omega))), (hX_5.st (St_k_madd_9_1_mk ⟨G_1, G_27, rfl, rfl, hB_G_1, ⟨c_22, ⟨y_23, ty_23, ⟨y_24, ey_24, ⟨c_25, ⟨y_26, ty_26, ⟨(Fr.put (rs := []) (fs := [(9, 3)]) Fr.rf eG_27 (Or.inr (by decide))), (gp_eq eG_27)⟩⟩⟩⟩⟩⟩⟩)), hW, hB_G_27, hF, (Fr.put (rs := []) (fs := [(9, 3)]) (Fr.call9 (rs := []) (fs := [(9, 3)]) Fr.rf hq_2 rfl rfl) eG_27 (Or.inr (by decide))), hS, lv_sub hl [0, 1, 2] rfl⟩

set_option maxHeartbeats 4000000 in
set_option maxRecDepth 100000 in
theorem k_mleast_9 (l : Launch) (D : va_G) (k : KT) (A : Nat → Prop) (a : Nat → Nat) (z : SK) (G : GS) (p0 : Int32)  : Met l yX4_leastFrom (WS yX4_leastFrom cX4_leastFrom 2 (some .int)) ({ frames := 0, cells := 0, slots := 0, locals := 0 }) (va_Pc [.ref (a 9), .int p0] (cW D k A a z G)) (va_Qi (fun (r : Int32) (G1 : GS) => P_mleast_9 p0 G r G1) (fun (G1 : GS) t => Wd D k A a G1 t.heap) A) 0 0 A := by
  refine Met.ofW (cc := cX4_leastFrom) (maxL := 2) (ret := (some .int)) (by decide) rfl ?_
  intro p e s m args below meth c s₁ B hml hv
  obtain ⟨rfl, hW, hB_G, hK, hZ⟩ := hv
  have hx := B.exec
  have hb := B.bytes
  have hr := B.returns
  have hts := atoms_spec (ws := WS yX4_leastFrom cX4_leastFrom 2 (some .int)) B.pre
  have hgd : ∀ w ∈ gd, w ∈ WS yX4_leastFrom cX4_leastFrom 2 (some .int) := fun w h => List.mem_cons_of_mem _ h
  have hg : ∀ w ∈ gd, w.before _ s = true := fun w h => hts w (hgd w h)
  have hown : s.vm.findClass RX4 = some m.cls := findClass_of_methodNamed B.named
  have hS : va_S A s.heap s.heap [] := va_S.rf
  have hF : Fr [] [(9, 2)] G G := Fr.rf
  have hl := lv_entry ([.ref (a 9), .int p0]) (n := 2) (Nat.le_of_ble_eq_true rfl)
  rw [lg_entry_eq]
  generalize (lg_sl ([.ref (a 9), .int p0]) ++ List.replicate (2 - (lg_sl ([.ref (a 9), .int p0])).length) Slot.unset).toArray = ls at hl ⊢
  have hl : lv_has ls 2 [(0, .ref (a 9)), (1, .int p0)] := hl
  have b_6 : 0 ≤ (G.1 9 2).toInt ∧ (G.1 9 2).toInt ≤ 400 := bd_9_2 hB_G
  refine loop_N (Inv := fun n H locs ls => ∃ (G_1 : GS), (n : Int) = 400 - (G_1.1 9 2).toInt ∧ Rc (St_k_mleast_9_1 p0 G) G G_1 ∧ Wd D k A a G_1 H ∧ Bd G_1 ∧ Fr [] [(9, 2)] G G_1 ∧ Fr [] [(9, 2)] G G_1 ∧ va_S A s.heap H locs ∧ lv_has ls 2 [(0, .ref (a 9)), (1, .int p0)]) (fun n_4 H locs ls ih_3 hI => ?_) (400 - (G.1 9 2).toInt : Int).toNat ⟨G, (Int.toNat_of_nonneg ((by first | exact ok_62 b_6.2 | omega))), Rc.rf, hW, hB_G, hF, Fr.rf, hS, lv_sub hl [0, 1] rfl⟩
  obtain ⟨G_1, hn_7, hX_5, hW, hB_G_1, hF, hq_2, hS, hl⟩ := hI
  refine lv_aload_n hx hb dX4_leastFrom_0 rfl (lv_at hl 0 rfl) ?_
  have b_8 : 0 ≤ (G_1.1 9 2).toInt ∧ (G_1.1 9 2).toInt ≤ 400 := bd_9_2 hB_G_1
  refine S_getI (v := (G_1.1 9 2)) (C := RX4) (T := TX4) (N := 4) hx hb hg iX4 hown hK hW kd_9 rfl 2 (lt_b rfl) (hg (Cond.fieldLink RX4 18 "SlabWalk$Minima" "head" "I") m429) (fun _ h9 => h9) rfl rfl dX4_leastFrom_1 ?_
  refine lv_aload_n hx hb dX4_leastFrom_4 rfl (lv_at hl 0 rfl) ?_
  have b_9 : 0 ≤ (G.1 9 3).toInt ∧ (G.1 9 3).toInt ≤ 400 := bd_9_3 hB_G
  refine S_getI (v := (G.1 9 3)) (C := RX4) (T := TX4) (N := 4) hx hb hg iX4 hown hK hW kd_9 rfl 3 (lt_b rfl) (hg (Cond.fieldLink RX4 22 "SlabWalk$Minima" "tail" "I") m430) (fun _ h9 => h9) rfl (hq_2.i9 9 3 rfl rfl) dX4_leastFrom_5 ?_
  refine lv_icmp_ge (tgt := 37) hx hb dX4_leastFrom_8 rfl (fun c_10 => ?_) (fun c_10 => ?_)
  · have c_10 : (G.1 9 3).toInt ≤ (G_1.1 9 2).toInt := xI_le rfl rfl c_10
    refine lv_aload_n hx hb dX4_leastFrom_37 rfl (lv_at hl 0 rfl) ?_
    refine S_getI (v := (G_1.1 9 2)) (C := RX4) (T := TX4) (N := 4) hx hb hg iX4 hown hK hW kd_9 rfl 2 (lt_b rfl) (hg (Cond.fieldLink RX4 18 "SlabWalk$Minima" "head" "I") m429) (fun _ h9 => h9) rfl rfl dX4_leastFrom_38 ?_
    refine lv_aload_n hx hb dX4_leastFrom_41 rfl (lv_at hl 0 rfl) ?_
    refine S_getI (v := (G.1 9 3)) (C := RX4) (T := TX4) (N := 4) hx hb hg iX4 hown hK hW kd_9 rfl 3 (lt_b rfl) (hg (Cond.fieldLink RX4 22 "SlabWalk$Minima" "tail" "I") m430) (fun _ h9 => h9) rfl ((hq_2.i9 9 3 rfl rfl).trans (rfl)) dX4_leastFrom_42 ?_
    refine lv_icmp_ge (tgt := 60) hx hb dX4_leastFrom_45 rfl (fun c_11 => ?_) (fun c_11 => ?_)
    · have c_11 : (G.1 9 3).toInt ≤ (G_1.1 9 2).toInt := xI_le rfl rfl c_11
      refine lv_ldc (v := 1000000) hx hb hown (hg (Cond.constant RX4 27 1000000) m1112) dX4_leastFrom_60 ?_
      exact W.iret (v := 1000000) hx hb hr (fun t ht _ => ⟨⟨1000000, G_1, rfl, (P_mleast_9_mk ⟨hB_G_1, hF, ⟨G_1, hX_5, hB_G_1, hq_2, (Or.inl ⟨c_10, (Or.inl ⟨c_11, ⟨rfl, rfl⟩⟩)⟩)⟩⟩), wd_t ht hW⟩, hS.F ht⟩) hS.2.2 dX4_leastFrom_62
    · have c_11 : (G_1.1 9 2).toInt < (G.1 9 3).toInt := xI_nle rfl rfl c_11
      refine lv_aload_n hx hb dX4_leastFrom_48 rfl (lv_at hl 0 rfl) ?_
      refine S_getR (n := 49) (C := RX4) (T := TX4) (N := 4) hx hb hg iX4 hown hK hW kd_9 rfl 1 (lt_b rfl) (hg (Cond.fieldLink RX4 15 "SlabWalk$Minima" "values" "[I") m428) (fun _ h9 => h9) rfl dX4_leastFrom_49 ?_
      refine lv_aload_n hx hb dX4_leastFrom_52 rfl (lv_at hl 0 rfl) ?_
      refine S_getI (v := (G_1.1 9 2)) (C := RX4) (T := TX4) (N := 4) hx hb hg iX4 hown hK hW kd_9 rfl 2 (lt_b rfl) (hg (Cond.fieldLink RX4 18 "SlabWalk$Minima" "head" "I") m429) (fun _ h9 => h9) rfl rfl dX4_leastFrom_53 ?_
      refine S_iald hx hb hK hW kd_49 (vin ((by first | exact b_8.1 | omega)) ((by first | exact ok_63 b_8.2 b_9.2 c_11 | omega))) dX4_leastFrom_56 (fun y_12 ey_12 => ?_)
      refine lv_goto (tgt := 62) hx hb dX4_leastFrom_57 rfl ?_
      exact W.iret (v := y_12) hx hb hr (fun t ht _ => ⟨⟨y_12, G_1, rfl, (P_mleast_9_mk ⟨hB_G_1, hF, ⟨G_1, hX_5, hB_G_1, hq_2, (Or.inl ⟨c_10, (Or.inr ⟨c_11, ⟨y_12, ey_12, ⟨rfl, rfl⟩⟩⟩)⟩)⟩⟩), wd_t ht hW⟩, hS.F ht⟩) hS.2.2 dX4_leastFrom_62
  · have c_10 : (G_1.1 9 2).toInt < (G.1 9 3).toInt := xI_nle rfl rfl c_10
    refine lv_aload_n hx hb dX4_leastFrom_11 rfl (lv_at hl 0 rfl) ?_
    refine S_getR (n := 48) (C := RX4) (T := TX4) (N := 4) hx hb hg iX4 hown hK hW kd_9 rfl 0 (lt_b rfl) (hg (Cond.fieldLink RX4 9 "SlabWalk$Minima" "keys" "[I") m427) (fun _ h9 => h9) rfl dX4_leastFrom_12 ?_
    refine lv_aload_n hx hb dX4_leastFrom_15 rfl (lv_at hl 0 rfl) ?_
    refine S_getI (v := (G_1.1 9 2)) (C := RX4) (T := TX4) (N := 4) hx hb hg iX4 hown hK hW kd_9 rfl 2 (lt_b rfl) (hg (Cond.fieldLink RX4 18 "SlabWalk$Minima" "head" "I") m429) (fun _ h9 => h9) rfl rfl dX4_leastFrom_16 ?_
    refine S_iald hx hb hK hW kd_48 (vin ((by first | exact b_8.1 | omega)) ((by first | exact ok_63 b_8.2 b_9.2 c_10 | omega))) dX4_leastFrom_19 (fun y_13 ey_13 => ?_)
    refine lv_iload_n hx hb dX4_leastFrom_20 rfl (lv_at hl 1 rfl) ?_
    refine lv_icmp_ge (tgt := 37) hx hb dX4_leastFrom_21 rfl (fun c_14 => ?_) (fun c_14 => ?_)
    · have c_14 : p0.toInt ≤ y_13.toInt := xI_le rfl rfl c_14
      refine lv_aload_n hx hb dX4_leastFrom_37 rfl (lv_at hl 0 rfl) ?_
      refine S_getI (v := (G_1.1 9 2)) (C := RX4) (T := TX4) (N := 4) hx hb hg iX4 hown hK hW kd_9 rfl 2 (lt_b rfl) (hg (Cond.fieldLink RX4 18 "SlabWalk$Minima" "head" "I") m429) (fun _ h9 => h9) rfl rfl dX4_leastFrom_38 ?_
      refine lv_aload_n hx hb dX4_leastFrom_41 rfl (lv_at hl 0 rfl) ?_
      refine S_getI (v := (G.1 9 3)) (C := RX4) (T := TX4) (N := 4) hx hb hg iX4 hown hK hW kd_9 rfl 3 (lt_b rfl) (hg (Cond.fieldLink RX4 22 "SlabWalk$Minima" "tail" "I") m430) (fun _ h9 => h9) rfl ((hq_2.i9 9 3 rfl rfl).trans (rfl)) dX4_leastFrom_42 ?_
      refine lv_icmp_ge (tgt := 60) hx hb dX4_leastFrom_45 rfl (fun c_15 => ?_) (fun c_15 => ?_)
      · have c_15 : (G.1 9 3).toInt ≤ (G_1.1 9 2).toInt := xI_le rfl rfl c_15
        refine lv_ldc (v := 1000000) hx hb hown (hg (Cond.constant RX4 27 1000000) m1112) dX4_leastFrom_60 ?_
        exact W.iret (v := 1000000) hx hb hr (fun t ht _ => ⟨⟨1000000, G_1, rfl, (P_mleast_9_mk ⟨hB_G_1, hF, ⟨G_1, hX_5, hB_G_1, hq_2, (Or.inr ⟨c_10, ⟨y_13, ey_13, ⟨c_14, (Or.inl ⟨c_15, ⟨rfl, rfl⟩⟩)⟩⟩⟩)⟩⟩), wd_t ht hW⟩, hS.F ht⟩) hS.2.2 dX4_leastFrom_62
      · have c_15 : (G_1.1 9 2).toInt < (G.1 9 3).toInt := xI_nle rfl rfl c_15
        refine lv_aload_n hx hb dX4_leastFrom_48 rfl (lv_at hl 0 rfl) ?_
        refine S_getR (n := 49) (C := RX4) (T := TX4) (N := 4) hx hb hg iX4 hown hK hW kd_9 rfl 1 (lt_b rfl) (hg (Cond.fieldLink RX4 15 "SlabWalk$Minima" "values" "[I") m428) (fun _ h9 => h9) rfl dX4_leastFrom_49 ?_
        refine lv_aload_n hx hb dX4_leastFrom_52 rfl (lv_at hl 0 rfl) ?_
        refine S_getI (v := (G_1.1 9 2)) (C := RX4) (T := TX4) (N := 4) hx hb hg iX4 hown hK hW kd_9 rfl 2 (lt_b rfl) (hg (Cond.fieldLink RX4 18 "SlabWalk$Minima" "head" "I") m429) (fun _ h9 => h9) rfl rfl dX4_leastFrom_53 ?_
        refine S_iald hx hb hK hW kd_49 (vin ((by first | exact b_8.1 | omega)) ((by first | exact ok_63 b_8.2 b_9.2 c_10 | omega))) dX4_leastFrom_56 (fun y_16 ey_16 => ?_)
        refine lv_goto (tgt := 62) hx hb dX4_leastFrom_57 rfl ?_
        exact W.iret (v := y_16) hx hb hr (fun t ht _ => ⟨⟨y_16, G_1, rfl, (P_mleast_9_mk ⟨hB_G_1, hF, ⟨G_1, hX_5, hB_G_1, hq_2, (Or.inr ⟨c_10, ⟨y_13, ey_13, ⟨c_14, (Or.inr ⟨c_15, ⟨y_16, ey_16, ⟨rfl, rfl⟩⟩⟩)⟩⟩⟩)⟩⟩), wd_t ht hW⟩, hS.F ht⟩) hS.2.2 dX4_leastFrom_62
    · have c_14 : y_13.toInt < p0.toInt := xI_nle rfl rfl c_14
      refine lv_aload_n hx hb dX4_leastFrom_24 rfl (lv_at hl 0 rfl) ?_
      refine lv_dup hx hb dX4_leastFrom_25 rfl ?_
      refine S_getI (v := (G_1.1 9 2)) (C := RX4) (T := TX4) (N := 4) hx hb hg iX4 hown hK hW kd_9 rfl 2 (lt_b rfl) (hg (Cond.fieldLink RX4 18 "SlabWalk$Minima" "head" "I") m429) (fun _ h9 => h9) rfl rfl dX4_leastFrom_26 ?_
      refine ic_1 hx hb dX4_leastFrom_29 ?_
      refine lv_iadd hx hb dX4_leastFrom_30 ?_
      refine lv_topi (fun y_17 ey_17 => ?_)
      have ty_17 : y_17.toInt = (G_1.1 9 2).toInt + 1 := xI_add rfl rfl ey_17 ((by first | exact ok_21 b_8.1 | omega)) ((by first | exact ok_40 b_8.2 | omega))
      refine S_putI (ty := .int) (C := RX4) (T := TX4) (N := 4) hx hb hg iX4 tyX4 tyX4_ok nmX4 hown hK hW hS kd_9 rfl 2 (lt_b rfl) (hg (Cond.fieldLink RX4 18 "SlabWalk$Minima" "head" "I") m429) (fun _ h9 => h9) rfl (by decide +kernel) rfl rfl rfl dX4_leastFrom_31 (fun G_18 H locs eG_18 hW hS => ?_)
      have hB_G_18 : Bd G_18 := hB_G_1.put (V := y_17.toInt) (lo := 0) (hi := 400) eG_18 rfl rfl rfl ((by first | exact ok_23 b_8.1 ty_17 | omega)) ((by first | exact ok_64 b_8.2 b_9.2 c_10 ty_17 | omega)) (hB_G_1.2.put eG_18 rfl)
      have hF := hF.put eG_18 (Or.inr (by decide))
      refine lv_goto (tgt := 0) hx hb dX4_leastFrom_34 rfl ?_
      have g_19 : (G_18.1 9 2).toInt = y_17.toInt := (congrArg Int32.toInt (show G_18.1 9 2 = y_17 from (gp_eq eG_18)))
      exact ih_3 (400 - (G_18.1 9 2).toInt : Int).toNat (by omega) _ _ _ ⟨G_18, (Int.toNat_of_nonneg ((by first | exact ok_65 b_8.2 b_9.2 c_10 ty_17 g_19 | omega))), (hX_5.st (St_k_mleast_9_1_mk ⟨G_1, G_18, rfl, rfl, hB_G_1, ⟨c_10, ⟨y_13, ey_13, ⟨c_14, ⟨y_17, ty_17, ⟨(Fr.put (rs := []) (fs := [(9, 2)]) Fr.rf eG_18 (Or.inr (by decide))), (gp_eq eG_18)⟩⟩⟩⟩⟩⟩)), hW, hB_G_18, hF, (Fr.put (rs := []) (fs := [(9, 2)]) (Fr.call9 (rs := []) (fs := [(9, 2)]) Fr.rf hq_2 rfl rfl) eG_18 (Or.inr (by decide))), hS, lv_sub hl [0, 1] rfl⟩



set_option maxHeartbeats 4000000 in
set_option maxRecDepth 100000 in
theorem k_mempty_19 (l : Launch) (D : va_G) (k : KT) (A : Nat → Prop) (a : Nat → Nat) (z : SK) (G : GS)   : Met l yX4_empty (WS yX4_empty cX4_empty 1 none) ({ frames := 0, cells := 0, slots := 0, locals := 0 }) (va_Pc [.ref (a 19)] (cW D k A a z G)) (va_Qv (fun (G1 : GS) => P_mempty_19 G G1) (fun (G1 : GS) t => Wd D k A a G1 t.heap) A) 0 0 A := by
  refine Met.ofW (cc := cX4_empty) (maxL := 1) (ret := none) (by decide) rfl ?_
  intro p e s m args below meth c s₁ B hml hv
  obtain ⟨rfl, hW, hB_G, hK, hZ⟩ := hv
  have hx := B.exec
  have hb := B.bytes
  have hr := B.returns
  have hts := atoms_spec (ws := WS yX4_empty cX4_empty 1 none) B.pre
  have hgd : ∀ w ∈ gd, w ∈ WS yX4_empty cX4_empty 1 none := fun w h => List.mem_cons_of_mem _ h
  have hg : ∀ w ∈ gd, w.before _ s = true := fun w h => hts w (hgd w h)
  have hown : s.vm.findClass RX4 = some m.cls := findClass_of_methodNamed B.named
  have hS : va_S A s.heap s.heap [] := va_S.rf
  have hF : Fr [] [(19, 2), (19, 3)] G G := Fr.rf
  have hl := lv_entry ([.ref (a 19)]) (n := 1) (Nat.le_of_ble_eq_true rfl)
  rw [lg_entry_eq]
  generalize (lg_sl ([.ref (a 19)]) ++ List.replicate (1 - (lg_sl ([.ref (a 19)])).length) Slot.unset).toArray = ls at hl ⊢
  have hl : lv_has ls 1 [(0, .ref (a 19))] := hl
  refine lv_aload_n hx hb dX4_empty_0 rfl (lv_at hl 0 rfl) ?_
  refine ic_0 hx hb dX4_empty_1 ?_
  refine S_putI (ty := .int) (C := RX4) (T := TX4) (N := 4) hx hb hg iX4 tyX4 tyX4_ok nmX4 hown hK hW hS kd_19 rfl 2 (lt_b rfl) (hg (Cond.fieldLink RX4 18 "SlabWalk$Minima" "head" "I") m429) (fun _ h9 => h9) rfl (by decide +kernel) rfl rfl rfl dX4_empty_2 (fun G_1 H locs eG_1 hW hS => ?_)
  have hB_G_1 : Bd G_1 := hB_G.put (V := 0) (lo := 0) (hi := 400) eG_1 rfl rfl rfl (by decide) (by decide) (hB_G.2.put eG_1 rfl)
  have hF := hF.put eG_1 (Or.inr (by decide))
  refine lv_aload_n hx hb dX4_empty_5 rfl (lv_at hl 0 rfl) ?_
  refine ic_0 hx hb dX4_empty_6 ?_
  refine S_putI (ty := .int) (C := RX4) (T := TX4) (N := 4) hx hb hg iX4 tyX4 tyX4_ok nmX4 hown hK hW hS kd_19 rfl 3 (lt_b rfl) (hg (Cond.fieldLink RX4 22 "SlabWalk$Minima" "tail" "I") m430) (fun _ h9 => h9) rfl (by decide +kernel) rfl rfl rfl dX4_empty_7 (fun G_2 H locs eG_2 hW hS => ?_)
  have hB_G_2 : Bd G_2 := hB_G_1.put (V := 0) (lo := 0) (hi := 400) eG_2 rfl rfl rfl (by decide) (by decide) (hB_G_1.2.put eG_2 rfl)
  have hF := hF.put eG_2 (Or.inr (by decide))
  exact W.vret hx hb hr (fun t ht _ => ⟨⟨G_2, rfl, (P_mempty_19_mk ⟨hB_G_2, hF, ⟨(Fr.put (rs := []) (fs := [(19, 2), (19, 3)]) (Fr.put (rs := []) (fs := [(19, 2), (19, 3)]) Fr.rf eG_1 (Or.inr (by decide))) eG_2 (Or.inr (by decide))), ((gp_ne eG_2 (by decide)).trans (gp_eq eG_1)), (gp_eq eG_2)⟩⟩), wd_t ht hW⟩, hS.F ht⟩) hS.2.2 dX4_empty_10

set_option maxHeartbeats 4000000 in
set_option maxRecDepth 100000 in
theorem k_madd_19 (l : Launch) (D : va_G) (k : KT) (A : Nat → Prop) (a : Nat → Nat) (z : SK) (G : GS) (p0 : Int32) (p1 : Int32)  : Met l yX4_add (WS yX4_add cX4_add 3 none) ({ frames := 0, cells := 0, slots := 0, locals := 0 }) (va_Pc [.ref (a 19), .int p0, .int p1] (cW D k A a z G)) (va_Qv (fun (G1 : GS) => P_madd_19 p0 p1 G G1) (fun (G1 : GS) t => Wd D k A a G1 t.heap) A) 0 0 A := by
  refine Met.ofW (cc := cX4_add) (maxL := 3) (ret := none) (by decide) rfl ?_
  intro p e s m args below meth c s₁ B hml hv
  obtain ⟨rfl, hW, hB_G, hK, hZ⟩ := hv
  have hx := B.exec
  have hb := B.bytes
  have hr := B.returns
  have hts := atoms_spec (ws := WS yX4_add cX4_add 3 none) B.pre
  have hgd : ∀ w ∈ gd, w ∈ WS yX4_add cX4_add 3 none := fun w h => List.mem_cons_of_mem _ h
  have hg : ∀ w ∈ gd, w.before _ s = true := fun w h => hts w (hgd w h)
  have hown : s.vm.findClass RX4 = some m.cls := findClass_of_methodNamed B.named
  have hS : va_S A s.heap s.heap [] := va_S.rf
  have hF : Fr [50, 51] [(19, 3)] G G := Fr.rf
  have hl := lv_entry ([.ref (a 19), .int p0, .int p1]) (n := 3) (Nat.le_of_ble_eq_true rfl)
  rw [lg_entry_eq]
  generalize (lg_sl ([.ref (a 19), .int p0, .int p1]) ++ List.replicate (3 - (lg_sl ([.ref (a 19), .int p0, .int p1])).length) Slot.unset).toArray = ls at hl ⊢
  have hl : lv_has ls 3 [(0, .ref (a 19)), (1, .int p0), (2, .int p1)] := hl
  have b_6 : 0 ≤ (G.1 19 3).toInt ∧ (G.1 19 3).toInt ≤ 400 := bd_19_3 hB_G
  refine loop_N (Inv := fun n H locs ls => ∃ (G_1 : GS), (n : Int) = (G_1.1 19 3).toInt ∧ Rc (St_k_madd_19_1 p1 G) G G_1 ∧ Wd D k A a G_1 H ∧ Bd G_1 ∧ Fr [50, 51] [(19, 3)] G G_1 ∧ Fr [] [(19, 3)] G G_1 ∧ va_S A s.heap H locs ∧ lv_has ls 3 [(0, .ref (a 19)), (1, .int p0), (2, .int p1)]) (fun n_4 H locs ls ih_3 hI => ?_) ((G.1 19 3).toInt : Int).toNat ⟨G, (Int.toNat_of_nonneg ((by first | exact b_6.1 | omega))), Rc.rf, hW, hB_G, hF, Fr.rf, hS, lv_sub hl [0, 1, 2] rfl⟩
  obtain ⟨G_1, hn_7, hX_5, hW, hB_G_1, hF, hq_2, hS, hl⟩ := hI
  refine lv_aload_n hx hb dX4_add_0 rfl (lv_at hl 0 rfl) ?_
  have b_8 : 0 ≤ (G_1.1 19 3).toInt ∧ (G_1.1 19 3).toInt ≤ 400 := bd_19_3 hB_G_1
  refine S_getI (v := (G_1.1 19 3)) (C := RX4) (T := TX4) (N := 4) hx hb hg iX4 hown hK hW kd_19 rfl 3 (lt_b rfl) (hg (Cond.fieldLink RX4 22 "SlabWalk$Minima" "tail" "I") m430) (fun _ h9 => h9) rfl rfl dX4_add_1 ?_
  refine lv_aload_n hx hb dX4_add_4 rfl (lv_at hl 0 rfl) ?_
  have b_9 : 0 ≤ (G.1 19 2).toInt ∧ (G.1 19 2).toInt ≤ 400 := bd_19_2 hB_G
  refine S_getI (v := (G.1 19 2)) (C := RX4) (T := TX4) (N := 4) hx hb hg iX4 hown hK hW kd_19 rfl 2 (lt_b rfl) (hg (Cond.fieldLink RX4 18 "SlabWalk$Minima" "head" "I") m429) (fun _ h9 => h9) rfl (hq_2.i9 19 2 rfl rfl) dX4_add_5 ?_
  refine W.cut (σ := Unit) (pcJ := 39) (J := fun y H locs ls => ∃ (G_13 : GS), Jn_k_madd_19_2 p1 G G_1 G_13 ∧ Wd D k A a G_13 H ∧ Bd G_13 ∧ Fr [50, 51] [(19, 3)] G G_13 ∧ Fr [] [] G_1 G_13 ∧ va_S A s.heap H locs ∧ lv_has ls 3 [(0, .ref (a 19)), (1, .int p0), (2, .int p1)]) (stJ := fun _ => []) ?_ (fun hJ_14 => ?_)
  · intro y H locs ls hI
    obtain ⟨G_13, hX_16, hW, hB_G_13, hF, hq_15, hS, hl⟩ := hI
    refine lv_aload_n hx hb dX4_add_39 rfl (lv_at hl 0 rfl) ?_
    refine S_getI (v := (G_1.1 19 3)) (C := RX4) (T := TX4) (N := 4) hx hb hg iX4 hown hK hW kd_19 rfl 3 (lt_b rfl) (hg (Cond.fieldLink RX4 22 "SlabWalk$Minima" "tail" "I") m430) (fun _ h9 => h9) rfl ((hq_15.i9 19 3 rfl rfl).trans (rfl)) dX4_add_40 ?_
    refine lv_sipush (v := 400) hx hb dX4_add_43 (by decide) ?_
    refine lv_icmp_ge (tgt := 76) hx hb dX4_add_46 rfl (fun c_17 => ?_) (fun c_17 => ?_)
    · have c_17 : 400 ≤ (G_1.1 19 3).toInt := xI_le rfl rfl c_17
      exact W.vret hx hb hr (fun t ht _ => ⟨⟨G_13, rfl, (P_madd_19_mk ⟨hB_G_13, hF, ⟨G_1, hX_5, hB_G_1, hq_2, ⟨G_13, hX_16, hB_G_13, hq_15, (Or.inl ⟨c_17, rfl⟩)⟩⟩⟩), wd_t ht hW⟩, hS.F ht⟩) hS.2.2 dX4_add_76
    · have c_17 : (G_1.1 19 3).toInt < 400 := xI_nle rfl rfl c_17
      refine lv_aload_n hx hb dX4_add_49 rfl (lv_at hl 0 rfl) ?_
      refine S_getR (n := 50) (C := RX4) (T := TX4) (N := 4) hx hb hg iX4 hown hK hW kd_19 rfl 0 (lt_b rfl) (hg (Cond.fieldLink RX4 9 "SlabWalk$Minima" "keys" "[I") m427) (fun _ h9 => h9) rfl dX4_add_50 ?_
      refine lv_aload_n hx hb dX4_add_53 rfl (lv_at hl 0 rfl) ?_
      refine S_getI (v := (G_1.1 19 3)) (C := RX4) (T := TX4) (N := 4) hx hb hg iX4 hown hK hW kd_19 rfl 3 (lt_b rfl) (hg (Cond.fieldLink RX4 22 "SlabWalk$Minima" "tail" "I") m430) (fun _ h9 => h9) rfl ((hq_15.i9 19 3 rfl rfl).trans (rfl)) dX4_add_54 ?_
      refine lv_iload_n hx hb dX4_add_57 rfl (lv_at hl 1 rfl) ?_
      refine S_iast hx hb hK hW hS kd_50 (vin ((by first | exact b_8.1 | omega)) ((by first | exact ok_54 b_8.2 c_17 | omega))) dX4_add_58 (fun G_18 H locs eG_18 hW hS => ?_)
      have hB_G_18 : Bd G_18 := hB_G_13.put (lo := (-2147483648)) (hi := 2147483647) eG_18 rfl rfl rfl (tI_rng _).1 (tI_rng _).2 (hB_G_13.2.put eG_18 rfl)
      have hF := hF.put eG_18 (Or.inl (by decide))
      refine lv_aload_n hx hb dX4_add_59 rfl (lv_at hl 0 rfl) ?_
      refine S_getR (n := 51) (C := RX4) (T := TX4) (N := 4) hx hb hg iX4 hown hK hW kd_19 rfl 1 (lt_b rfl) (hg (Cond.fieldLink RX4 15 "SlabWalk$Minima" "values" "[I") m428) (fun _ h9 => h9) rfl dX4_add_60 ?_
      refine lv_aload_n hx hb dX4_add_63 rfl (lv_at hl 0 rfl) ?_
      refine lv_dup hx hb dX4_add_64 rfl ?_
      refine S_getI (v := (G_1.1 19 3)) (C := RX4) (T := TX4) (N := 4) hx hb hg iX4 hown hK hW kd_19 rfl 3 (lt_b rfl) (hg (Cond.fieldLink RX4 22 "SlabWalk$Minima" "tail" "I") m430) (fun _ h9 => h9) rfl ((gp_ne eG_18 (fun q => absurd q.1 (Nat.ne_of_beq_eq_false rfl))).trans ((hq_15.i9 19 3 rfl rfl).trans (rfl))) dX4_add_65 ?_
      refine lv_dup_x1 hx hb dX4_add_68 rfl rfl ?_
      refine ic_1 hx hb dX4_add_69 ?_
      refine lv_iadd hx hb dX4_add_70 ?_
      refine lv_topi (fun y_19 ey_19 => ?_)
      have ty_19 : y_19.toInt = (G_1.1 19 3).toInt + 1 := xI_add rfl rfl ey_19 ((by first | exact ok_21 b_8.1 | omega)) ((by first | exact ok_40 b_8.2 | omega))
      refine S_putI (ty := .int) (C := RX4) (T := TX4) (N := 4) hx hb hg iX4 tyX4 tyX4_ok nmX4 hown hK hW hS kd_19 rfl 3 (lt_b rfl) (hg (Cond.fieldLink RX4 22 "SlabWalk$Minima" "tail" "I") m430) (fun _ h9 => h9) rfl (by decide +kernel) rfl rfl rfl dX4_add_71 (fun G_20 H locs eG_20 hW hS => ?_)
      have hB_G_20 : Bd G_20 := hB_G_18.put (V := y_19.toInt) (lo := 0) (hi := 400) eG_20 rfl rfl rfl ((by first | exact ok_23 b_8.1 ty_19 | omega)) ((by first | exact ok_55 b_8.2 c_17 ty_19 | omega)) (hB_G_18.2.put eG_20 rfl)
      have hF := hF.put eG_20 (Or.inr (by decide))
      refine lv_iload_n hx hb dX4_add_74 rfl (lv_at hl 2 rfl) ?_
      refine S_iast hx hb hK hW hS kd_51 (vin ((by first | exact b_8.1 | omega)) ((by first | exact ok_54 b_8.2 c_17 | omega))) dX4_add_75 (fun G_21 H locs eG_21 hW hS => ?_)
      have hB_G_21 : Bd G_21 := hB_G_20.put (lo := (-2147483648)) (hi := 2147483647) eG_21 rfl rfl rfl (tI_rng _).1 (tI_rng _).2 (hB_G_20.2.put eG_21 rfl)
      have hF := hF.put eG_21 (Or.inl (by decide))
      exact W.vret hx hb hr (fun t ht _ => ⟨⟨G_21, rfl, (P_madd_19_mk ⟨hB_G_21, hF, ⟨G_1, hX_5, hB_G_1, hq_2, ⟨G_13, hX_16, hB_G_13, hq_15, (Or.inr ⟨c_17, ⟨y_19, ty_19, ⟨(Fr.put (rs := [50, 51]) (fs := [(19, 3)]) (Fr.put (rs := [50, 51]) (fs := [(19, 3)]) (Fr.put (rs := [50, 51]) (fs := [(19, 3)]) Fr.rf eG_18 (Or.inl (by decide))) eG_20 (Or.inr (by decide))) eG_21 (Or.inl (by decide))), ((gp_ne eG_21 (fun q => absurd q.1 (Nat.ne_of_beq_eq_false rfl))).trans (gp_eq eG_20)), (rw_put eG_21 (by decide)).trans ((rw_put eG_20 (by decide)).trans (rw_ast eG_18)), (rw_ast eG_21).trans (congrArg (fun q => upd q ((G_1.1 19 3).toNatClampNeg) p1) ((rw_put eG_20 (by decide)).trans (rw_put eG_18 (by decide))))⟩⟩⟩)⟩⟩⟩), wd_t ht hW⟩, hS.F ht⟩) hS.2.2 dX4_add_76
  refine lv_icmp_le (tgt := 39) hx hb dX4_add_8 rfl (fun c_22 => ?_) (fun c_22 => ?_)
  · have c_22 : (G_1.1 19 3).toInt ≤ (G.1 19 2).toInt := xI_le rfl rfl c_22
    exact hJ_14 () _ _ _ ⟨G_1, (Jn_k_madd_19_2_mk (Or.inl ⟨c_22, rfl⟩)), hW, hB_G_1, hF, (Fr.rf (rs := []) (fs := [])), hS, lv_sub hl [0, 1, 2] rfl⟩
  · have c_22 : (G.1 19 2).toInt < (G_1.1 19 3).toInt := xI_nle rfl rfl c_22
    refine lv_aload_n hx hb dX4_add_11 rfl (lv_at hl 0 rfl) ?_
    refine S_getR (n := 51) (C := RX4) (T := TX4) (N := 4) hx hb hg iX4 hown hK hW kd_19 rfl 1 (lt_b rfl) (hg (Cond.fieldLink RX4 15 "SlabWalk$Minima" "values" "[I") m428) (fun _ h9 => h9) rfl dX4_add_12 ?_
    refine lv_aload_n hx hb dX4_add_15 rfl (lv_at hl 0 rfl) ?_
    refine S_getI (v := (G_1.1 19 3)) (C := RX4) (T := TX4) (N := 4) hx hb hg iX4 hown hK hW kd_19 rfl 3 (lt_b rfl) (hg (Cond.fieldLink RX4 22 "SlabWalk$Minima" "tail" "I") m430) (fun _ h9 => h9) rfl rfl dX4_add_16 ?_
    refine ic_1 hx hb dX4_add_19 ?_
    refine lv_isub hx hb dX4_add_20 ?_
    refine lv_topi (fun y_23 ey_23 => ?_)
    have ty_23 : y_23.toInt = (G_1.1 19 3).toInt - 1 := xI_sub rfl rfl ey_23 ((by first | exact ok_56 b_8.1 | omega)) ((by first | exact ok_57 b_8.2 | omega))
    refine S_iald hx hb hK hW kd_51 (vin ((by first | exact ok_58 b_8.1 b_9.1 c_22 ty_23 | omega)) ((by first | exact ok_59 b_8.2 ty_23 | omega))) dX4_add_21 (fun y_24 ey_24 => ?_)
    refine lv_iload_n hx hb dX4_add_22 rfl (lv_at hl 2 rfl) ?_
    refine lv_icmp_lt (tgt := 39) hx hb dX4_add_23 rfl (fun c_25 => ?_) (fun c_25 => ?_)
    · have c_25 : y_24.toInt < p1.toInt := xI_lt rfl rfl c_25
      exact hJ_14 () _ _ _ ⟨G_1, (Jn_k_madd_19_2_mk (Or.inr ⟨c_22, ⟨y_23, ty_23, ⟨y_24, ey_24, ⟨c_25, rfl⟩⟩⟩⟩)), hW, hB_G_1, hF, (Fr.rf (rs := []) (fs := [])), hS, lv_sub hl [0, 1, 2] rfl⟩
    · have c_25 : p1.toInt ≤ y_24.toInt := xI_nlt rfl rfl c_25
      refine lv_aload_n hx hb dX4_add_26 rfl (lv_at hl 0 rfl) ?_
      refine lv_dup hx hb dX4_add_27 rfl ?_
      refine S_getI (v := (G_1.1 19 3)) (C := RX4) (T := TX4) (N := 4) hx hb hg iX4 hown hK hW kd_19 rfl 3 (lt_b rfl) (hg (Cond.fieldLink RX4 22 "SlabWalk$Minima" "tail" "I") m430) (fun _ h9 => h9) rfl rfl dX4_add_28 ?_
      refine ic_1 hx hb dX4_add_31 ?_
      refine lv_isub hx hb dX4_add_32 ?_
      refine lv_topi (fun y_26 ey_26 => ?_)
      have ty_26 : y_26.toInt = (G_1.1 19 3).toInt - 1 := xI_sub rfl rfl ey_26 ((by first | exact ok_56 b_8.1 | omega)) ((by first | exact ok_57 b_8.2 | omega))
      refine S_putI (ty := .int) (C := RX4) (T := TX4) (N := 4) hx hb hg iX4 tyX4 tyX4_ok nmX4 hown hK hW hS kd_19 rfl 3 (lt_b rfl) (hg (Cond.fieldLink RX4 22 "SlabWalk$Minima" "tail" "I") m430) (fun _ h9 => h9) rfl (by decide +kernel) rfl rfl rfl dX4_add_33 (fun G_27 H locs eG_27 hW hS => ?_)
      have hB_G_27 : Bd G_27 := hB_G_1.put (V := y_26.toInt) (lo := 0) (hi := 400) eG_27 rfl rfl rfl ((by first | exact ok_58 b_8.1 b_9.1 c_22 ty_26 | omega)) ((by first | exact ok_60 b_8.2 ty_26 | omega)) (hB_G_1.2.put eG_27 rfl)
      have hF := hF.put eG_27 (Or.inr (by decide))
      refine lv_goto (tgt := 0) hx hb dX4_add_36 rfl ?_
      have g_28 : (G_27.1 19 3).toInt = y_26.toInt := (congrArg Int32.toInt (show G_27.1 19 3 = y_26 from (gp_eq eG_27)))
      exact ih_3 ((G_27.1 19 3).toInt : Int).toNat (by omega) _ _ _ ⟨G_27, (Int.toNat_of_nonneg ((by first | exact ok_61 b_8.1 b_9.1 c_22 ty_26 g_28 | omega))), (hX_5.st (St_k_madd_19_1_mk ⟨G_1, G_27, rfl, rfl, hB_G_1, ⟨c_22, ⟨y_23, ty_23, ⟨y_24, ey_24, ⟨c_25, ⟨y_26, ty_26, ⟨(Fr.put (rs := []) (fs := [(19, 3)]) Fr.rf eG_27 (Or.inr (by decide))), (gp_eq eG_27)⟩⟩⟩⟩⟩⟩⟩)), hW, hB_G_27, hF, (Fr.put (rs := []) (fs := [(19, 3)]) (Fr.call9 (rs := []) (fs := [(19, 3)]) Fr.rf hq_2 rfl rfl) eG_27 (Or.inr (by decide))), hS, lv_sub hl [0, 1, 2] rfl⟩

set_option maxHeartbeats 4000000 in
set_option maxRecDepth 100000 in
theorem k_mleast_19 (l : Launch) (D : va_G) (k : KT) (A : Nat → Prop) (a : Nat → Nat) (z : SK) (G : GS) (p0 : Int32)  : Met l yX4_leastFrom (WS yX4_leastFrom cX4_leastFrom 2 (some .int)) ({ frames := 0, cells := 0, slots := 0, locals := 0 }) (va_Pc [.ref (a 19), .int p0] (cW D k A a z G)) (va_Qi (fun (r : Int32) (G1 : GS) => P_mleast_19 p0 G r G1) (fun (G1 : GS) t => Wd D k A a G1 t.heap) A) 0 0 A := by
  refine Met.ofW (cc := cX4_leastFrom) (maxL := 2) (ret := (some .int)) (by decide) rfl ?_
  intro p e s m args below meth c s₁ B hml hv
  obtain ⟨rfl, hW, hB_G, hK, hZ⟩ := hv
  have hx := B.exec
  have hb := B.bytes
  have hr := B.returns
  have hts := atoms_spec (ws := WS yX4_leastFrom cX4_leastFrom 2 (some .int)) B.pre
  have hgd : ∀ w ∈ gd, w ∈ WS yX4_leastFrom cX4_leastFrom 2 (some .int) := fun w h => List.mem_cons_of_mem _ h
  have hg : ∀ w ∈ gd, w.before _ s = true := fun w h => hts w (hgd w h)
  have hown : s.vm.findClass RX4 = some m.cls := findClass_of_methodNamed B.named
  have hS : va_S A s.heap s.heap [] := va_S.rf
  have hF : Fr [] [(19, 2)] G G := Fr.rf
  have hl := lv_entry ([.ref (a 19), .int p0]) (n := 2) (Nat.le_of_ble_eq_true rfl)
  rw [lg_entry_eq]
  generalize (lg_sl ([.ref (a 19), .int p0]) ++ List.replicate (2 - (lg_sl ([.ref (a 19), .int p0])).length) Slot.unset).toArray = ls at hl ⊢
  have hl : lv_has ls 2 [(0, .ref (a 19)), (1, .int p0)] := hl
  have b_6 : 0 ≤ (G.1 19 2).toInt ∧ (G.1 19 2).toInt ≤ 400 := bd_19_2 hB_G
  refine loop_N (Inv := fun n H locs ls => ∃ (G_1 : GS), (n : Int) = 400 - (G_1.1 19 2).toInt ∧ Rc (St_k_mleast_19_1 p0 G) G G_1 ∧ Wd D k A a G_1 H ∧ Bd G_1 ∧ Fr [] [(19, 2)] G G_1 ∧ Fr [] [(19, 2)] G G_1 ∧ va_S A s.heap H locs ∧ lv_has ls 2 [(0, .ref (a 19)), (1, .int p0)]) (fun n_4 H locs ls ih_3 hI => ?_) (400 - (G.1 19 2).toInt : Int).toNat ⟨G, (Int.toNat_of_nonneg ((by first | exact ok_62 b_6.2 | omega))), Rc.rf, hW, hB_G, hF, Fr.rf, hS, lv_sub hl [0, 1] rfl⟩
  obtain ⟨G_1, hn_7, hX_5, hW, hB_G_1, hF, hq_2, hS, hl⟩ := hI
  refine lv_aload_n hx hb dX4_leastFrom_0 rfl (lv_at hl 0 rfl) ?_
  have b_8 : 0 ≤ (G_1.1 19 2).toInt ∧ (G_1.1 19 2).toInt ≤ 400 := bd_19_2 hB_G_1
  refine S_getI (v := (G_1.1 19 2)) (C := RX4) (T := TX4) (N := 4) hx hb hg iX4 hown hK hW kd_19 rfl 2 (lt_b rfl) (hg (Cond.fieldLink RX4 18 "SlabWalk$Minima" "head" "I") m429) (fun _ h9 => h9) rfl rfl dX4_leastFrom_1 ?_
  refine lv_aload_n hx hb dX4_leastFrom_4 rfl (lv_at hl 0 rfl) ?_
  have b_9 : 0 ≤ (G.1 19 3).toInt ∧ (G.1 19 3).toInt ≤ 400 := bd_19_3 hB_G
  refine S_getI (v := (G.1 19 3)) (C := RX4) (T := TX4) (N := 4) hx hb hg iX4 hown hK hW kd_19 rfl 3 (lt_b rfl) (hg (Cond.fieldLink RX4 22 "SlabWalk$Minima" "tail" "I") m430) (fun _ h9 => h9) rfl (hq_2.i9 19 3 rfl rfl) dX4_leastFrom_5 ?_
  refine lv_icmp_ge (tgt := 37) hx hb dX4_leastFrom_8 rfl (fun c_10 => ?_) (fun c_10 => ?_)
  · have c_10 : (G.1 19 3).toInt ≤ (G_1.1 19 2).toInt := xI_le rfl rfl c_10
    refine lv_aload_n hx hb dX4_leastFrom_37 rfl (lv_at hl 0 rfl) ?_
    refine S_getI (v := (G_1.1 19 2)) (C := RX4) (T := TX4) (N := 4) hx hb hg iX4 hown hK hW kd_19 rfl 2 (lt_b rfl) (hg (Cond.fieldLink RX4 18 "SlabWalk$Minima" "head" "I") m429) (fun _ h9 => h9) rfl rfl dX4_leastFrom_38 ?_
    refine lv_aload_n hx hb dX4_leastFrom_41 rfl (lv_at hl 0 rfl) ?_
    refine S_getI (v := (G.1 19 3)) (C := RX4) (T := TX4) (N := 4) hx hb hg iX4 hown hK hW kd_19 rfl 3 (lt_b rfl) (hg (Cond.fieldLink RX4 22 "SlabWalk$Minima" "tail" "I") m430) (fun _ h9 => h9) rfl ((hq_2.i9 19 3 rfl rfl).trans (rfl)) dX4_leastFrom_42 ?_
    refine lv_icmp_ge (tgt := 60) hx hb dX4_leastFrom_45 rfl (fun c_11 => ?_) (fun c_11 => ?_)
    · have c_11 : (G.1 19 3).toInt ≤ (G_1.1 19 2).toInt := xI_le rfl rfl c_11
      refine lv_ldc (v := 1000000) hx hb hown (hg (Cond.constant RX4 27 1000000) m1112) dX4_leastFrom_60 ?_
      exact W.iret (v := 1000000) hx hb hr (fun t ht _ => ⟨⟨1000000, G_1, rfl, (P_mleast_19_mk ⟨hB_G_1, hF, ⟨G_1, hX_5, hB_G_1, hq_2, (Or.inl ⟨c_10, (Or.inl ⟨c_11, ⟨rfl, rfl⟩⟩)⟩)⟩⟩), wd_t ht hW⟩, hS.F ht⟩) hS.2.2 dX4_leastFrom_62
    · have c_11 : (G_1.1 19 2).toInt < (G.1 19 3).toInt := xI_nle rfl rfl c_11
      refine lv_aload_n hx hb dX4_leastFrom_48 rfl (lv_at hl 0 rfl) ?_
      refine S_getR (n := 51) (C := RX4) (T := TX4) (N := 4) hx hb hg iX4 hown hK hW kd_19 rfl 1 (lt_b rfl) (hg (Cond.fieldLink RX4 15 "SlabWalk$Minima" "values" "[I") m428) (fun _ h9 => h9) rfl dX4_leastFrom_49 ?_
      refine lv_aload_n hx hb dX4_leastFrom_52 rfl (lv_at hl 0 rfl) ?_
      refine S_getI (v := (G_1.1 19 2)) (C := RX4) (T := TX4) (N := 4) hx hb hg iX4 hown hK hW kd_19 rfl 2 (lt_b rfl) (hg (Cond.fieldLink RX4 18 "SlabWalk$Minima" "head" "I") m429) (fun _ h9 => h9) rfl rfl dX4_leastFrom_53 ?_
      refine S_iald hx hb hK hW kd_51 (vin ((by first | exact b_8.1 | omega)) ((by first | exact ok_63 b_8.2 b_9.2 c_11 | omega))) dX4_leastFrom_56 (fun y_12 ey_12 => ?_)
      refine lv_goto (tgt := 62) hx hb dX4_leastFrom_57 rfl ?_
      exact W.iret (v := y_12) hx hb hr (fun t ht _ => ⟨⟨y_12, G_1, rfl, (P_mleast_19_mk ⟨hB_G_1, hF, ⟨G_1, hX_5, hB_G_1, hq_2, (Or.inl ⟨c_10, (Or.inr ⟨c_11, ⟨y_12, ey_12, ⟨rfl, rfl⟩⟩⟩)⟩)⟩⟩), wd_t ht hW⟩, hS.F ht⟩) hS.2.2 dX4_leastFrom_62
  · have c_10 : (G_1.1 19 2).toInt < (G.1 19 3).toInt := xI_nle rfl rfl c_10
    refine lv_aload_n hx hb dX4_leastFrom_11 rfl (lv_at hl 0 rfl) ?_
    refine S_getR (n := 50) (C := RX4) (T := TX4) (N := 4) hx hb hg iX4 hown hK hW kd_19 rfl 0 (lt_b rfl) (hg (Cond.fieldLink RX4 9 "SlabWalk$Minima" "keys" "[I") m427) (fun _ h9 => h9) rfl dX4_leastFrom_12 ?_
    refine lv_aload_n hx hb dX4_leastFrom_15 rfl (lv_at hl 0 rfl) ?_
    refine S_getI (v := (G_1.1 19 2)) (C := RX4) (T := TX4) (N := 4) hx hb hg iX4 hown hK hW kd_19 rfl 2 (lt_b rfl) (hg (Cond.fieldLink RX4 18 "SlabWalk$Minima" "head" "I") m429) (fun _ h9 => h9) rfl rfl dX4_leastFrom_16 ?_
    refine S_iald hx hb hK hW kd_50 (vin ((by first | exact b_8.1 | omega)) ((by first | exact ok_63 b_8.2 b_9.2 c_10 | omega))) dX4_leastFrom_19 (fun y_13 ey_13 => ?_)
    refine lv_iload_n hx hb dX4_leastFrom_20 rfl (lv_at hl 1 rfl) ?_
    refine lv_icmp_ge (tgt := 37) hx hb dX4_leastFrom_21 rfl (fun c_14 => ?_) (fun c_14 => ?_)
    · have c_14 : p0.toInt ≤ y_13.toInt := xI_le rfl rfl c_14
      refine lv_aload_n hx hb dX4_leastFrom_37 rfl (lv_at hl 0 rfl) ?_
      refine S_getI (v := (G_1.1 19 2)) (C := RX4) (T := TX4) (N := 4) hx hb hg iX4 hown hK hW kd_19 rfl 2 (lt_b rfl) (hg (Cond.fieldLink RX4 18 "SlabWalk$Minima" "head" "I") m429) (fun _ h9 => h9) rfl rfl dX4_leastFrom_38 ?_
      refine lv_aload_n hx hb dX4_leastFrom_41 rfl (lv_at hl 0 rfl) ?_
      refine S_getI (v := (G.1 19 3)) (C := RX4) (T := TX4) (N := 4) hx hb hg iX4 hown hK hW kd_19 rfl 3 (lt_b rfl) (hg (Cond.fieldLink RX4 22 "SlabWalk$Minima" "tail" "I") m430) (fun _ h9 => h9) rfl ((hq_2.i9 19 3 rfl rfl).trans (rfl)) dX4_leastFrom_42 ?_
      refine lv_icmp_ge (tgt := 60) hx hb dX4_leastFrom_45 rfl (fun c_15 => ?_) (fun c_15 => ?_)
      · have c_15 : (G.1 19 3).toInt ≤ (G_1.1 19 2).toInt := xI_le rfl rfl c_15
        refine lv_ldc (v := 1000000) hx hb hown (hg (Cond.constant RX4 27 1000000) m1112) dX4_leastFrom_60 ?_
        exact W.iret (v := 1000000) hx hb hr (fun t ht _ => ⟨⟨1000000, G_1, rfl, (P_mleast_19_mk ⟨hB_G_1, hF, ⟨G_1, hX_5, hB_G_1, hq_2, (Or.inr ⟨c_10, ⟨y_13, ey_13, ⟨c_14, (Or.inl ⟨c_15, ⟨rfl, rfl⟩⟩)⟩⟩⟩)⟩⟩), wd_t ht hW⟩, hS.F ht⟩) hS.2.2 dX4_leastFrom_62
      · have c_15 : (G_1.1 19 2).toInt < (G.1 19 3).toInt := xI_nle rfl rfl c_15
        refine lv_aload_n hx hb dX4_leastFrom_48 rfl (lv_at hl 0 rfl) ?_
        refine S_getR (n := 51) (C := RX4) (T := TX4) (N := 4) hx hb hg iX4 hown hK hW kd_19 rfl 1 (lt_b rfl) (hg (Cond.fieldLink RX4 15 "SlabWalk$Minima" "values" "[I") m428) (fun _ h9 => h9) rfl dX4_leastFrom_49 ?_
        refine lv_aload_n hx hb dX4_leastFrom_52 rfl (lv_at hl 0 rfl) ?_
        refine S_getI (v := (G_1.1 19 2)) (C := RX4) (T := TX4) (N := 4) hx hb hg iX4 hown hK hW kd_19 rfl 2 (lt_b rfl) (hg (Cond.fieldLink RX4 18 "SlabWalk$Minima" "head" "I") m429) (fun _ h9 => h9) rfl rfl dX4_leastFrom_53 ?_
        refine S_iald hx hb hK hW kd_51 (vin ((by first | exact b_8.1 | omega)) ((by first | exact ok_63 b_8.2 b_9.2 c_10 | omega))) dX4_leastFrom_56 (fun y_16 ey_16 => ?_)
        refine lv_goto (tgt := 62) hx hb dX4_leastFrom_57 rfl ?_
        exact W.iret (v := y_16) hx hb hr (fun t ht _ => ⟨⟨y_16, G_1, rfl, (P_mleast_19_mk ⟨hB_G_1, hF, ⟨G_1, hX_5, hB_G_1, hq_2, (Or.inr ⟨c_10, ⟨y_13, ey_13, ⟨c_14, (Or.inr ⟨c_15, ⟨y_16, ey_16, ⟨rfl, rfl⟩⟩⟩)⟩⟩⟩)⟩⟩), wd_t ht hW⟩, hS.F ht⟩) hS.2.2 dX4_leastFrom_62
    · have c_14 : y_13.toInt < p0.toInt := xI_nle rfl rfl c_14
      refine lv_aload_n hx hb dX4_leastFrom_24 rfl (lv_at hl 0 rfl) ?_
      refine lv_dup hx hb dX4_leastFrom_25 rfl ?_
      refine S_getI (v := (G_1.1 19 2)) (C := RX4) (T := TX4) (N := 4) hx hb hg iX4 hown hK hW kd_19 rfl 2 (lt_b rfl) (hg (Cond.fieldLink RX4 18 "SlabWalk$Minima" "head" "I") m429) (fun _ h9 => h9) rfl rfl dX4_leastFrom_26 ?_
      refine ic_1 hx hb dX4_leastFrom_29 ?_
      refine lv_iadd hx hb dX4_leastFrom_30 ?_
      refine lv_topi (fun y_17 ey_17 => ?_)
      have ty_17 : y_17.toInt = (G_1.1 19 2).toInt + 1 := xI_add rfl rfl ey_17 ((by first | exact ok_21 b_8.1 | omega)) ((by first | exact ok_40 b_8.2 | omega))
      refine S_putI (ty := .int) (C := RX4) (T := TX4) (N := 4) hx hb hg iX4 tyX4 tyX4_ok nmX4 hown hK hW hS kd_19 rfl 2 (lt_b rfl) (hg (Cond.fieldLink RX4 18 "SlabWalk$Minima" "head" "I") m429) (fun _ h9 => h9) rfl (by decide +kernel) rfl rfl rfl dX4_leastFrom_31 (fun G_18 H locs eG_18 hW hS => ?_)
      have hB_G_18 : Bd G_18 := hB_G_1.put (V := y_17.toInt) (lo := 0) (hi := 400) eG_18 rfl rfl rfl ((by first | exact ok_23 b_8.1 ty_17 | omega)) ((by first | exact ok_64 b_8.2 b_9.2 c_10 ty_17 | omega)) (hB_G_1.2.put eG_18 rfl)
      have hF := hF.put eG_18 (Or.inr (by decide))
      refine lv_goto (tgt := 0) hx hb dX4_leastFrom_34 rfl ?_
      have g_19 : (G_18.1 19 2).toInt = y_17.toInt := (congrArg Int32.toInt (show G_18.1 19 2 = y_17 from (gp_eq eG_18)))
      exact ih_3 (400 - (G_18.1 19 2).toInt : Int).toNat (by omega) _ _ _ ⟨G_18, (Int.toNat_of_nonneg ((by first | exact ok_65 b_8.2 b_9.2 c_10 ty_17 g_19 | omega))), (hX_5.st (St_k_mleast_19_1_mk ⟨G_1, G_18, rfl, rfl, hB_G_1, ⟨c_10, ⟨y_13, ey_13, ⟨c_14, ⟨y_17, ty_17, ⟨(Fr.put (rs := []) (fs := [(19, 2)]) Fr.rf eG_18 (Or.inr (by decide))), (gp_eq eG_18)⟩⟩⟩⟩⟩⟩)), hW, hB_G_18, hF, (Fr.put (rs := []) (fs := [(19, 2)]) (Fr.call9 (rs := []) (fs := [(19, 2)]) Fr.rf hq_2 rfl rfl) eG_18 (Or.inr (by decide))), hS, lv_sub hl [0, 1] rfl⟩

theorem m258 : Cond.fieldLink RX9 15 "SlabWalk$Tokens" "text" "[B" ∈ gd := gdc_1_8 14 rfl gw_fieldLink
theorem m259 : Cond.fieldLink RX9 25 "SlabWalk$Tokens" "size" "I" ∈ gd := gdc_1_8 15 rfl gw_fieldLink
theorem m262 : Cond.fieldLink RX9 38 "SlabWalk$Tokens" "kind" "I" ∈ gd := gdc_1_9 2 rfl gw_fieldLink
theorem m264 : Cond.fieldLink RX9 41 "SlabWalk$Tokens" "place" "I" ∈ gd := gdc_1_9 4 rfl gw_fieldLink
theorem m270 : Cond.fieldLink RX9 31 "SlabWalk$Tokens" "fault" "I" ∈ gd := gdc_1_9 10 rfl gw_fieldLink
theorem m272 : Cond.fieldLink RX9 9 "SlabWalk$Tokens" "faultPlace" "I" ∈ gd := gdc_1_9 12 rfl gw_fieldLink
noncomputable def rbX9_isDigit_0 : List (Nat × List Nat) := [(0, [27]), (1, [42]), (2, [180, 0, 25]), (5, [162, 0, 29]), (8, [42]), (9, [180, 0, 15]), (12, [27]), (13, [51]), (14, [16, 48]), (16, [161, 0, 18]), (19, [42]), (20, [180, 0, 15]), (23, [27]), (24, [51]), (25, [16, 57]), (27, [163, 0, 7]), (30, [4]), (31, [167, 0, 4]), (34, [3]), (35, [172])]
theorem rcX9_isDigit_0 : dgo (lb cX9_isDigit) 0 rbX9_isDigit_0 = true := by decide +kernel
theorem dX9_isDigit_0 : decode cX9_isDigit 0 = .ok (.iload_n 1, 1) := dk_27 (dw rcX9_isDigit_0 0 rfl)
theorem dX9_isDigit_1 : decode cX9_isDigit 1 = .ok (.aload_n 0, 1) := dk_42 (dw rcX9_isDigit_0 1 rfl)
theorem dX9_isDigit_2 : decode cX9_isDigit 2 = .ok (.getfield 25, 3) := dk_180 (dw rcX9_isDigit_0 2 rfl) rfl
theorem dX9_isDigit_5 : decode cX9_isDigit 5 = .ok (.if_icmp .ge 29, 3) := dk_162 (dw rcX9_isDigit_0 3 rfl) rfl
theorem dX9_isDigit_8 : decode cX9_isDigit 8 = .ok (.aload_n 0, 1) := dk_42 (dw rcX9_isDigit_0 4 rfl)
theorem dX9_isDigit_9 : decode cX9_isDigit 9 = .ok (.getfield 15, 3) := dk_180 (dw rcX9_isDigit_0 5 rfl) rfl
theorem dX9_isDigit_12 : decode cX9_isDigit 12 = .ok (.iload_n 1, 1) := dk_27 (dw rcX9_isDigit_0 6 rfl)
theorem dX9_isDigit_13 : decode cX9_isDigit 13 = .ok (.baload, 1) := dk_51 (dw rcX9_isDigit_0 7 rfl)
theorem dX9_isDigit_14 : decode cX9_isDigit 14 = .ok (.bipush 48, 2) := dk_16 (dw rcX9_isDigit_0 8 rfl) rfl
theorem dX9_isDigit_16 : decode cX9_isDigit 16 = .ok (.if_icmp .lt 18, 3) := dk_161 (dw rcX9_isDigit_0 9 rfl) rfl
theorem dX9_isDigit_19 : decode cX9_isDigit 19 = .ok (.aload_n 0, 1) := dk_42 (dw rcX9_isDigit_0 10 rfl)
theorem dX9_isDigit_20 : decode cX9_isDigit 20 = .ok (.getfield 15, 3) := dk_180 (dw rcX9_isDigit_0 11 rfl) rfl
theorem dX9_isDigit_23 : decode cX9_isDigit 23 = .ok (.iload_n 1, 1) := dk_27 (dw rcX9_isDigit_0 12 rfl)
theorem dX9_isDigit_24 : decode cX9_isDigit 24 = .ok (.baload, 1) := dk_51 (dw rcX9_isDigit_0 13 rfl)
theorem dX9_isDigit_25 : decode cX9_isDigit 25 = .ok (.bipush 57, 2) := dk_16 (dw rcX9_isDigit_0 14 rfl) rfl
theorem dX9_isDigit_27 : decode cX9_isDigit 27 = .ok (.if_icmp .gt 7, 3) := dk_163 (dw rcX9_isDigit_0 15 rfl) rfl
theorem dX9_isDigit_30 : decode cX9_isDigit 30 = .ok (.iconst 1, 1) := dk_4 (dw rcX9_isDigit_0 16 rfl)
theorem dX9_isDigit_31 : decode cX9_isDigit 31 = .ok (.goto 4, 3) := dk_167 (dw rcX9_isDigit_0 17 rfl) rfl
theorem dX9_isDigit_34 : decode cX9_isDigit 34 = .ok (.iconst 0, 1) := dk_3 (dw rcX9_isDigit_0 18 rfl)
theorem dX9_isDigit_35 : decode cX9_isDigit 35 = .ok (.ireturn, 1) := dk_172 (dw rcX9_isDigit_0 19 rfl)
noncomputable def rbX9_isLetter_0 : List (Nat × List Nat) := [(0, [27]), (1, [42]), (2, [180, 0, 25]), (5, [162, 0, 29]), (8, [42]), (9, [180, 0, 15]), (12, [27]), (13, [51]), (14, [16, 97]), (16, [161, 0, 18]), (19, [42]), (20, [180, 0, 15]), (23, [27]), (24, [51]), (25, [16, 122]), (27, [163, 0, 7]), (30, [4]), (31, [167, 0, 4]), (34, [3]), (35, [172])]
theorem rcX9_isLetter_0 : dgo (lb cX9_isLetter) 0 rbX9_isLetter_0 = true := by decide +kernel
theorem dX9_isLetter_0 : decode cX9_isLetter 0 = .ok (.iload_n 1, 1) := dk_27 (dw rcX9_isLetter_0 0 rfl)
theorem dX9_isLetter_1 : decode cX9_isLetter 1 = .ok (.aload_n 0, 1) := dk_42 (dw rcX9_isLetter_0 1 rfl)
theorem dX9_isLetter_2 : decode cX9_isLetter 2 = .ok (.getfield 25, 3) := dk_180 (dw rcX9_isLetter_0 2 rfl) rfl
theorem dX9_isLetter_5 : decode cX9_isLetter 5 = .ok (.if_icmp .ge 29, 3) := dk_162 (dw rcX9_isLetter_0 3 rfl) rfl
theorem dX9_isLetter_8 : decode cX9_isLetter 8 = .ok (.aload_n 0, 1) := dk_42 (dw rcX9_isLetter_0 4 rfl)
theorem dX9_isLetter_9 : decode cX9_isLetter 9 = .ok (.getfield 15, 3) := dk_180 (dw rcX9_isLetter_0 5 rfl) rfl
theorem dX9_isLetter_12 : decode cX9_isLetter 12 = .ok (.iload_n 1, 1) := dk_27 (dw rcX9_isLetter_0 6 rfl)
theorem dX9_isLetter_13 : decode cX9_isLetter 13 = .ok (.baload, 1) := dk_51 (dw rcX9_isLetter_0 7 rfl)
theorem dX9_isLetter_14 : decode cX9_isLetter 14 = .ok (.bipush 97, 2) := dk_16 (dw rcX9_isLetter_0 8 rfl) rfl
theorem dX9_isLetter_16 : decode cX9_isLetter 16 = .ok (.if_icmp .lt 18, 3) := dk_161 (dw rcX9_isLetter_0 9 rfl) rfl
theorem dX9_isLetter_19 : decode cX9_isLetter 19 = .ok (.aload_n 0, 1) := dk_42 (dw rcX9_isLetter_0 10 rfl)
theorem dX9_isLetter_20 : decode cX9_isLetter 20 = .ok (.getfield 15, 3) := dk_180 (dw rcX9_isLetter_0 11 rfl) rfl
theorem dX9_isLetter_23 : decode cX9_isLetter 23 = .ok (.iload_n 1, 1) := dk_27 (dw rcX9_isLetter_0 12 rfl)
theorem dX9_isLetter_24 : decode cX9_isLetter 24 = .ok (.baload, 1) := dk_51 (dw rcX9_isLetter_0 13 rfl)
theorem dX9_isLetter_25 : decode cX9_isLetter 25 = .ok (.bipush 122, 2) := dk_16 (dw rcX9_isLetter_0 14 rfl) rfl
theorem dX9_isLetter_27 : decode cX9_isLetter 27 = .ok (.if_icmp .gt 7, 3) := dk_163 (dw rcX9_isLetter_0 15 rfl) rfl
theorem dX9_isLetter_30 : decode cX9_isLetter 30 = .ok (.iconst 1, 1) := dk_4 (dw rcX9_isLetter_0 16 rfl)
theorem dX9_isLetter_31 : decode cX9_isLetter 31 = .ok (.goto 4, 3) := dk_167 (dw rcX9_isLetter_0 17 rfl) rfl
theorem dX9_isLetter_34 : decode cX9_isLetter 34 = .ok (.iconst 0, 1) := dk_3 (dw rcX9_isLetter_0 18 rfl)
theorem dX9_isLetter_35 : decode cX9_isLetter 35 = .ok (.ireturn, 1) := dk_172 (dw rcX9_isLetter_0 19 rfl)
noncomputable def rbX9_refuse_0 : List (Nat × List Nat) := [(0, [42]), (1, [180, 0, 31]), (4, [154, 0, 30]), (7, [42]), (8, [42]), (9, [180, 0, 38]), (12, [17, 0, 202]), (15, [160, 0, 7]), (18, [4]), (19, [167, 0, 4]), (22, [27]), (23, [181, 0, 31]), (26, [42]), (27, [42]), (28, [180, 0, 41]), (31, [181, 0, 9]), (34, [3]), (35, [172])]
theorem rcX9_refuse_0 : dgo (lb cX9_refuse) 0 rbX9_refuse_0 = true := by decide +kernel
theorem dX9_refuse_0 : decode cX9_refuse 0 = .ok (.aload_n 0, 1) := dk_42 (dw rcX9_refuse_0 0 rfl)
theorem dX9_refuse_1 : decode cX9_refuse 1 = .ok (.getfield 31, 3) := dk_180 (dw rcX9_refuse_0 1 rfl) rfl
theorem dX9_refuse_4 : decode cX9_refuse 4 = .ok (.ifCond .ne 30, 3) := dk_154 (dw rcX9_refuse_0 2 rfl) rfl
theorem dX9_refuse_7 : decode cX9_refuse 7 = .ok (.aload_n 0, 1) := dk_42 (dw rcX9_refuse_0 3 rfl)
theorem dX9_refuse_8 : decode cX9_refuse 8 = .ok (.aload_n 0, 1) := dk_42 (dw rcX9_refuse_0 4 rfl)
theorem dX9_refuse_9 : decode cX9_refuse 9 = .ok (.getfield 38, 3) := dk_180 (dw rcX9_refuse_0 5 rfl) rfl
theorem dX9_refuse_12 : decode cX9_refuse 12 = .ok (.sipush 202, 3) := dk_17 (dw rcX9_refuse_0 6 rfl) rfl
theorem dX9_refuse_15 : decode cX9_refuse 15 = .ok (.if_icmp .ne 7, 3) := dk_160 (dw rcX9_refuse_0 7 rfl) rfl
theorem dX9_refuse_18 : decode cX9_refuse 18 = .ok (.iconst 1, 1) := dk_4 (dw rcX9_refuse_0 8 rfl)
theorem dX9_refuse_19 : decode cX9_refuse 19 = .ok (.goto 4, 3) := dk_167 (dw rcX9_refuse_0 9 rfl) rfl
theorem dX9_refuse_22 : decode cX9_refuse 22 = .ok (.iload_n 1, 1) := dk_27 (dw rcX9_refuse_0 10 rfl)
theorem dX9_refuse_23 : decode cX9_refuse 23 = .ok (.putfield 31, 3) := dk_181 (dw rcX9_refuse_0 11 rfl) rfl
theorem dX9_refuse_26 : decode cX9_refuse 26 = .ok (.aload_n 0, 1) := dk_42 (dw rcX9_refuse_0 12 rfl)
theorem dX9_refuse_27 : decode cX9_refuse 27 = .ok (.aload_n 0, 1) := dk_42 (dw rcX9_refuse_0 13 rfl)
theorem dX9_refuse_28 : decode cX9_refuse 28 = .ok (.getfield 41, 3) := dk_180 (dw rcX9_refuse_0 14 rfl) rfl
theorem dX9_refuse_31 : decode cX9_refuse 31 = .ok (.putfield 9, 3) := dk_181 (dw rcX9_refuse_0 15 rfl) rfl
theorem dX9_refuse_34 : decode cX9_refuse 34 = .ok (.iconst 0, 1) := dk_3 (dw rcX9_refuse_0 16 rfl)
theorem dX9_refuse_35 : decode cX9_refuse 35 = .ok (.ireturn, 1) := dk_172 (dw rcX9_refuse_0 17 rfl)
set_option maxHeartbeats 4000000 in
set_option maxRecDepth 100000 in
theorem k_tLetter (l : Launch) (D : va_G) (k : KT) (A : Nat → Prop) (a : Nat → Nat) (z : SK) (G : GS) (p0 : Int32) (hq : 0 ≤ p0.toInt) : Met l yX9_isLetter (WS yX9_isLetter cX9_isLetter 2 (some .boolean)) ({ frames := 0, cells := 0, slots := 0, locals := 0 }) (va_Pc [.ref (a 3), .int p0] (cW D k A a z G)) (va_Qi (fun (r : Int32) (G1 : GS) => P_tLetter p0 G r G1) (fun (G1 : GS) t => Wd D k A a G1 t.heap) A) 0 0 A := by
  refine Met.ofW (cc := cX9_isLetter) (maxL := 2) (ret := (some .boolean)) (by decide) rfl ?_
  intro p e s m args below meth c s₁ B hml hv
  obtain ⟨rfl, hW, hB_G, hK, hZ⟩ := hv
  have hx := B.exec
  have hb := B.bytes
  have hr := B.returns
  have hts := atoms_spec (ws := WS yX9_isLetter cX9_isLetter 2 (some .boolean)) B.pre
  have hgd : ∀ w ∈ gd, w ∈ WS yX9_isLetter cX9_isLetter 2 (some .boolean) := fun w h => List.mem_cons_of_mem _ h
  have hg : ∀ w ∈ gd, w.before _ s = true := fun w h => hts w (hgd w h)
  have hown : s.vm.findClass RX9 = some m.cls := findClass_of_methodNamed B.named
  have hS : va_S A s.heap s.heap [] := va_S.rf
  have hF : Fr [] [] G G := Fr.rf
  have hl := lv_entry ([.ref (a 3), .int p0]) (n := 2) (Nat.le_of_ble_eq_true rfl)
  rw [lg_entry_eq]
  generalize (lg_sl ([.ref (a 3), .int p0]) ++ List.replicate (2 - (lg_sl ([.ref (a 3), .int p0])).length) Slot.unset).toArray = ls at hl ⊢
  have hl : lv_has ls 2 [(0, .ref (a 3)), (1, .int p0)] := hl
  refine lv_iload_n hx hb dX9_isLetter_0 rfl (lv_at hl 1 rfl) ?_
  refine lv_aload_n hx hb dX9_isLetter_1 rfl (lv_at hl 0 rfl) ?_
  have b_1 : 0 ≤ (G.1 3 1).toInt ∧ (G.1 3 1).toInt ≤ 1600 := bd_3_1 hB_G
  refine S_getI (v := (G.1 3 1)) (C := RX9) (T := TX9) (N := 9) hx hb hg iX9 hown hK hW kd_3 rfl 1 (lt_b rfl) (hg (Cond.fieldLink RX9 25 "SlabWalk$Tokens" "size" "I") m259) (fun _ h9 => h9) rfl rfl dX9_isLetter_2 ?_
  refine lv_icmp_ge (tgt := 34) hx hb dX9_isLetter_5 rfl (fun c_2 => ?_) (fun c_2 => ?_)
  · have c_2 : (G.1 3 1).toInt ≤ p0.toInt := xI_le rfl rfl c_2
    refine ic_0 hx hb dX9_isLetter_34 ?_
    exact W.zret (v := 0) hx hb hr (by decide) (fun t ht _ => ⟨⟨0, G, rfl, (P_tLetter_mk ⟨hB_G, hF, ⟨by decide, by decide⟩, (Or.inl ⟨c_2, ⟨rfl, rfl⟩⟩)⟩), wd_t ht hW⟩, hS.F ht⟩) hS.2.2 dX9_isLetter_35
  · have c_2 : p0.toInt < (G.1 3 1).toInt := xI_nle rfl rfl c_2
    refine lv_aload_n hx hb dX9_isLetter_8 rfl (lv_at hl 0 rfl) ?_
    refine S_getR (n := 32) (C := RX9) (T := TX9) (N := 9) hx hb hg iX9 hown hK hW kd_3 rfl 0 (lt_b rfl) (hg (Cond.fieldLink RX9 15 "SlabWalk$Tokens" "text" "[B") m258) (fun _ h9 => h9) rfl dX9_isLetter_9 ?_
    refine lv_iload_n hx hb dX9_isLetter_12 rfl (lv_at hl 1 rfl) ?_
    refine S_bald hx hb hK hW kd_32 (vin ((by first | exact hq | omega)) ((by first | exact ok_66 b_1.2 c_2 | omega))) dX9_isLetter_13 (fun y_3 ey_3 => ?_)
    have ty_3 : (-128) ≤ y_3.toInt ∧ y_3.toInt ≤ 127 := bv_32 hB_G ey_3
    refine lv_bipush (v := 97) hx hb dX9_isLetter_14 (by decide) ?_
    refine lv_icmp_lt (tgt := 34) hx hb dX9_isLetter_16 rfl (fun c_4 => ?_) (fun c_4 => ?_)
    · have c_4 : y_3.toInt < 97 := xI_lt rfl rfl c_4
      refine ic_0 hx hb dX9_isLetter_34 ?_
      exact W.zret (v := 0) hx hb hr (by decide) (fun t ht _ => ⟨⟨0, G, rfl, (P_tLetter_mk ⟨hB_G, hF, ⟨by decide, by decide⟩, (Or.inr ⟨c_2, ⟨y_3, ey_3, (Or.inl ⟨c_4, ⟨rfl, rfl⟩⟩)⟩⟩)⟩), wd_t ht hW⟩, hS.F ht⟩) hS.2.2 dX9_isLetter_35
    · have c_4 : 97 ≤ y_3.toInt := xI_nlt rfl rfl c_4
      refine lv_aload_n hx hb dX9_isLetter_19 rfl (lv_at hl 0 rfl) ?_
      refine S_getR (n := 32) (C := RX9) (T := TX9) (N := 9) hx hb hg iX9 hown hK hW kd_3 rfl 0 (lt_b rfl) (hg (Cond.fieldLink RX9 15 "SlabWalk$Tokens" "text" "[B") m258) (fun _ h9 => h9) rfl dX9_isLetter_20 ?_
      refine lv_iload_n hx hb dX9_isLetter_23 rfl (lv_at hl 1 rfl) ?_
      refine S_bald hx hb hK hW kd_32 (vin ((by first | exact hq | omega)) ((by first | exact ok_66 b_1.2 c_2 | omega))) dX9_isLetter_24 (fun y_5 ey_5 => ?_)
      have ty_5 : (-128) ≤ y_5.toInt ∧ y_5.toInt ≤ 127 := bv_32 hB_G ey_5
      refine lv_bipush (v := 122) hx hb dX9_isLetter_25 (by decide) ?_
      refine lv_icmp_gt (tgt := 34) hx hb dX9_isLetter_27 rfl (fun c_6 => ?_) (fun c_6 => ?_)
      · have c_6 : 122 < y_5.toInt := xI_lt rfl rfl c_6
        refine ic_0 hx hb dX9_isLetter_34 ?_
        exact W.zret (v := 0) hx hb hr (by decide) (fun t ht _ => ⟨⟨0, G, rfl, (P_tLetter_mk ⟨hB_G, hF, ⟨by decide, by decide⟩, (Or.inr ⟨c_2, ⟨y_3, ey_3, (Or.inr ⟨c_4, ⟨y_5, ey_5, (Or.inl ⟨c_6, ⟨rfl, rfl⟩⟩)⟩⟩)⟩⟩)⟩), wd_t ht hW⟩, hS.F ht⟩) hS.2.2 dX9_isLetter_35
      · have c_6 : y_5.toInt ≤ 122 := xI_nlt rfl rfl c_6
        refine ic_1 hx hb dX9_isLetter_30 ?_
        refine lv_goto (tgt := 35) hx hb dX9_isLetter_31 rfl ?_
        exact W.zret (v := 1) hx hb hr (by decide) (fun t ht _ => ⟨⟨1, G, rfl, (P_tLetter_mk ⟨hB_G, hF, ⟨by decide, by decide⟩, (Or.inr ⟨c_2, ⟨y_3, ey_3, (Or.inr ⟨c_4, ⟨y_5, ey_5, (Or.inr ⟨c_6, ⟨rfl, rfl⟩⟩)⟩⟩)⟩⟩)⟩), wd_t ht hW⟩, hS.F ht⟩) hS.2.2 dX9_isLetter_35

set_option maxHeartbeats 4000000 in
set_option maxRecDepth 100000 in
theorem k_tDigit (l : Launch) (D : va_G) (k : KT) (A : Nat → Prop) (a : Nat → Nat) (z : SK) (G : GS) (p0 : Int32) (hq : 0 ≤ p0.toInt) : Met l yX9_isDigit (WS yX9_isDigit cX9_isDigit 2 (some .boolean)) ({ frames := 0, cells := 0, slots := 0, locals := 0 }) (va_Pc [.ref (a 3), .int p0] (cW D k A a z G)) (va_Qi (fun (r : Int32) (G1 : GS) => P_tDigit p0 G r G1) (fun (G1 : GS) t => Wd D k A a G1 t.heap) A) 0 0 A := by
  refine Met.ofW (cc := cX9_isDigit) (maxL := 2) (ret := (some .boolean)) (by decide) rfl ?_
  intro p e s m args below meth c s₁ B hml hv
  obtain ⟨rfl, hW, hB_G, hK, hZ⟩ := hv
  have hx := B.exec
  have hb := B.bytes
  have hr := B.returns
  have hts := atoms_spec (ws := WS yX9_isDigit cX9_isDigit 2 (some .boolean)) B.pre
  have hgd : ∀ w ∈ gd, w ∈ WS yX9_isDigit cX9_isDigit 2 (some .boolean) := fun w h => List.mem_cons_of_mem _ h
  have hg : ∀ w ∈ gd, w.before _ s = true := fun w h => hts w (hgd w h)
  have hown : s.vm.findClass RX9 = some m.cls := findClass_of_methodNamed B.named
  have hS : va_S A s.heap s.heap [] := va_S.rf
  have hF : Fr [] [] G G := Fr.rf
  have hl := lv_entry ([.ref (a 3), .int p0]) (n := 2) (Nat.le_of_ble_eq_true rfl)
  rw [lg_entry_eq]
  generalize (lg_sl ([.ref (a 3), .int p0]) ++ List.replicate (2 - (lg_sl ([.ref (a 3), .int p0])).length) Slot.unset).toArray = ls at hl ⊢
  have hl : lv_has ls 2 [(0, .ref (a 3)), (1, .int p0)] := hl
  refine lv_iload_n hx hb dX9_isDigit_0 rfl (lv_at hl 1 rfl) ?_
  refine lv_aload_n hx hb dX9_isDigit_1 rfl (lv_at hl 0 rfl) ?_
  have b_1 : 0 ≤ (G.1 3 1).toInt ∧ (G.1 3 1).toInt ≤ 1600 := bd_3_1 hB_G
  refine S_getI (v := (G.1 3 1)) (C := RX9) (T := TX9) (N := 9) hx hb hg iX9 hown hK hW kd_3 rfl 1 (lt_b rfl) (hg (Cond.fieldLink RX9 25 "SlabWalk$Tokens" "size" "I") m259) (fun _ h9 => h9) rfl rfl dX9_isDigit_2 ?_
  refine lv_icmp_ge (tgt := 34) hx hb dX9_isDigit_5 rfl (fun c_2 => ?_) (fun c_2 => ?_)
  · have c_2 : (G.1 3 1).toInt ≤ p0.toInt := xI_le rfl rfl c_2
    refine ic_0 hx hb dX9_isDigit_34 ?_
    exact W.zret (v := 0) hx hb hr (by decide) (fun t ht _ => ⟨⟨0, G, rfl, (P_tDigit_mk ⟨hB_G, hF, ⟨by decide, by decide⟩, (Or.inl ⟨c_2, ⟨rfl, rfl⟩⟩)⟩), wd_t ht hW⟩, hS.F ht⟩) hS.2.2 dX9_isDigit_35
  · have c_2 : p0.toInt < (G.1 3 1).toInt := xI_nle rfl rfl c_2
    refine lv_aload_n hx hb dX9_isDigit_8 rfl (lv_at hl 0 rfl) ?_
    refine S_getR (n := 32) (C := RX9) (T := TX9) (N := 9) hx hb hg iX9 hown hK hW kd_3 rfl 0 (lt_b rfl) (hg (Cond.fieldLink RX9 15 "SlabWalk$Tokens" "text" "[B") m258) (fun _ h9 => h9) rfl dX9_isDigit_9 ?_
    refine lv_iload_n hx hb dX9_isDigit_12 rfl (lv_at hl 1 rfl) ?_
    refine S_bald hx hb hK hW kd_32 (vin ((by first | exact hq | omega)) ((by first | exact ok_66 b_1.2 c_2 | omega))) dX9_isDigit_13 (fun y_3 ey_3 => ?_)
    have ty_3 : (-128) ≤ y_3.toInt ∧ y_3.toInt ≤ 127 := bv_32 hB_G ey_3
    refine lv_bipush (v := 48) hx hb dX9_isDigit_14 (by decide) ?_
    refine lv_icmp_lt (tgt := 34) hx hb dX9_isDigit_16 rfl (fun c_4 => ?_) (fun c_4 => ?_)
    · have c_4 : y_3.toInt < 48 := xI_lt rfl rfl c_4
      refine ic_0 hx hb dX9_isDigit_34 ?_
      exact W.zret (v := 0) hx hb hr (by decide) (fun t ht _ => ⟨⟨0, G, rfl, (P_tDigit_mk ⟨hB_G, hF, ⟨by decide, by decide⟩, (Or.inr ⟨c_2, ⟨y_3, ey_3, (Or.inl ⟨c_4, ⟨rfl, rfl⟩⟩)⟩⟩)⟩), wd_t ht hW⟩, hS.F ht⟩) hS.2.2 dX9_isDigit_35
    · have c_4 : 48 ≤ y_3.toInt := xI_nlt rfl rfl c_4
      refine lv_aload_n hx hb dX9_isDigit_19 rfl (lv_at hl 0 rfl) ?_
      refine S_getR (n := 32) (C := RX9) (T := TX9) (N := 9) hx hb hg iX9 hown hK hW kd_3 rfl 0 (lt_b rfl) (hg (Cond.fieldLink RX9 15 "SlabWalk$Tokens" "text" "[B") m258) (fun _ h9 => h9) rfl dX9_isDigit_20 ?_
      refine lv_iload_n hx hb dX9_isDigit_23 rfl (lv_at hl 1 rfl) ?_
      refine S_bald hx hb hK hW kd_32 (vin ((by first | exact hq | omega)) ((by first | exact ok_66 b_1.2 c_2 | omega))) dX9_isDigit_24 (fun y_5 ey_5 => ?_)
      have ty_5 : (-128) ≤ y_5.toInt ∧ y_5.toInt ≤ 127 := bv_32 hB_G ey_5
      refine lv_bipush (v := 57) hx hb dX9_isDigit_25 (by decide) ?_
      refine lv_icmp_gt (tgt := 34) hx hb dX9_isDigit_27 rfl (fun c_6 => ?_) (fun c_6 => ?_)
      · have c_6 : 57 < y_5.toInt := xI_lt rfl rfl c_6
        refine ic_0 hx hb dX9_isDigit_34 ?_
        exact W.zret (v := 0) hx hb hr (by decide) (fun t ht _ => ⟨⟨0, G, rfl, (P_tDigit_mk ⟨hB_G, hF, ⟨by decide, by decide⟩, (Or.inr ⟨c_2, ⟨y_3, ey_3, (Or.inr ⟨c_4, ⟨y_5, ey_5, (Or.inl ⟨c_6, ⟨rfl, rfl⟩⟩)⟩⟩)⟩⟩)⟩), wd_t ht hW⟩, hS.F ht⟩) hS.2.2 dX9_isDigit_35
      · have c_6 : y_5.toInt ≤ 57 := xI_nlt rfl rfl c_6
        refine ic_1 hx hb dX9_isDigit_30 ?_
        refine lv_goto (tgt := 35) hx hb dX9_isDigit_31 rfl ?_
        exact W.zret (v := 1) hx hb hr (by decide) (fun t ht _ => ⟨⟨1, G, rfl, (P_tDigit_mk ⟨hB_G, hF, ⟨by decide, by decide⟩, (Or.inr ⟨c_2, ⟨y_3, ey_3, (Or.inr ⟨c_4, ⟨y_5, ey_5, (Or.inr ⟨c_6, ⟨rfl, rfl⟩⟩)⟩⟩)⟩⟩)⟩), wd_t ht hW⟩, hS.F ht⟩) hS.2.2 dX9_isDigit_35

set_option maxHeartbeats 4000000 in
set_option maxRecDepth 100000 in
theorem k_tRefuse (l : Launch) (D : va_G) (k : KT) (A : Nat → Prop) (a : Nat → Nat) (z : SK) (G : GS) (p0 : Int32) (ha_p0 : 0 ≤ p0.toInt ∧ p0.toInt ≤ 4) : Met l yX9_refuse (WS yX9_refuse cX9_refuse 2 (some .boolean)) ({ frames := 0, cells := 0, slots := 0, locals := 0 }) (va_Pc [.ref (a 3), .int p0] (cW D k A a z G)) (va_Qi (fun (r : Int32) (G1 : GS) => P_tRefuse p0 G r G1) (fun (G1 : GS) t => Wd D k A a G1 t.heap) A) 0 0 A := by
  refine Met.ofW (cc := cX9_refuse) (maxL := 2) (ret := (some .boolean)) (by decide) rfl ?_
  intro p e s m args below meth c s₁ B hml hv
  obtain ⟨rfl, hW, hB_G, hK, hZ⟩ := hv
  have hx := B.exec
  have hb := B.bytes
  have hr := B.returns
  have hts := atoms_spec (ws := WS yX9_refuse cX9_refuse 2 (some .boolean)) B.pre
  have hgd : ∀ w ∈ gd, w ∈ WS yX9_refuse cX9_refuse 2 (some .boolean) := fun w h => List.mem_cons_of_mem _ h
  have hg : ∀ w ∈ gd, w.before _ s = true := fun w h => hts w (hgd w h)
  have hown : s.vm.findClass RX9 = some m.cls := findClass_of_methodNamed B.named
  have hS : va_S A s.heap s.heap [] := va_S.rf
  have hF : Fr [] [(3, 7), (3, 8)] G G := Fr.rf
  have hl := lv_entry ([.ref (a 3), .int p0]) (n := 2) (Nat.le_of_ble_eq_true rfl)
  rw [lg_entry_eq]
  generalize (lg_sl ([.ref (a 3), .int p0]) ++ List.replicate (2 - (lg_sl ([.ref (a 3), .int p0])).length) Slot.unset).toArray = ls at hl ⊢
  have hl : lv_has ls 2 [(0, .ref (a 3)), (1, .int p0)] := hl
  refine lv_aload_n hx hb dX9_refuse_0 rfl (lv_at hl 0 rfl) ?_
  have b_1 : 0 ≤ (G.1 3 7).toInt ∧ (G.1 3 7).toInt ≤ 4 := bd_3_7 hB_G
  refine S_getI (v := (G.1 3 7)) (C := RX9) (T := TX9) (N := 9) hx hb hg iX9 hown hK hW kd_3 rfl 7 (lt_b rfl) (hg (Cond.fieldLink RX9 31 "SlabWalk$Tokens" "fault" "I") m270) (fun _ h9 => h9) rfl rfl dX9_refuse_1 ?_
  refine lv_if_ne (tgt := 34) hx hb dX9_refuse_4 rfl (fun c_2 => ?_) (fun c_2 => ?_)
  · have c_2 : (G.1 3 7).toInt ≠ 0 := xI_ne rfl rfl c_2
    refine ic_0 hx hb dX9_refuse_34 ?_
    exact W.zret (v := 0) hx hb hr (by decide) (fun t ht _ => ⟨⟨0, G, rfl, (P_tRefuse_mk ⟨hB_G, hF, ⟨by decide, by decide⟩, (Or.inr ⟨c_2, ⟨rfl, rfl⟩⟩)⟩), wd_t ht hW⟩, hS.F ht⟩) hS.2.2 dX9_refuse_35
  · have c_2 : (G.1 3 7).toInt = 0 := xI_eq rfl rfl c_2
    refine lv_aload_n hx hb dX9_refuse_7 rfl (lv_at hl 0 rfl) ?_
    refine lv_aload_n hx hb dX9_refuse_8 rfl (lv_at hl 0 rfl) ?_
    refine S_getI (v := (G.1 3 3)) (C := RX9) (T := TX9) (N := 9) hx hb hg iX9 hown hK hW kd_3 rfl 3 (lt_b rfl) (hg (Cond.fieldLink RX9 38 "SlabWalk$Tokens" "kind" "I") m262) (fun _ h9 => h9) rfl rfl dX9_refuse_9 ?_
    refine lv_sipush (v := 202) hx hb dX9_refuse_12 (by decide) ?_
    refine lv_icmp_ne (tgt := 22) hx hb dX9_refuse_15 rfl (fun c_3 => ?_) (fun c_3 => ?_)
    · have c_3 : (G.1 3 3).toInt ≠ 202 := xI_ne rfl rfl c_3
      refine lv_iload_n hx hb dX9_refuse_22 rfl (lv_at hl 1 rfl) ?_
      refine S_putI (ty := .int) (C := RX9) (T := TX9) (N := 9) hx hb hg iX9 tyX9 tyX9_ok nmX9 hown hK hW hS kd_3 rfl 7 (lt_b rfl) (hg (Cond.fieldLink RX9 31 "SlabWalk$Tokens" "fault" "I") m270) (fun _ h9 => h9) rfl (by decide +kernel) rfl rfl rfl dX9_refuse_23 (fun G_4 H locs eG_4 hW hS => ?_)
      have hB_G_4 : Bd G_4 := hB_G.put (V := p0.toInt) (lo := 0) (hi := 4) eG_4 rfl rfl rfl ((by first | exact ha_p0.1 | omega)) ((by first | exact ha_p0.2 | omega)) (hB_G.2.put eG_4 rfl)
      have hF := hF.put eG_4 (Or.inr (by decide))
      refine lv_aload_n hx hb dX9_refuse_26 rfl (lv_at hl 0 rfl) ?_
      refine lv_aload_n hx hb dX9_refuse_27 rfl (lv_at hl 0 rfl) ?_
      have b_5 : 0 ≤ (G.1 3 4).toInt ∧ (G.1 3 4).toInt ≤ 1600 := bd_3_4 hB_G
      refine S_getI (v := (G.1 3 4)) (C := RX9) (T := TX9) (N := 9) hx hb hg iX9 hown hK hW kd_3 rfl 4 (lt_b rfl) (hg (Cond.fieldLink RX9 41 "SlabWalk$Tokens" "place" "I") m264) (fun _ h9 => h9) rfl (gp_ne eG_4 (by decide)) dX9_refuse_28 ?_
      refine S_putI (ty := .int) (C := RX9) (T := TX9) (N := 9) hx hb hg iX9 tyX9 tyX9_ok nmX9 hown hK hW hS kd_3 rfl 8 (lt_b rfl) (hg (Cond.fieldLink RX9 9 "SlabWalk$Tokens" "faultPlace" "I") m272) (fun _ h9 => h9) rfl (by decide +kernel) rfl rfl rfl dX9_refuse_31 (fun G_6 H locs eG_6 hW hS => ?_)
      have hB_G_6 : Bd G_6 := hB_G_4.put (V := (G.1 3 4).toInt) (lo := (-1)) (hi := 1600) eG_6 rfl rfl rfl ((by first | exact ok_67 b_5.1 | omega)) ((by first | exact b_5.2 | omega)) (hB_G_4.2.put eG_6 rfl)
      have hF := hF.put eG_6 (Or.inr (by decide))
      refine ic_0 hx hb dX9_refuse_34 ?_
      exact W.zret (v := 0) hx hb hr (by decide) (fun t ht _ => ⟨⟨0, G_6, rfl, (P_tRefuse_mk ⟨hB_G_6, hF, ⟨by decide, by decide⟩, (Or.inl ⟨c_2, (Or.inr ⟨c_3, ⟨rfl, (Fr.put (rs := []) (fs := [(3, 7), (3, 8)]) (Fr.put (rs := []) (fs := [(3, 7), (3, 8)]) Fr.rf eG_4 (Or.inr (by decide))) eG_6 (Or.inr (by decide))), ((gp_ne eG_6 (by decide)).trans (gp_eq eG_4)), (gp_eq eG_6)⟩⟩)⟩)⟩), wd_t ht hW⟩, hS.F ht⟩) hS.2.2 dX9_refuse_35
    · have c_3 : (G.1 3 3).toInt = 202 := xI_eq rfl rfl c_3
      refine ic_1 hx hb dX9_refuse_18 ?_
      refine lv_goto (tgt := 23) hx hb dX9_refuse_19 rfl ?_
      refine S_putI (ty := .int) (C := RX9) (T := TX9) (N := 9) hx hb hg iX9 tyX9 tyX9_ok nmX9 hown hK hW hS kd_3 rfl 7 (lt_b rfl) (hg (Cond.fieldLink RX9 31 "SlabWalk$Tokens" "fault" "I") m270) (fun _ h9 => h9) rfl (by decide +kernel) rfl rfl rfl dX9_refuse_23 (fun G_7 H locs eG_7 hW hS => ?_)
      have hB_G_7 : Bd G_7 := hB_G.put (V := 1) (lo := 0) (hi := 4) eG_7 rfl rfl rfl (by decide) (by decide) (hB_G.2.put eG_7 rfl)
      have hF := hF.put eG_7 (Or.inr (by decide))
      refine lv_aload_n hx hb dX9_refuse_26 rfl (lv_at hl 0 rfl) ?_
      refine lv_aload_n hx hb dX9_refuse_27 rfl (lv_at hl 0 rfl) ?_
      have b_8 : 0 ≤ (G.1 3 4).toInt ∧ (G.1 3 4).toInt ≤ 1600 := bd_3_4 hB_G
      refine S_getI (v := (G.1 3 4)) (C := RX9) (T := TX9) (N := 9) hx hb hg iX9 hown hK hW kd_3 rfl 4 (lt_b rfl) (hg (Cond.fieldLink RX9 41 "SlabWalk$Tokens" "place" "I") m264) (fun _ h9 => h9) rfl (gp_ne eG_7 (by decide)) dX9_refuse_28 ?_
      refine S_putI (ty := .int) (C := RX9) (T := TX9) (N := 9) hx hb hg iX9 tyX9 tyX9_ok nmX9 hown hK hW hS kd_3 rfl 8 (lt_b rfl) (hg (Cond.fieldLink RX9 9 "SlabWalk$Tokens" "faultPlace" "I") m272) (fun _ h9 => h9) rfl (by decide +kernel) rfl rfl rfl dX9_refuse_31 (fun G_9 H locs eG_9 hW hS => ?_)
      have hB_G_9 : Bd G_9 := hB_G_7.put (V := (G.1 3 4).toInt) (lo := (-1)) (hi := 1600) eG_9 rfl rfl rfl ((by first | exact ok_67 b_8.1 | omega)) ((by first | exact b_8.2 | omega)) (hB_G_7.2.put eG_9 rfl)
      have hF := hF.put eG_9 (Or.inr (by decide))
      refine ic_0 hx hb dX9_refuse_34 ?_
      exact W.zret (v := 0) hx hb hr (by decide) (fun t ht _ => ⟨⟨0, G_9, rfl, (P_tRefuse_mk ⟨hB_G_9, hF, ⟨by decide, by decide⟩, (Or.inl ⟨c_2, (Or.inl ⟨c_3, ⟨rfl, (Fr.put (rs := []) (fs := [(3, 7), (3, 8)]) (Fr.put (rs := []) (fs := [(3, 7), (3, 8)]) Fr.rf eG_7 (Or.inr (by decide))) eG_9 (Or.inr (by decide))), ((gp_ne eG_9 (by decide)).trans (gp_eq eG_7)), (gp_eq eG_9)⟩⟩)⟩)⟩), wd_t ht hW⟩, hS.F ht⟩) hS.2.2 dX9_refuse_35

theorem m133 : Cond.initialized RJ0 ∈ gd := gdc_1_1 1 rfl gw_initialized
theorem m134 : Cond.initialized RJ1 ∈ gd := gdc_1_1 2 rfl gw_initialized
theorem m135 : Cond.initialized RJ3 ∈ gd := gdc_1_1 3 rfl gw_initialized
theorem m656 : Cond.instanceMethod yJ0_length_8abf5 ∈ gd := gdc_3_3 12 rfl gw_instanceMethod
theorem m657 : Cond.selects "java/lang/String" yJ0_length_8abf5 yJ0_length_8abf5 ∈ gd := gdc_3_3 13 rfl gw_selects
theorem m658 : Cond.code yJ0_length_8abf5 cJ0_length_8abf5 1 (some .int) ∈ gd := gdc_3_3 14 rfl gw_code
theorem m659 : Cond.methodLink "java/lang/String" 335 yJ0_coder_7d493 ∈ gd := gdc_3_3 15 rfl gw_methodLink
theorem m660 : Cond.instanceMethod yJ0_coder_7d493 ∈ gd := gdc_3_4 0 rfl gw_instanceMethod
theorem m661 : Cond.selects "java/lang/String" yJ0_coder_7d493 yJ0_coder_7d493 ∈ gd := gdc_3_4 1 rfl gw_selects
theorem m662 : Cond.code yJ0_coder_7d493 cJ0_coder_7d493 1 (some .byte) ∈ gd := gdc_3_4 2 rfl gw_code
theorem m663 : Cond.fieldLink "java/lang/String" 38 "java/lang/String" "COMPACT_STRINGS" "Z" ∈ gd := gdc_3_4 3 rfl gw_fieldLink
theorem m669 : Cond.methodLink "java/lang/String" 492 yJ0_isLatin1_aae02 ∈ gd := gdc_3_4 9 rfl gw_methodLink
theorem m670 : Cond.instanceMethod yJ0_isLatin1_aae02 ∈ gd := gdc_3_4 10 rfl gw_instanceMethod
theorem m671 : Cond.selects "java/lang/String" yJ0_isLatin1_aae02 yJ0_isLatin1_aae02 ∈ gd := gdc_3_4 11 rfl gw_selects
theorem m672 : Cond.code yJ0_isLatin1_aae02 cJ0_isLatin1_aae02 1 (some .boolean) ∈ gd := gdc_3_4 12 rfl gw_code
theorem m673 : Cond.methodLink "java/lang/String" 495 yJ1_charAt_3b067 ∈ gd := gdc_3_4 13 rfl gw_methodLink
theorem m674 : Cond.static yJ1_charAt_3b067 ∈ gd := gdc_3_4 14 rfl gw_static
theorem m675 : Cond.code yJ1_charAt_3b067 cJ1_charAt_3b067 2 (some .char) ∈ gd := gdc_3_4 15 rfl gw_code
theorem m676 : Cond.methodLink "java/lang/StringLatin1" 9 yJ0_checkIndex_df160 ∈ gd := gdc_3_5 0 rfl gw_methodLink
theorem m677 : Cond.static yJ0_checkIndex_df160 ∈ gd := gdc_3_5 1 rfl gw_static
theorem m678 : Cond.code yJ0_checkIndex_df160 cJ0_checkIndex_df160 2 none ∈ gd := gdc_3_5 2 rfl gw_code
theorem m679 : Cond.fieldLink "java/lang/String" 1053 "jdk/internal/util/Preconditions" "SIOOBE_FORMATTER" "Ljava/util/function/BiFunction;" ∈ gd := gdc_3_5 3 rfl gw_fieldLink
theorem m681 : Cond.methodLink "java/lang/String" 1059 yJ3_checkIndex_8e157 ∈ gd := gdc_3_5 5 rfl gw_methodLink
theorem m682 : Cond.static yJ3_checkIndex_8e157 ∈ gd := gdc_3_5 6 rfl gw_static
theorem m683 : Cond.code yJ3_checkIndex_8e157 cJ3_checkIndex_8e157 3 (some .int) ∈ gd := gdc_3_5 7 rfl gw_code
theorem m716 : Cond.methodLink "java/lang/String" 633 yJ0_indexOf_7cf53 ∈ gd := gdc_3_7 8 rfl gw_methodLink
theorem m717 : Cond.instanceMethod yJ0_indexOf_7cf53 ∈ gd := gdc_3_7 9 rfl gw_instanceMethod
theorem m718 : Cond.selects "java/lang/String" yJ0_indexOf_7cf53 yJ0_indexOf_7cf53 ∈ gd := gdc_3_7 10 rfl gw_selects
theorem m719 : Cond.code yJ0_indexOf_7cf53 cJ0_indexOf_7cf53 3 (some .int) ∈ gd := gdc_3_7 11 rfl gw_code
theorem m720 : Cond.methodLink "java/lang/String" 505 yJ0_length_8abf5 ∈ gd := gdc_3_7 12 rfl gw_methodLink
theorem m721 : Cond.methodLink "java/lang/String" 637 yJ1_indexOf_4cfef ∈ gd := gdc_3_7 13 rfl gw_methodLink
theorem m722 : Cond.static yJ1_indexOf_4cfef ∈ gd := gdc_3_7 14 rfl gw_static
theorem m723 : Cond.code yJ1_indexOf_4cfef cJ1_indexOf_4cfef 4 (some .int) ∈ gd := gdc_3_7 15 rfl gw_code
theorem m724 : Cond.methodLink "java/lang/StringLatin1" 88 yJ1_canEncode_9a6ad ∈ gd := gdc_3_8 0 rfl gw_methodLink
theorem m725 : Cond.static yJ1_canEncode_9a6ad ∈ gd := gdc_3_8 1 rfl gw_static
theorem m726 : Cond.code yJ1_canEncode_9a6ad cJ1_canEncode_9a6ad 1 (some .boolean) ∈ gd := gdc_3_8 2 rfl gw_code
theorem m727 : Cond.methodLink "java/lang/StringLatin1" 92 Lib.Math.max.name ∈ gd := gdc_3_8 3 rfl gw_methodLink
theorem m728 : Cond.static Lib.Math.max.name ∈ gd := gdc_3_8 4 rfl gw_static
theorem m729 : Cond.code Lib.Math.max.name Lib.Math.max.code 2 (some .int) ∈ gd := gdc_3_8 5 rfl gw_code
theorem m730 : Cond.methodLink "java/lang/StringLatin1" 38 Lib.Math.min.name ∈ gd := gdc_3_8 6 rfl gw_methodLink
theorem m731 : Cond.methodLink "java/lang/StringLatin1" 95 yJ1_indexOfChar_4cfef ∈ gd := gdc_3_8 7 rfl gw_methodLink
theorem m732 : Cond.static yJ1_indexOfChar_4cfef ∈ gd := gdc_3_8 8 rfl gw_static
theorem m733 : Cond.code yJ1_indexOfChar_4cfef cJ1_indexOfChar_4cfef 6 (some .int) ∈ gd := gdc_3_8 9 rfl gw_code
theorem m2081 : Cond.fieldLink "java/lang/String" 9 "java/lang/String" "value" "[B" ∈ gd := gdc_9_2 13 rfl gw_fieldLink
theorem m2082 : Cond.fieldLink "java/lang/String" 15 "java/lang/String" "coder" "B" ∈ gd := gdc_9_2 14 rfl gw_fieldLink
noncomputable def rbJ0_charAt_5068e_0 : List (Nat × List Nat) := [(0, [42]), (1, [182, 1, 236]), (4, [153, 0, 12]), (7, [42]), (8, [180, 0, 9]), (11, [27]), (12, [184, 1, 239]), (15, [172])]
theorem rcJ0_charAt_5068e_0 : dgo (lb cJ0_charAt_5068e) 0 rbJ0_charAt_5068e_0 = true := by decide +kernel
theorem dJ0_charAt_5068e_0 : decode cJ0_charAt_5068e 0 = .ok (.aload_n 0, 1) := dk_42 (dw rcJ0_charAt_5068e_0 0 rfl)
theorem dJ0_charAt_5068e_1 : decode cJ0_charAt_5068e 1 = .ok (.invokevirtual 492, 3) := dk_182 (dw rcJ0_charAt_5068e_0 1 rfl) rfl
theorem dJ0_charAt_5068e_4 : decode cJ0_charAt_5068e 4 = .ok (.ifCond .eq 12, 3) := dk_153 (dw rcJ0_charAt_5068e_0 2 rfl) rfl
theorem dJ0_charAt_5068e_7 : decode cJ0_charAt_5068e 7 = .ok (.aload_n 0, 1) := dk_42 (dw rcJ0_charAt_5068e_0 3 rfl)
theorem dJ0_charAt_5068e_8 : decode cJ0_charAt_5068e 8 = .ok (.getfield 9, 3) := dk_180 (dw rcJ0_charAt_5068e_0 4 rfl) rfl
theorem dJ0_charAt_5068e_11 : decode cJ0_charAt_5068e 11 = .ok (.iload_n 1, 1) := dk_27 (dw rcJ0_charAt_5068e_0 5 rfl)
theorem dJ0_charAt_5068e_12 : decode cJ0_charAt_5068e 12 = .ok (.invokestatic 495, 3) := dk_184 (dw rcJ0_charAt_5068e_0 6 rfl) rfl
theorem dJ0_charAt_5068e_15 : decode cJ0_charAt_5068e 15 = .ok (.ireturn, 1) := dk_172 (dw rcJ0_charAt_5068e_0 7 rfl)
noncomputable def rbJ0_checkIndex_df160_0 : List (Nat × List Nat) := [(0, [26]), (1, [27]), (2, [178, 4, 29]), (5, [184, 4, 35]), (8, [87]), (9, [177])]
theorem rcJ0_checkIndex_df160_0 : dgo (lb cJ0_checkIndex_df160) 0 rbJ0_checkIndex_df160_0 = true := by decide +kernel
theorem dJ0_checkIndex_df160_0 : decode cJ0_checkIndex_df160 0 = .ok (.iload_n 0, 1) := dk_26 (dw rcJ0_checkIndex_df160_0 0 rfl)
theorem dJ0_checkIndex_df160_1 : decode cJ0_checkIndex_df160 1 = .ok (.iload_n 1, 1) := dk_27 (dw rcJ0_checkIndex_df160_0 1 rfl)
theorem dJ0_checkIndex_df160_2 : decode cJ0_checkIndex_df160 2 = .ok (.getstatic 1053, 3) := dk_178 (dw rcJ0_checkIndex_df160_0 2 rfl) rfl
theorem dJ0_checkIndex_df160_5 : decode cJ0_checkIndex_df160 5 = .ok (.invokestatic 1059, 3) := dk_184 (dw rcJ0_checkIndex_df160_0 3 rfl) rfl
theorem dJ0_checkIndex_df160_8 : decode cJ0_checkIndex_df160 8 = .ok (.pop, 1) := dk_87 (dw rcJ0_checkIndex_df160_0 4 rfl)
theorem dJ0_checkIndex_df160_9 : decode cJ0_checkIndex_df160 9 = .ok (.return_, 1) := dk_177 (dw rcJ0_checkIndex_df160_0 5 rfl)
noncomputable def rbJ0_coder_7d493_0 : List (Nat × List Nat) := [(0, [178, 0, 38]), (3, [153, 0, 10]), (6, [42]), (7, [180, 0, 15]), (10, [167, 0, 4]), (14, [172])]
theorem rcJ0_coder_7d493_0 : dgo (lb cJ0_coder_7d493) 0 rbJ0_coder_7d493_0 = true := by decide +kernel
theorem dJ0_coder_7d493_0 : decode cJ0_coder_7d493 0 = .ok (.getstatic 38, 3) := dk_178 (dw rcJ0_coder_7d493_0 0 rfl) rfl
theorem dJ0_coder_7d493_3 : decode cJ0_coder_7d493 3 = .ok (.ifCond .eq 10, 3) := dk_153 (dw rcJ0_coder_7d493_0 1 rfl) rfl
theorem dJ0_coder_7d493_6 : decode cJ0_coder_7d493 6 = .ok (.aload_n 0, 1) := dk_42 (dw rcJ0_coder_7d493_0 2 rfl)
theorem dJ0_coder_7d493_7 : decode cJ0_coder_7d493 7 = .ok (.getfield 15, 3) := dk_180 (dw rcJ0_coder_7d493_0 3 rfl) rfl
theorem dJ0_coder_7d493_10 : decode cJ0_coder_7d493 10 = .ok (.goto 4, 3) := dk_167 (dw rcJ0_coder_7d493_0 4 rfl) rfl
theorem dJ0_coder_7d493_14 : decode cJ0_coder_7d493 14 = .ok (.ireturn, 1) := dk_172 (dw rcJ0_coder_7d493_0 5 rfl)
noncomputable def rbJ0_indexOf_0f7a4_0 : List (Nat × List Nat) := [(0, [42]), (1, [27]), (2, [3]), (3, [182, 2, 121]), (6, [172])]
theorem rcJ0_indexOf_0f7a4_0 : dgo (lb cJ0_indexOf_0f7a4) 0 rbJ0_indexOf_0f7a4_0 = true := by decide +kernel
theorem dJ0_indexOf_0f7a4_0 : decode cJ0_indexOf_0f7a4 0 = .ok (.aload_n 0, 1) := dk_42 (dw rcJ0_indexOf_0f7a4_0 0 rfl)
theorem dJ0_indexOf_0f7a4_1 : decode cJ0_indexOf_0f7a4 1 = .ok (.iload_n 1, 1) := dk_27 (dw rcJ0_indexOf_0f7a4_0 1 rfl)
theorem dJ0_indexOf_0f7a4_2 : decode cJ0_indexOf_0f7a4 2 = .ok (.iconst 0, 1) := dk_3 (dw rcJ0_indexOf_0f7a4_0 2 rfl)
theorem dJ0_indexOf_0f7a4_3 : decode cJ0_indexOf_0f7a4 3 = .ok (.invokevirtual 633, 3) := dk_182 (dw rcJ0_indexOf_0f7a4_0 3 rfl) rfl
theorem dJ0_indexOf_0f7a4_6 : decode cJ0_indexOf_0f7a4 6 = .ok (.ireturn, 1) := dk_172 (dw rcJ0_indexOf_0f7a4_0 4 rfl)
noncomputable def rbJ0_indexOf_7cf53_0 : List (Nat × List Nat) := [(0, [42]), (1, [182, 1, 236]), (4, [153, 0, 19]), (7, [42]), (8, [180, 0, 9]), (11, [27]), (12, [28]), (13, [42]), (14, [182, 1, 249]), (17, [184, 2, 125]), (20, [167, 0, 16]), (36, [172])]
theorem rcJ0_indexOf_7cf53_0 : dgo (lb cJ0_indexOf_7cf53) 0 rbJ0_indexOf_7cf53_0 = true := by decide +kernel
theorem dJ0_indexOf_7cf53_0 : decode cJ0_indexOf_7cf53 0 = .ok (.aload_n 0, 1) := dk_42 (dw rcJ0_indexOf_7cf53_0 0 rfl)
theorem dJ0_indexOf_7cf53_1 : decode cJ0_indexOf_7cf53 1 = .ok (.invokevirtual 492, 3) := dk_182 (dw rcJ0_indexOf_7cf53_0 1 rfl) rfl
theorem dJ0_indexOf_7cf53_4 : decode cJ0_indexOf_7cf53 4 = .ok (.ifCond .eq 19, 3) := dk_153 (dw rcJ0_indexOf_7cf53_0 2 rfl) rfl
theorem dJ0_indexOf_7cf53_7 : decode cJ0_indexOf_7cf53 7 = .ok (.aload_n 0, 1) := dk_42 (dw rcJ0_indexOf_7cf53_0 3 rfl)
theorem dJ0_indexOf_7cf53_8 : decode cJ0_indexOf_7cf53 8 = .ok (.getfield 9, 3) := dk_180 (dw rcJ0_indexOf_7cf53_0 4 rfl) rfl
theorem dJ0_indexOf_7cf53_11 : decode cJ0_indexOf_7cf53 11 = .ok (.iload_n 1, 1) := dk_27 (dw rcJ0_indexOf_7cf53_0 5 rfl)
theorem dJ0_indexOf_7cf53_12 : decode cJ0_indexOf_7cf53 12 = .ok (.iload_n 2, 1) := dk_28 (dw rcJ0_indexOf_7cf53_0 6 rfl)
theorem dJ0_indexOf_7cf53_13 : decode cJ0_indexOf_7cf53 13 = .ok (.aload_n 0, 1) := dk_42 (dw rcJ0_indexOf_7cf53_0 7 rfl)
theorem dJ0_indexOf_7cf53_14 : decode cJ0_indexOf_7cf53 14 = .ok (.invokevirtual 505, 3) := dk_182 (dw rcJ0_indexOf_7cf53_0 8 rfl) rfl
theorem dJ0_indexOf_7cf53_17 : decode cJ0_indexOf_7cf53 17 = .ok (.invokestatic 637, 3) := dk_184 (dw rcJ0_indexOf_7cf53_0 9 rfl) rfl
theorem dJ0_indexOf_7cf53_20 : decode cJ0_indexOf_7cf53 20 = .ok (.goto 16, 3) := dk_167 (dw rcJ0_indexOf_7cf53_0 10 rfl) rfl
theorem dJ0_indexOf_7cf53_36 : decode cJ0_indexOf_7cf53 36 = .ok (.ireturn, 1) := dk_172 (dw rcJ0_indexOf_7cf53_0 11 rfl)
noncomputable def rbJ0_isLatin1_aae02_0 : List (Nat × List Nat) := [(0, [178, 0, 38]), (3, [153, 0, 14]), (6, [42]), (7, [180, 0, 15]), (10, [154, 0, 7]), (13, [4]), (14, [167, 0, 4]), (18, [172])]
theorem rcJ0_isLatin1_aae02_0 : dgo (lb cJ0_isLatin1_aae02) 0 rbJ0_isLatin1_aae02_0 = true := by decide +kernel
theorem dJ0_isLatin1_aae02_0 : decode cJ0_isLatin1_aae02 0 = .ok (.getstatic 38, 3) := dk_178 (dw rcJ0_isLatin1_aae02_0 0 rfl) rfl
theorem dJ0_isLatin1_aae02_3 : decode cJ0_isLatin1_aae02 3 = .ok (.ifCond .eq 14, 3) := dk_153 (dw rcJ0_isLatin1_aae02_0 1 rfl) rfl
theorem dJ0_isLatin1_aae02_6 : decode cJ0_isLatin1_aae02 6 = .ok (.aload_n 0, 1) := dk_42 (dw rcJ0_isLatin1_aae02_0 2 rfl)
theorem dJ0_isLatin1_aae02_7 : decode cJ0_isLatin1_aae02 7 = .ok (.getfield 15, 3) := dk_180 (dw rcJ0_isLatin1_aae02_0 3 rfl) rfl
theorem dJ0_isLatin1_aae02_10 : decode cJ0_isLatin1_aae02 10 = .ok (.ifCond .ne 7, 3) := dk_154 (dw rcJ0_isLatin1_aae02_0 4 rfl) rfl
theorem dJ0_isLatin1_aae02_13 : decode cJ0_isLatin1_aae02 13 = .ok (.iconst 1, 1) := dk_4 (dw rcJ0_isLatin1_aae02_0 5 rfl)
theorem dJ0_isLatin1_aae02_14 : decode cJ0_isLatin1_aae02 14 = .ok (.goto 4, 3) := dk_167 (dw rcJ0_isLatin1_aae02_0 6 rfl) rfl
theorem dJ0_isLatin1_aae02_18 : decode cJ0_isLatin1_aae02 18 = .ok (.ireturn, 1) := dk_172 (dw rcJ0_isLatin1_aae02_0 7 rfl)
noncomputable def rbJ0_length_8abf5_0 : List (Nat × List Nat) := [(0, [42]), (1, [180, 0, 9]), (4, [190]), (5, [42]), (6, [182, 1, 79]), (9, [122]), (10, [172])]
theorem rcJ0_length_8abf5_0 : dgo (lb cJ0_length_8abf5) 0 rbJ0_length_8abf5_0 = true := by decide +kernel
theorem dJ0_length_8abf5_0 : decode cJ0_length_8abf5 0 = .ok (.aload_n 0, 1) := dk_42 (dw rcJ0_length_8abf5_0 0 rfl)
theorem dJ0_length_8abf5_1 : decode cJ0_length_8abf5 1 = .ok (.getfield 9, 3) := dk_180 (dw rcJ0_length_8abf5_0 1 rfl) rfl
theorem dJ0_length_8abf5_4 : decode cJ0_length_8abf5 4 = .ok (.arraylength, 1) := dk_190 (dw rcJ0_length_8abf5_0 2 rfl)
theorem dJ0_length_8abf5_5 : decode cJ0_length_8abf5 5 = .ok (.aload_n 0, 1) := dk_42 (dw rcJ0_length_8abf5_0 3 rfl)
theorem dJ0_length_8abf5_6 : decode cJ0_length_8abf5 6 = .ok (.invokevirtual 335, 3) := dk_182 (dw rcJ0_length_8abf5_0 4 rfl) rfl
theorem dJ0_length_8abf5_9 : decode cJ0_length_8abf5 9 = .ok (.ishr, 1) := dk_122 (dw rcJ0_length_8abf5_0 5 rfl)
theorem dJ0_length_8abf5_10 : decode cJ0_length_8abf5 10 = .ok (.ireturn, 1) := dk_172 (dw rcJ0_length_8abf5_0 6 rfl)
noncomputable def rbJ1_canEncode_9a6ad_0 : List (Nat × List Nat) := [(0, [26]), (1, [155, 0, 14]), (4, [26]), (5, [17, 0, 255]), (8, [163, 0, 7]), (11, [4]), (12, [167, 0, 4]), (15, [3]), (16, [172])]
theorem rcJ1_canEncode_9a6ad_0 : dgo (lb cJ1_canEncode_9a6ad) 0 rbJ1_canEncode_9a6ad_0 = true := by decide +kernel
theorem dJ1_canEncode_9a6ad_0 : decode cJ1_canEncode_9a6ad 0 = .ok (.iload_n 0, 1) := dk_26 (dw rcJ1_canEncode_9a6ad_0 0 rfl)
theorem dJ1_canEncode_9a6ad_1 : decode cJ1_canEncode_9a6ad 1 = .ok (.ifCond .lt 14, 3) := dk_155 (dw rcJ1_canEncode_9a6ad_0 1 rfl) rfl
theorem dJ1_canEncode_9a6ad_4 : decode cJ1_canEncode_9a6ad 4 = .ok (.iload_n 0, 1) := dk_26 (dw rcJ1_canEncode_9a6ad_0 2 rfl)
theorem dJ1_canEncode_9a6ad_5 : decode cJ1_canEncode_9a6ad 5 = .ok (.sipush 255, 3) := dk_17 (dw rcJ1_canEncode_9a6ad_0 3 rfl) rfl
theorem dJ1_canEncode_9a6ad_8 : decode cJ1_canEncode_9a6ad 8 = .ok (.if_icmp .gt 7, 3) := dk_163 (dw rcJ1_canEncode_9a6ad_0 4 rfl) rfl
theorem dJ1_canEncode_9a6ad_11 : decode cJ1_canEncode_9a6ad 11 = .ok (.iconst 1, 1) := dk_4 (dw rcJ1_canEncode_9a6ad_0 5 rfl)
theorem dJ1_canEncode_9a6ad_12 : decode cJ1_canEncode_9a6ad 12 = .ok (.goto 4, 3) := dk_167 (dw rcJ1_canEncode_9a6ad_0 6 rfl) rfl
theorem dJ1_canEncode_9a6ad_15 : decode cJ1_canEncode_9a6ad 15 = .ok (.iconst 0, 1) := dk_3 (dw rcJ1_canEncode_9a6ad_0 7 rfl)
theorem dJ1_canEncode_9a6ad_16 : decode cJ1_canEncode_9a6ad 16 = .ok (.ireturn, 1) := dk_172 (dw rcJ1_canEncode_9a6ad_0 8 rfl)
noncomputable def rbJ1_charAt_3b067_0 : List (Nat × List Nat) := [(0, [27]), (1, [42]), (2, [190]), (3, [184, 0, 9]), (6, [42]), (7, [27]), (8, [51]), (9, [17, 0, 255]), (12, [126]), (13, [146]), (14, [172])]
theorem rcJ1_charAt_3b067_0 : dgo (lb cJ1_charAt_3b067) 0 rbJ1_charAt_3b067_0 = true := by decide +kernel
theorem dJ1_charAt_3b067_0 : decode cJ1_charAt_3b067 0 = .ok (.iload_n 1, 1) := dk_27 (dw rcJ1_charAt_3b067_0 0 rfl)
theorem dJ1_charAt_3b067_1 : decode cJ1_charAt_3b067 1 = .ok (.aload_n 0, 1) := dk_42 (dw rcJ1_charAt_3b067_0 1 rfl)
theorem dJ1_charAt_3b067_2 : decode cJ1_charAt_3b067 2 = .ok (.arraylength, 1) := dk_190 (dw rcJ1_charAt_3b067_0 2 rfl)
theorem dJ1_charAt_3b067_3 : decode cJ1_charAt_3b067 3 = .ok (.invokestatic 9, 3) := dk_184 (dw rcJ1_charAt_3b067_0 3 rfl) rfl
theorem dJ1_charAt_3b067_6 : decode cJ1_charAt_3b067 6 = .ok (.aload_n 0, 1) := dk_42 (dw rcJ1_charAt_3b067_0 4 rfl)
theorem dJ1_charAt_3b067_7 : decode cJ1_charAt_3b067 7 = .ok (.iload_n 1, 1) := dk_27 (dw rcJ1_charAt_3b067_0 5 rfl)
theorem dJ1_charAt_3b067_8 : decode cJ1_charAt_3b067 8 = .ok (.baload, 1) := dk_51 (dw rcJ1_charAt_3b067_0 6 rfl)
theorem dJ1_charAt_3b067_9 : decode cJ1_charAt_3b067 9 = .ok (.sipush 255, 3) := dk_17 (dw rcJ1_charAt_3b067_0 7 rfl) rfl
theorem dJ1_charAt_3b067_12 : decode cJ1_charAt_3b067 12 = .ok (.iand, 1) := dk_126 (dw rcJ1_charAt_3b067_0 8 rfl)
theorem dJ1_charAt_3b067_13 : decode cJ1_charAt_3b067 13 = .ok (.i2c, 1) := dk_146 (dw rcJ1_charAt_3b067_0 9 rfl)
theorem dJ1_charAt_3b067_14 : decode cJ1_charAt_3b067 14 = .ok (.ireturn, 1) := dk_172 (dw rcJ1_charAt_3b067_0 10 rfl)
noncomputable def rbJ1_indexOfChar_4cfef_0 : List (Nat × List Nat) := [(0, [27]), (1, [145]), (2, [54, 4]), (4, [28]), (5, [54, 5]), (7, [21, 5]), (9, [29]), (10, [162, 0, 21]), (13, [42]), (14, [21, 5]), (16, [51]), (17, [21, 4]), (19, [160, 0, 6]), (22, [21, 5]), (24, [172]), (25, [132, 5, 1]), (28, [167, 255, 235]), (31, [2]), (32, [172])]
theorem rcJ1_indexOfChar_4cfef_0 : dgo (lb cJ1_indexOfChar_4cfef) 0 rbJ1_indexOfChar_4cfef_0 = true := by decide +kernel
theorem dJ1_indexOfChar_4cfef_0 : decode cJ1_indexOfChar_4cfef 0 = .ok (.iload_n 1, 1) := dk_27 (dw rcJ1_indexOfChar_4cfef_0 0 rfl)
theorem dJ1_indexOfChar_4cfef_1 : decode cJ1_indexOfChar_4cfef 1 = .ok (.i2b, 1) := dk_145 (dw rcJ1_indexOfChar_4cfef_0 1 rfl)
theorem dJ1_indexOfChar_4cfef_2 : decode cJ1_indexOfChar_4cfef 2 = .ok (.istore 4, 2) := dk_54 (dw rcJ1_indexOfChar_4cfef_0 2 rfl)
theorem dJ1_indexOfChar_4cfef_4 : decode cJ1_indexOfChar_4cfef 4 = .ok (.iload_n 2, 1) := dk_28 (dw rcJ1_indexOfChar_4cfef_0 3 rfl)
theorem dJ1_indexOfChar_4cfef_5 : decode cJ1_indexOfChar_4cfef 5 = .ok (.istore 5, 2) := dk_54 (dw rcJ1_indexOfChar_4cfef_0 4 rfl)
theorem dJ1_indexOfChar_4cfef_7 : decode cJ1_indexOfChar_4cfef 7 = .ok (.iload 5, 2) := dk_21 (dw rcJ1_indexOfChar_4cfef_0 5 rfl)
theorem dJ1_indexOfChar_4cfef_9 : decode cJ1_indexOfChar_4cfef 9 = .ok (.iload_n 3, 1) := dk_29 (dw rcJ1_indexOfChar_4cfef_0 6 rfl)
theorem dJ1_indexOfChar_4cfef_10 : decode cJ1_indexOfChar_4cfef 10 = .ok (.if_icmp .ge 21, 3) := dk_162 (dw rcJ1_indexOfChar_4cfef_0 7 rfl) rfl
theorem dJ1_indexOfChar_4cfef_13 : decode cJ1_indexOfChar_4cfef 13 = .ok (.aload_n 0, 1) := dk_42 (dw rcJ1_indexOfChar_4cfef_0 8 rfl)
theorem dJ1_indexOfChar_4cfef_14 : decode cJ1_indexOfChar_4cfef 14 = .ok (.iload 5, 2) := dk_21 (dw rcJ1_indexOfChar_4cfef_0 9 rfl)
theorem dJ1_indexOfChar_4cfef_16 : decode cJ1_indexOfChar_4cfef 16 = .ok (.baload, 1) := dk_51 (dw rcJ1_indexOfChar_4cfef_0 10 rfl)
theorem dJ1_indexOfChar_4cfef_17 : decode cJ1_indexOfChar_4cfef 17 = .ok (.iload 4, 2) := dk_21 (dw rcJ1_indexOfChar_4cfef_0 11 rfl)
theorem dJ1_indexOfChar_4cfef_19 : decode cJ1_indexOfChar_4cfef 19 = .ok (.if_icmp .ne 6, 3) := dk_160 (dw rcJ1_indexOfChar_4cfef_0 12 rfl) rfl
theorem dJ1_indexOfChar_4cfef_22 : decode cJ1_indexOfChar_4cfef 22 = .ok (.iload 5, 2) := dk_21 (dw rcJ1_indexOfChar_4cfef_0 13 rfl)
theorem dJ1_indexOfChar_4cfef_24 : decode cJ1_indexOfChar_4cfef 24 = .ok (.ireturn, 1) := dk_172 (dw rcJ1_indexOfChar_4cfef_0 14 rfl)
theorem dJ1_indexOfChar_4cfef_25 : decode cJ1_indexOfChar_4cfef 25 = .ok (.iinc 5 1, 3) := dk_132 (dw rcJ1_indexOfChar_4cfef_0 15 rfl) rfl
theorem dJ1_indexOfChar_4cfef_28 : decode cJ1_indexOfChar_4cfef 28 = .ok (.goto (-21), 3) := dk_167 (dw rcJ1_indexOfChar_4cfef_0 16 rfl) rfl
theorem dJ1_indexOfChar_4cfef_31 : decode cJ1_indexOfChar_4cfef 31 = .ok (.iconst (-1), 1) := dk_2 (dw rcJ1_indexOfChar_4cfef_0 17 rfl)
theorem dJ1_indexOfChar_4cfef_32 : decode cJ1_indexOfChar_4cfef 32 = .ok (.ireturn, 1) := dk_172 (dw rcJ1_indexOfChar_4cfef_0 18 rfl)
noncomputable def rbJ1_indexOf_4cfef_0 : List (Nat × List Nat) := [(0, [27]), (1, [184, 0, 88]), (4, [154, 0, 5]), (7, [2]), (8, [172]), (9, [28]), (10, [3]), (11, [184, 0, 92]), (14, [61]), (15, [29]), (16, [42]), (17, [190]), (18, [184, 0, 38]), (21, [62]), (22, [28]), (23, [29]), (24, [161, 0, 5]), (29, [42]), (30, [27]), (31, [28]), (32, [29]), (33, [184, 0, 95]), (36, [172])]
theorem rcJ1_indexOf_4cfef_0 : dgo (lb cJ1_indexOf_4cfef) 0 rbJ1_indexOf_4cfef_0 = true := by decide +kernel
theorem dJ1_indexOf_4cfef_0 : decode cJ1_indexOf_4cfef 0 = .ok (.iload_n 1, 1) := dk_27 (dw rcJ1_indexOf_4cfef_0 0 rfl)
theorem dJ1_indexOf_4cfef_1 : decode cJ1_indexOf_4cfef 1 = .ok (.invokestatic 88, 3) := dk_184 (dw rcJ1_indexOf_4cfef_0 1 rfl) rfl
theorem dJ1_indexOf_4cfef_4 : decode cJ1_indexOf_4cfef 4 = .ok (.ifCond .ne 5, 3) := dk_154 (dw rcJ1_indexOf_4cfef_0 2 rfl) rfl
theorem dJ1_indexOf_4cfef_7 : decode cJ1_indexOf_4cfef 7 = .ok (.iconst (-1), 1) := dk_2 (dw rcJ1_indexOf_4cfef_0 3 rfl)
theorem dJ1_indexOf_4cfef_8 : decode cJ1_indexOf_4cfef 8 = .ok (.ireturn, 1) := dk_172 (dw rcJ1_indexOf_4cfef_0 4 rfl)
theorem dJ1_indexOf_4cfef_9 : decode cJ1_indexOf_4cfef 9 = .ok (.iload_n 2, 1) := dk_28 (dw rcJ1_indexOf_4cfef_0 5 rfl)
theorem dJ1_indexOf_4cfef_10 : decode cJ1_indexOf_4cfef 10 = .ok (.iconst 0, 1) := dk_3 (dw rcJ1_indexOf_4cfef_0 6 rfl)
theorem dJ1_indexOf_4cfef_11 : decode cJ1_indexOf_4cfef 11 = .ok (.invokestatic 92, 3) := dk_184 (dw rcJ1_indexOf_4cfef_0 7 rfl) rfl
theorem dJ1_indexOf_4cfef_14 : decode cJ1_indexOf_4cfef 14 = .ok (.istore_n 2, 1) := dk_61 (dw rcJ1_indexOf_4cfef_0 8 rfl)
theorem dJ1_indexOf_4cfef_15 : decode cJ1_indexOf_4cfef 15 = .ok (.iload_n 3, 1) := dk_29 (dw rcJ1_indexOf_4cfef_0 9 rfl)
theorem dJ1_indexOf_4cfef_16 : decode cJ1_indexOf_4cfef 16 = .ok (.aload_n 0, 1) := dk_42 (dw rcJ1_indexOf_4cfef_0 10 rfl)
theorem dJ1_indexOf_4cfef_17 : decode cJ1_indexOf_4cfef 17 = .ok (.arraylength, 1) := dk_190 (dw rcJ1_indexOf_4cfef_0 11 rfl)
theorem dJ1_indexOf_4cfef_18 : decode cJ1_indexOf_4cfef 18 = .ok (.invokestatic 38, 3) := dk_184 (dw rcJ1_indexOf_4cfef_0 12 rfl) rfl
theorem dJ1_indexOf_4cfef_21 : decode cJ1_indexOf_4cfef 21 = .ok (.istore_n 3, 1) := dk_62 (dw rcJ1_indexOf_4cfef_0 13 rfl)
theorem dJ1_indexOf_4cfef_22 : decode cJ1_indexOf_4cfef 22 = .ok (.iload_n 2, 1) := dk_28 (dw rcJ1_indexOf_4cfef_0 14 rfl)
theorem dJ1_indexOf_4cfef_23 : decode cJ1_indexOf_4cfef 23 = .ok (.iload_n 3, 1) := dk_29 (dw rcJ1_indexOf_4cfef_0 15 rfl)
theorem dJ1_indexOf_4cfef_24 : decode cJ1_indexOf_4cfef 24 = .ok (.if_icmp .lt 5, 3) := dk_161 (dw rcJ1_indexOf_4cfef_0 16 rfl) rfl
theorem dJ1_indexOf_4cfef_29 : decode cJ1_indexOf_4cfef 29 = .ok (.aload_n 0, 1) := dk_42 (dw rcJ1_indexOf_4cfef_0 17 rfl)
theorem dJ1_indexOf_4cfef_30 : decode cJ1_indexOf_4cfef 30 = .ok (.iload_n 1, 1) := dk_27 (dw rcJ1_indexOf_4cfef_0 18 rfl)
theorem dJ1_indexOf_4cfef_31 : decode cJ1_indexOf_4cfef 31 = .ok (.iload_n 2, 1) := dk_28 (dw rcJ1_indexOf_4cfef_0 19 rfl)
theorem dJ1_indexOf_4cfef_32 : decode cJ1_indexOf_4cfef 32 = .ok (.iload_n 3, 1) := dk_29 (dw rcJ1_indexOf_4cfef_0 20 rfl)
theorem dJ1_indexOf_4cfef_33 : decode cJ1_indexOf_4cfef 33 = .ok (.invokestatic 95, 3) := dk_184 (dw rcJ1_indexOf_4cfef_0 21 rfl) rfl
theorem dJ1_indexOf_4cfef_36 : decode cJ1_indexOf_4cfef 36 = .ok (.ireturn, 1) := dk_172 (dw rcJ1_indexOf_4cfef_0 22 rfl)
noncomputable def rbJ3_checkIndex_8e157_0 : List (Nat × List Nat) := [(0, [26]), (1, [155, 0, 8]), (4, [26]), (5, [27]), (6, [161, 0, 10]), (16, [26]), (17, [172])]
theorem rcJ3_checkIndex_8e157_0 : dgo (lb cJ3_checkIndex_8e157) 0 rbJ3_checkIndex_8e157_0 = true := by decide +kernel
theorem dJ3_checkIndex_8e157_0 : decode cJ3_checkIndex_8e157 0 = .ok (.iload_n 0, 1) := dk_26 (dw rcJ3_checkIndex_8e157_0 0 rfl)
theorem dJ3_checkIndex_8e157_1 : decode cJ3_checkIndex_8e157 1 = .ok (.ifCond .lt 8, 3) := dk_155 (dw rcJ3_checkIndex_8e157_0 1 rfl) rfl
theorem dJ3_checkIndex_8e157_4 : decode cJ3_checkIndex_8e157 4 = .ok (.iload_n 0, 1) := dk_26 (dw rcJ3_checkIndex_8e157_0 2 rfl)
theorem dJ3_checkIndex_8e157_5 : decode cJ3_checkIndex_8e157 5 = .ok (.iload_n 1, 1) := dk_27 (dw rcJ3_checkIndex_8e157_0 3 rfl)
theorem dJ3_checkIndex_8e157_6 : decode cJ3_checkIndex_8e157 6 = .ok (.if_icmp .lt 10, 3) := dk_161 (dw rcJ3_checkIndex_8e157_0 4 rfl) rfl
theorem dJ3_checkIndex_8e157_16 : decode cJ3_checkIndex_8e157 16 = .ok (.iload_n 0, 1) := dk_26 (dw rcJ3_checkIndex_8e157_0 5 rfl)
theorem dJ3_checkIndex_8e157_17 : decode cJ3_checkIndex_8e157 17 = .ok (.ireturn, 1) := dk_172 (dw rcJ3_checkIndex_8e157_0 6 rfl)
set_option maxHeartbeats 4000000 in
set_option maxRecDepth 100000 in
theorem k_jPreN (l : Launch) (D : va_G) (k : KT) (A : Nat → Prop) (a : Nat → Nat) (z : SK) (G : GS) (p0 : Int32) (p1 : Int32) (hq : 0 ≤ p0.toInt ∧ p0.toInt < p1.toInt) : Met l yJ3_checkIndex_8e157 (WS yJ3_checkIndex_8e157 cJ3_checkIndex_8e157 3 (some .int)) ({ frames := 0, cells := 0, slots := 0, locals := 0 }) (va_Pc [.int p0, .int p1, .null] (cW D k A a z G)) (va_Qi (fun (r : Int32) (G1 : GS) => P_jPreN p0 p1 G r G1) (fun (G1 : GS) t => Wd D k A a G1 t.heap) A) 0 0 A := by
  refine Met.ofW (cc := cJ3_checkIndex_8e157) (maxL := 3) (ret := (some .int)) (by decide) rfl ?_
  intro p e s m args below meth c s₁ B hml hv
  obtain ⟨rfl, hW, hB_G, hK, hZ⟩ := hv
  have hx := B.exec
  have hb := B.bytes
  have hr := B.returns
  have hts := atoms_spec (ws := WS yJ3_checkIndex_8e157 cJ3_checkIndex_8e157 3 (some .int)) B.pre
  have hgd : ∀ w ∈ gd, w ∈ WS yJ3_checkIndex_8e157 cJ3_checkIndex_8e157 3 (some .int) := fun w h => List.mem_cons_of_mem _ h
  have hg : ∀ w ∈ gd, w.before _ s = true := fun w h => hts w (hgd w h)
  have hown : s.vm.findClass RJ3 = some m.cls := findClass_of_methodNamed B.named
  have hS : va_S A s.heap s.heap [] := va_S.rf
  have hF : Fr [] [] G G := Fr.rf
  have hl := lv_entry ([.int p0, .int p1, .null]) (n := 3) (Nat.le_of_ble_eq_true rfl)
  rw [lg_entry_eq]
  generalize (lg_sl ([.int p0, .int p1, .null]) ++ List.replicate (3 - (lg_sl ([.int p0, .int p1, .null])).length) Slot.unset).toArray = ls at hl ⊢
  have hl : lv_has ls 3 [(0, .int p0), (1, .int p1), (2, .null)] := hl
  refine lv_iload_n hx hb dJ3_checkIndex_8e157_0 rfl (lv_at hl 0 rfl) ?_
  refine lv_if_lt (tgt := 9) hx hb dJ3_checkIndex_8e157_1 rfl (fun c_1 => ?_) (fun c_1 => ?_)
  · have c_1 : p0.toInt < 0 := xI_lt rfl rfl c_1
    exfalso; omega
  · have c_1 : 0 ≤ p0.toInt := xI_nlt rfl rfl c_1
    refine lv_iload_n hx hb dJ3_checkIndex_8e157_4 rfl (lv_at hl 0 rfl) ?_
    refine lv_iload_n hx hb dJ3_checkIndex_8e157_5 rfl (lv_at hl 1 rfl) ?_
    refine lv_icmp_lt (tgt := 16) hx hb dJ3_checkIndex_8e157_6 rfl (fun c_2 => ?_) (fun c_2 => ?_)
    · have c_2 : p0.toInt < p1.toInt := xI_lt rfl rfl c_2
      refine lv_iload_n hx hb dJ3_checkIndex_8e157_16 rfl (lv_at hl 0 rfl) ?_
      exact W.iret (v := p0) hx hb hr (fun t ht _ => ⟨⟨p0, G, rfl, (P_jPreN_mk ⟨hB_G, hF, ⟨c_1, ⟨c_2, ⟨rfl, rfl⟩⟩⟩⟩), wd_t ht hW⟩, hS.F ht⟩) hS.2.2 dJ3_checkIndex_8e157_17
    · have c_2 : p1.toInt ≤ p0.toInt := xI_nlt rfl rfl c_2
      exfalso; omega

set_option maxHeartbeats 4000000 in
set_option maxRecDepth 100000 in
theorem k_jPreR (l : Launch) (D : va_G) (k : KT) (A : Nat → Prop) (a : Nat → Nat) (z : SK) (G : GS) (p0 : Int32) (p1 : Int32) (t0 : Nat) (hq : 0 ≤ p0.toInt ∧ p0.toInt < p1.toInt) : Met l yJ3_checkIndex_8e157 (WS yJ3_checkIndex_8e157 cJ3_checkIndex_8e157 3 (some .int)) ({ frames := 0, cells := 0, slots := 0, locals := 0 }) (va_Pc [.int p0, .int p1, .ref t0] (cW D k A a z G)) (va_Qi (fun (r : Int32) (G1 : GS) => P_jPreR p0 p1 G r G1) (fun (G1 : GS) t => Wd D k A a G1 t.heap) A) 0 0 A := by
  refine Met.ofW (cc := cJ3_checkIndex_8e157) (maxL := 3) (ret := (some .int)) (by decide) rfl ?_
  intro p e s m args below meth c s₁ B hml hv
  obtain ⟨rfl, hW, hB_G, hK, hZ⟩ := hv
  have hx := B.exec
  have hb := B.bytes
  have hr := B.returns
  have hts := atoms_spec (ws := WS yJ3_checkIndex_8e157 cJ3_checkIndex_8e157 3 (some .int)) B.pre
  have hgd : ∀ w ∈ gd, w ∈ WS yJ3_checkIndex_8e157 cJ3_checkIndex_8e157 3 (some .int) := fun w h => List.mem_cons_of_mem _ h
  have hg : ∀ w ∈ gd, w.before _ s = true := fun w h => hts w (hgd w h)
  have hown : s.vm.findClass RJ3 = some m.cls := findClass_of_methodNamed B.named
  have hS : va_S A s.heap s.heap [] := va_S.rf
  have hF : Fr [] [] G G := Fr.rf
  have hl := lv_entry ([.int p0, .int p1, .ref t0]) (n := 3) (Nat.le_of_ble_eq_true rfl)
  rw [lg_entry_eq]
  generalize (lg_sl ([.int p0, .int p1, .ref t0]) ++ List.replicate (3 - (lg_sl ([.int p0, .int p1, .ref t0])).length) Slot.unset).toArray = ls at hl ⊢
  have hl : lv_has ls 3 [(0, .int p0), (1, .int p1), (2, .ref t0)] := hl
  refine lv_iload_n hx hb dJ3_checkIndex_8e157_0 rfl (lv_at hl 0 rfl) ?_
  refine lv_if_lt (tgt := 9) hx hb dJ3_checkIndex_8e157_1 rfl (fun c_1 => ?_) (fun c_1 => ?_)
  · have c_1 : p0.toInt < 0 := xI_lt rfl rfl c_1
    exfalso; omega
  · have c_1 : 0 ≤ p0.toInt := xI_nlt rfl rfl c_1
    refine lv_iload_n hx hb dJ3_checkIndex_8e157_4 rfl (lv_at hl 0 rfl) ?_
    refine lv_iload_n hx hb dJ3_checkIndex_8e157_5 rfl (lv_at hl 1 rfl) ?_
    refine lv_icmp_lt (tgt := 16) hx hb dJ3_checkIndex_8e157_6 rfl (fun c_2 => ?_) (fun c_2 => ?_)
    · have c_2 : p0.toInt < p1.toInt := xI_lt rfl rfl c_2
      refine lv_iload_n hx hb dJ3_checkIndex_8e157_16 rfl (lv_at hl 0 rfl) ?_
      exact W.iret (v := p0) hx hb hr (fun t ht _ => ⟨⟨p0, G, rfl, (P_jPreR_mk ⟨hB_G, hF, ⟨c_1, ⟨c_2, ⟨rfl, rfl⟩⟩⟩⟩), wd_t ht hW⟩, hS.F ht⟩) hS.2.2 dJ3_checkIndex_8e157_17
    · have c_2 : p1.toInt ≤ p0.toInt := xI_nlt rfl rfl c_2
      exfalso; omega

set_option maxHeartbeats 4000000 in
set_option maxRecDepth 100000 in
theorem k_jCheck (l : Launch) (D : va_G) (k : KT) (A : Nat → Prop) (a : Nat → Nat) (z : SK) (G : GS) (p0 : Int32) (p1 : Int32) (hq : 0 ≤ p0.toInt ∧ p0.toInt < p1.toInt) : Met l yJ0_checkIndex_df160 (WS yJ0_checkIndex_df160 cJ0_checkIndex_df160 2 none) ({ frames := 1, cells := 0, slots := 0, locals := 22 }) (va_Pc [.int p0, .int p1] (cW D k A a z G)) (va_Qv (fun (G1 : GS) => Bd G1 ∧ Fr [] [] G G1) (fun (G1 : GS) t => Wd D k A a G1 t.heap) A) 0 0 A := by
  refine Met.ofW (cc := cJ0_checkIndex_df160) (maxL := 2) (ret := none) (by decide) rfl ?_
  intro p e s m args below meth c s₁ B hml hv
  obtain ⟨rfl, hW, hB_G, hK, hZ⟩ := hv
  have hx := B.exec
  have hb := B.bytes
  have hr := B.returns
  have hts := atoms_spec (ws := WS yJ0_checkIndex_df160 cJ0_checkIndex_df160 2 none) B.pre
  have hgd : ∀ w ∈ gd, w ∈ WS yJ0_checkIndex_df160 cJ0_checkIndex_df160 2 none := fun w h => List.mem_cons_of_mem _ h
  have hg : ∀ w ∈ gd, w.before _ s = true := fun w h => hts w (hgd w h)
  have hown : s.vm.findClass RJ0 = some m.cls := findClass_of_methodNamed B.named
  have hS : va_S A s.heap s.heap [] := va_S.rf
  have hF : Fr [] [] G G := Fr.rf
  have hl := lv_entry ([.int p0, .int p1]) (n := 2) (Nat.le_of_ble_eq_true rfl)
  rw [lg_entry_eq]
  generalize (lg_sl ([.int p0, .int p1]) ++ List.replicate (2 - (lg_sl ([.int p0, .int p1])).length) Slot.unset).toArray = ls at hl ⊢
  have hl : lv_has ls 2 [(0, .int p0), (1, .int p1)] := hl
  refine lv_iload_n hx hb dJ0_checkIndex_df160_0 rfl (lv_at hl 0 rfl) ?_
  refine lv_iload_n hx hb dJ0_checkIndex_df160_1 rfl (lv_at hl 1 rfl) ?_
  rcases hZ.2.2.2.2 with h_2 | ⟨t_1, h_2⟩
  · refine va_gets hx hb h_2 hS hown (hg (Cond.fieldLink "java/lang/String" 1053 "jdk/internal/util/Preconditions" "SIOOBE_FORMATTER" "Ljava/util/function/BiFunction;") m679) (fun _ h9 => h9) dJ0_checkIndex_df160_2 ?_
    refine S_calli (va_runS (As := [.int p0, .int p1, .null]) (rest := []) ⟨hx, hb, hml, hown, hts⟩ (k_jPreN l D k A a z G p0 p1 ((by first | exact ⟨(by first | exact hq.1 | omega), (by first | exact hq.2 | omega)⟩ | omega))) (va_cwS 3 hts (gd_S hgd m681 m682 m135 m683) rfl rfl rfl hd_J3_checkIndex_8e157.2 ⟨Nat.le_of_ble_eq_true rfl, Nat.le_of_ble_eq_true rfl⟩) (pre_S hW hB_G hK hZ hS) rfl rfl hl.1 rfl (lv_room (Nat.le_of_ble_eq_true rfl)) dJ0_checkIndex_df160_5 ⟨Nat.le_of_ble_eq_true rfl, Nat.le_of_ble_eq_true rfl⟩) hS (fun r_3 G_4 H locs hpo hW hS => ?_)
    obtain ⟨hB_G_4, hq_5, -⟩ := hpo
    have hF := hF.call9 hq_5 rfl rfl
    refine lv_pop hx hb dJ0_checkIndex_df160_8 rfl ?_
    exact W.vret hx hb hr (fun t ht _ => ⟨⟨G_4, rfl, ⟨hB_G_4, hF⟩, wd_t ht hW⟩, hS.F ht⟩) hS.2.2 dJ0_checkIndex_df160_9
  · refine va_gets hx hb h_2 hS hown (hg (Cond.fieldLink "java/lang/String" 1053 "jdk/internal/util/Preconditions" "SIOOBE_FORMATTER" "Ljava/util/function/BiFunction;") m679) (fun _ h9 => h9) dJ0_checkIndex_df160_2 ?_
    refine S_calli (va_runS (As := [.int p0, .int p1, .ref t_1]) (rest := []) ⟨hx, hb, hml, hown, hts⟩ (k_jPreR l D k A a z G p0 p1 t_1 ((by first | exact ⟨(by first | exact hq.1 | omega), (by first | exact hq.2 | omega)⟩ | omega))) (va_cwS 3 hts (gd_S hgd m681 m682 m135 m683) rfl rfl rfl hd_J3_checkIndex_8e157.2 ⟨Nat.le_of_ble_eq_true rfl, Nat.le_of_ble_eq_true rfl⟩) (pre_S hW hB_G hK hZ hS) rfl rfl hl.1 rfl (lv_room (Nat.le_of_ble_eq_true rfl)) dJ0_checkIndex_df160_5 ⟨Nat.le_of_ble_eq_true rfl, Nat.le_of_ble_eq_true rfl⟩) hS (fun r_7 G_8 H locs hpo hW hS => ?_)
    obtain ⟨hB_G_8, hq_9, -⟩ := hpo
    have hF := hF.call9 hq_9 rfl rfl
    refine lv_pop hx hb dJ0_checkIndex_df160_8 rfl ?_
    exact W.vret hx hb hr (fun t ht _ => ⟨⟨G_8, rfl, ⟨hB_G_8, hF⟩, wd_t ht hW⟩, hS.F ht⟩) hS.2.2 dJ0_checkIndex_df160_9

set_option maxHeartbeats 4000000 in
set_option maxRecDepth 100000 in
theorem k_jCan (l : Launch) (D : va_G) (k : KT) (A : Nat → Prop) (a : Nat → Nat) (z : SK) (G : GS) (p0 : Int32)  : Met l yJ1_canEncode_9a6ad (WS yJ1_canEncode_9a6ad cJ1_canEncode_9a6ad 1 (some .boolean)) ({ frames := 0, cells := 0, slots := 0, locals := 0 }) (va_Pc [.int p0] (cW D k A a z G)) (va_Qi (fun (r : Int32) (G1 : GS) => P_jCan p0 G r G1) (fun (G1 : GS) t => Wd D k A a G1 t.heap) A) 0 0 A := by
  refine Met.ofW (cc := cJ1_canEncode_9a6ad) (maxL := 1) (ret := (some .boolean)) (by decide) rfl ?_
  intro p e s m args below meth c s₁ B hml hv
  obtain ⟨rfl, hW, hB_G, hK, hZ⟩ := hv
  have hx := B.exec
  have hb := B.bytes
  have hr := B.returns
  have hts := atoms_spec (ws := WS yJ1_canEncode_9a6ad cJ1_canEncode_9a6ad 1 (some .boolean)) B.pre
  have hgd : ∀ w ∈ gd, w ∈ WS yJ1_canEncode_9a6ad cJ1_canEncode_9a6ad 1 (some .boolean) := fun w h => List.mem_cons_of_mem _ h
  have hg : ∀ w ∈ gd, w.before _ s = true := fun w h => hts w (hgd w h)
  have hown : s.vm.findClass RJ1 = some m.cls := findClass_of_methodNamed B.named
  have hS : va_S A s.heap s.heap [] := va_S.rf
  have hF : Fr [] [] G G := Fr.rf
  have hl := lv_entry ([.int p0]) (n := 1) (Nat.le_of_ble_eq_true rfl)
  rw [lg_entry_eq]
  generalize (lg_sl ([.int p0]) ++ List.replicate (1 - (lg_sl ([.int p0])).length) Slot.unset).toArray = ls at hl ⊢
  have hl : lv_has ls 1 [(0, .int p0)] := hl
  refine lv_iload_n hx hb dJ1_canEncode_9a6ad_0 rfl (lv_at hl 0 rfl) ?_
  refine lv_if_lt (tgt := 15) hx hb dJ1_canEncode_9a6ad_1 rfl (fun c_1 => ?_) (fun c_1 => ?_)
  · have c_1 : p0.toInt < 0 := xI_lt rfl rfl c_1
    refine ic_0 hx hb dJ1_canEncode_9a6ad_15 ?_
    exact W.zret (v := 0) hx hb hr (by decide) (fun t ht _ => ⟨⟨0, G, rfl, (P_jCan_mk ⟨hB_G, hF, ⟨by decide, by decide⟩, (Or.inl ⟨c_1, ⟨rfl, rfl⟩⟩)⟩), wd_t ht hW⟩, hS.F ht⟩) hS.2.2 dJ1_canEncode_9a6ad_16
  · have c_1 : 0 ≤ p0.toInt := xI_nlt rfl rfl c_1
    refine lv_iload_n hx hb dJ1_canEncode_9a6ad_4 rfl (lv_at hl 0 rfl) ?_
    refine lv_sipush (v := 255) hx hb dJ1_canEncode_9a6ad_5 (by decide) ?_
    refine lv_icmp_gt (tgt := 15) hx hb dJ1_canEncode_9a6ad_8 rfl (fun c_2 => ?_) (fun c_2 => ?_)
    · have c_2 : 255 < p0.toInt := xI_lt rfl rfl c_2
      refine ic_0 hx hb dJ1_canEncode_9a6ad_15 ?_
      exact W.zret (v := 0) hx hb hr (by decide) (fun t ht _ => ⟨⟨0, G, rfl, (P_jCan_mk ⟨hB_G, hF, ⟨by decide, by decide⟩, (Or.inr ⟨c_1, (Or.inl ⟨c_2, ⟨rfl, rfl⟩⟩)⟩)⟩), wd_t ht hW⟩, hS.F ht⟩) hS.2.2 dJ1_canEncode_9a6ad_16
    · have c_2 : p0.toInt ≤ 255 := xI_nlt rfl rfl c_2
      refine ic_1 hx hb dJ1_canEncode_9a6ad_11 ?_
      refine lv_goto (tgt := 16) hx hb dJ1_canEncode_9a6ad_12 rfl ?_
      exact W.zret (v := 1) hx hb hr (by decide) (fun t ht _ => ⟨⟨1, G, rfl, (P_jCan_mk ⟨hB_G, hF, ⟨by decide, by decide⟩, (Or.inr ⟨c_1, (Or.inr ⟨c_2, ⟨rfl, rfl⟩⟩)⟩)⟩), wd_t ht hW⟩, hS.F ht⟩) hS.2.2 dJ1_canEncode_9a6ad_16

set_option maxHeartbeats 4000000 in
set_option maxRecDepth 100000 in
theorem k_jLat_0 (l : Launch) (D : va_G) (k : KT) (A : Nat → Prop) (a : Nat → Nat) (z : SK) (G : GS)   : Met l yJ0_isLatin1_aae02 (WS yJ0_isLatin1_aae02 cJ0_isLatin1_aae02 1 (some .boolean)) ({ frames := 0, cells := 0, slots := 0, locals := 0 }) (va_Pc [.ref (z.1 0)] (cW D k A a z G)) (va_Qi (fun (r : Int32) (G1 : GS) => P_jLat_0 G r G1) (fun (G1 : GS) t => Wd D k A a G1 t.heap) A) 0 0 A := by
  refine Met.ofW (cc := cJ0_isLatin1_aae02) (maxL := 1) (ret := (some .boolean)) (by decide) rfl ?_
  intro p e s m args below meth c s₁ B hml hv
  obtain ⟨rfl, hW, hB_G, hK, hZ⟩ := hv
  have hx := B.exec
  have hb := B.bytes
  have hr := B.returns
  have hts := atoms_spec (ws := WS yJ0_isLatin1_aae02 cJ0_isLatin1_aae02 1 (some .boolean)) B.pre
  have hgd : ∀ w ∈ gd, w ∈ WS yJ0_isLatin1_aae02 cJ0_isLatin1_aae02 1 (some .boolean) := fun w h => List.mem_cons_of_mem _ h
  have hg : ∀ w ∈ gd, w.before _ s = true := fun w h => hts w (hgd w h)
  have hown : s.vm.findClass RJ0 = some m.cls := findClass_of_methodNamed B.named
  have hS : va_S A s.heap s.heap [] := va_S.rf
  have hF : Fr [] [] G G := Fr.rf
  have hl := lv_entry ([.ref (z.1 0)]) (n := 1) (Nat.le_of_ble_eq_true rfl)
  rw [lg_entry_eq]
  generalize (lg_sl ([.ref (z.1 0)]) ++ List.replicate (1 - (lg_sl ([.ref (z.1 0)])).length) Slot.unset).toArray = ls at hl ⊢
  have hl : lv_has ls 1 [(0, .ref (z.1 0))] := hl
  refine va_gets hx hb hZ.2.2.2.1 hS hown (hg (Cond.fieldLink "java/lang/String" 38 "java/lang/String" "COMPACT_STRINGS" "Z") m663) (fun _ h9 => h9) dJ0_isLatin1_aae02_0 ?_
  refine lv_if_eq (tgt := 17) hx hb dJ0_isLatin1_aae02_3 rfl (fun c_1 => ?_) (fun c_1 => ?_)
  · have c_1 : (1 : Int) = (0 : Int) := xI_eq rfl rfl c_1
    exfalso; first | exact ok_68 c_1 | omega
  · have c_1 : (1 : Int) ≠ (0 : Int) := xI_ne rfl rfl c_1
    refine lv_aload_n hx hb dJ0_isLatin1_aae02_6 rfl (lv_at hl 0 rfl) ?_
    refine vk_getf hx hb (hZ.1.1 0 (by decide)).2.1 hS hown (hg (Cond.fieldLink "java/lang/String" 15 "java/lang/String" "coder" "B") m2082) (fun _ h9 => h9) dJ0_isLatin1_aae02_7 ?_
    refine lv_if_ne (tgt := 17) hx hb dJ0_isLatin1_aae02_10 rfl (fun c_2 => ?_) (fun c_2 => ?_)
    · have c_2 : (0 : Int) ≠ (0 : Int) := xI_ne rfl rfl c_2
      exfalso; first | exact ok_69 c_2 | omega
    · have c_2 : (0 : Int) = (0 : Int) := xI_eq rfl rfl c_2
      refine ic_1 hx hb dJ0_isLatin1_aae02_13 ?_
      refine lv_goto (tgt := 18) hx hb dJ0_isLatin1_aae02_14 rfl ?_
      exact W.zret (v := 1) hx hb hr (by decide) (fun t ht _ => ⟨⟨1, G, rfl, (P_jLat_0_mk ⟨hB_G, hF, ⟨by decide, by decide⟩, ⟨rfl, rfl⟩⟩), wd_t ht hW⟩, hS.F ht⟩) hS.2.2 dJ0_isLatin1_aae02_18

set_option maxHeartbeats 4000000 in
set_option maxRecDepth 100000 in
theorem k_jCoder_0 (l : Launch) (D : va_G) (k : KT) (A : Nat → Prop) (a : Nat → Nat) (z : SK) (G : GS)   : Met l yJ0_coder_7d493 (WS yJ0_coder_7d493 cJ0_coder_7d493 1 (some .byte)) ({ frames := 0, cells := 0, slots := 0, locals := 0 }) (va_Pc [.ref (z.1 0)] (cW D k A a z G)) (va_Qi (fun (r : Int32) (G1 : GS) => P_jCoder_0 G r G1) (fun (G1 : GS) t => Wd D k A a G1 t.heap) A) 0 0 A := by
  refine Met.ofW (cc := cJ0_coder_7d493) (maxL := 1) (ret := (some .byte)) (by decide) rfl ?_
  intro p e s m args below meth c s₁ B hml hv
  obtain ⟨rfl, hW, hB_G, hK, hZ⟩ := hv
  have hx := B.exec
  have hb := B.bytes
  have hr := B.returns
  have hts := atoms_spec (ws := WS yJ0_coder_7d493 cJ0_coder_7d493 1 (some .byte)) B.pre
  have hgd : ∀ w ∈ gd, w ∈ WS yJ0_coder_7d493 cJ0_coder_7d493 1 (some .byte) := fun w h => List.mem_cons_of_mem _ h
  have hg : ∀ w ∈ gd, w.before _ s = true := fun w h => hts w (hgd w h)
  have hown : s.vm.findClass RJ0 = some m.cls := findClass_of_methodNamed B.named
  have hS : va_S A s.heap s.heap [] := va_S.rf
  have hF : Fr [] [] G G := Fr.rf
  have hl := lv_entry ([.ref (z.1 0)]) (n := 1) (Nat.le_of_ble_eq_true rfl)
  rw [lg_entry_eq]
  generalize (lg_sl ([.ref (z.1 0)]) ++ List.replicate (1 - (lg_sl ([.ref (z.1 0)])).length) Slot.unset).toArray = ls at hl ⊢
  have hl : lv_has ls 1 [(0, .ref (z.1 0))] := hl
  refine va_gets hx hb hZ.2.2.2.1 hS hown (hg (Cond.fieldLink "java/lang/String" 38 "java/lang/String" "COMPACT_STRINGS" "Z") m663) (fun _ h9 => h9) dJ0_coder_7d493_0 ?_
  refine lv_if_eq (tgt := 13) hx hb dJ0_coder_7d493_3 rfl (fun c_1 => ?_) (fun c_1 => ?_)
  · have c_1 : (1 : Int) = (0 : Int) := xI_eq rfl rfl c_1
    exfalso; first | exact ok_68 c_1 | omega
  · have c_1 : (1 : Int) ≠ (0 : Int) := xI_ne rfl rfl c_1
    refine lv_aload_n hx hb dJ0_coder_7d493_6 rfl (lv_at hl 0 rfl) ?_
    refine vk_getf hx hb (hZ.1.1 0 (by decide)).2.1 hS hown (hg (Cond.fieldLink "java/lang/String" 15 "java/lang/String" "coder" "B") m2082) (fun _ h9 => h9) dJ0_coder_7d493_7 ?_
    refine lv_goto (tgt := 14) hx hb dJ0_coder_7d493_10 rfl ?_
    exact W.zret (v := 0) hx hb hr (by decide) (fun t ht _ => ⟨⟨0, G, rfl, (P_jCoder_0_mk ⟨hB_G, hF, ⟨by decide, by decide⟩, ⟨rfl, rfl⟩⟩), wd_t ht hW⟩, hS.F ht⟩) hS.2.2 dJ0_coder_7d493_14

set_option maxHeartbeats 4000000 in
set_option maxRecDepth 100000 in
theorem k_jLen_0 (l : Launch) (D : va_G) (k : KT) (A : Nat → Prop) (a : Nat → Nat) (z : SK) (G : GS)   : Met l yJ0_length_8abf5 (WS yJ0_length_8abf5 cJ0_length_8abf5 1 (some .int)) ({ frames := 1, cells := 0, slots := 0, locals := 20 }) (va_Pc [.ref (z.1 0)] (cW D k A a z G)) (va_Qi (fun (r : Int32) (G1 : GS) => P_jLen_0 G r G1) (fun (G1 : GS) t => Wd D k A a G1 t.heap) A) 0 0 A := by
  refine Met.ofW (cc := cJ0_length_8abf5) (maxL := 1) (ret := (some .int)) (by decide) rfl ?_
  intro p e s m args below meth c s₁ B hml hv
  obtain ⟨rfl, hW, hB_G, hK, hZ⟩ := hv
  have hx := B.exec
  have hb := B.bytes
  have hr := B.returns
  have hts := atoms_spec (ws := WS yJ0_length_8abf5 cJ0_length_8abf5 1 (some .int)) B.pre
  have hgd : ∀ w ∈ gd, w ∈ WS yJ0_length_8abf5 cJ0_length_8abf5 1 (some .int) := fun w h => List.mem_cons_of_mem _ h
  have hg : ∀ w ∈ gd, w.before _ s = true := fun w h => hts w (hgd w h)
  have hown : s.vm.findClass RJ0 = some m.cls := findClass_of_methodNamed B.named
  have hS : va_S A s.heap s.heap [] := va_S.rf
  have hF : Fr [] [] G G := Fr.rf
  have hl := lv_entry ([.ref (z.1 0)]) (n := 1) (Nat.le_of_ble_eq_true rfl)
  rw [lg_entry_eq]
  generalize (lg_sl ([.ref (z.1 0)]) ++ List.replicate (1 - (lg_sl ([.ref (z.1 0)])).length) Slot.unset).toArray = ls at hl ⊢
  have hl : lv_has ls 1 [(0, .ref (z.1 0))] := hl
  refine lv_aload_n hx hb dJ0_length_8abf5_0 rfl (lv_at hl 0 rfl) ?_
  refine vk_getf hx hb (hZ.1.1 0 (by decide)).2.2.1 hS hown (hg (Cond.fieldLink "java/lang/String" 9 "java/lang/String" "value" "[B") m2081) (fun _ h9 => h9) dJ0_length_8abf5_1 ?_
  refine va_tlen (v := 184) hx hb (hZ.1.1 0 (by decide)).2.2.2 hS rfl dJ0_length_8abf5_4 ?_
  refine lv_aload_n hx hb dJ0_length_8abf5_5 rfl (lv_at hl 0 rfl) ?_
  refine S_calli (va_runV (As := []) (rest := [.int 184]) ⟨hx, hb, hml, hown, hts⟩ (k_jCoder_0 l D k A a z G  ) (cwV 0 hts (gd_V hgd m659 m660 m661 m133 m662) rfl rfl rfl hd_J0_coder_7d493 ⟨Nat.le_of_ble_eq_true rfl, Nat.le_of_ble_eq_true rfl⟩) (pre_VS hW hB_G hK hZ hS 0 (by decide)) rfl rfl hl.1 rfl (lv_room (Nat.le_of_ble_eq_true rfl)) dJ0_length_8abf5_6 ⟨Nat.le_of_ble_eq_true rfl, Nat.le_of_ble_eq_true rfl⟩) hS (fun r_1 G_2 H locs hpo hW hS => ?_)
  have hX_5 : P_jCoder_0 G r_1 G_2 := hpo
  obtain ⟨hB_G_2, hq_3, f_6, -⟩ := hpo
  have hF := hF.call9 hq_3 rfl rfl
  refine lv_ishr hx hb dJ0_length_8abf5_9 ?_
  refine lv_topi (fun y_7 ey_7 => ?_)
  have ty_7 : y_7.toInt = 184 := sh0 ey_7 (by omega) rfl
  exact W.iret (v := y_7) hx hb hr (fun t ht _ => ⟨⟨y_7, G_2, rfl, (P_jLen_0_mk ⟨hB_G_2, hF, ⟨(by first | exact ok_70 ty_7 | omega), (by first | exact ok_71 ty_7 | omega)⟩, ⟨r_1, G_2, hX_5, ⟨y_7, ey_7, ⟨rfl, rfl⟩⟩⟩⟩), wd_t ht hW⟩, hS.F ht⟩) hS.2.2 dJ0_length_8abf5_10

set_option maxHeartbeats 4000000 in
set_option maxRecDepth 100000 in
theorem k_jLCharAt_0 (l : Launch) (D : va_G) (k : KT) (A : Nat → Prop) (a : Nat → Nat) (z : SK) (G : GS) (p0 : Int32) (ha_p0 : 0 ≤ p0.toInt ∧ p0.toInt ≤ 183) : Met l yJ1_charAt_3b067 (WS yJ1_charAt_3b067 cJ1_charAt_3b067 2 (some .char)) ({ frames := 2, cells := 0, slots := 0, locals := 43 }) (va_Pc [.ref (z.2 0), .int p0] (cW D k A a z G)) (va_Qi (fun (r : Int32) (G1 : GS) => P_jLCharAt_0 p0 G r G1) (fun (G1 : GS) t => Wd D k A a G1 t.heap) A) 0 0 A := by
  refine Met.ofW (cc := cJ1_charAt_3b067) (maxL := 2) (ret := (some .char)) (by decide) rfl ?_
  intro p e s m args below meth c s₁ B hml hv
  obtain ⟨rfl, hW, hB_G, hK, hZ⟩ := hv
  have hx := B.exec
  have hb := B.bytes
  have hr := B.returns
  have hts := atoms_spec (ws := WS yJ1_charAt_3b067 cJ1_charAt_3b067 2 (some .char)) B.pre
  have hgd : ∀ w ∈ gd, w ∈ WS yJ1_charAt_3b067 cJ1_charAt_3b067 2 (some .char) := fun w h => List.mem_cons_of_mem _ h
  have hg : ∀ w ∈ gd, w.before _ s = true := fun w h => hts w (hgd w h)
  have hown : s.vm.findClass RJ1 = some m.cls := findClass_of_methodNamed B.named
  have hS : va_S A s.heap s.heap [] := va_S.rf
  have hF : Fr [] [] G G := Fr.rf
  have hl := lv_entry ([.ref (z.2 0), .int p0]) (n := 2) (Nat.le_of_ble_eq_true rfl)
  rw [lg_entry_eq]
  generalize (lg_sl ([.ref (z.2 0), .int p0]) ++ List.replicate (2 - (lg_sl ([.ref (z.2 0), .int p0])).length) Slot.unset).toArray = ls at hl ⊢
  have hl : lv_has ls 2 [(0, .ref (z.2 0)), (1, .int p0)] := hl
  refine lv_iload_n hx hb dJ1_charAt_3b067_0 rfl (lv_at hl 1 rfl) ?_
  refine lv_aload_n hx hb dJ1_charAt_3b067_1 rfl (lv_at hl 0 rfl) ?_
  refine va_tlen (v := 184) hx hb (hZ.1.1 0 (by decide)).2.2.2 hS rfl dJ1_charAt_3b067_2 ?_
  have qc_1 : (184 : Int32).toInt = 184 := rfl
  refine S_callv (va_runS (As := [.int p0, .int 184]) (rest := []) ⟨hx, hb, hml, hown, hts⟩ (k_jCheck l D k A a z G p0 184 ((by first | exact ⟨(by first | exact ha_p0.1 | omega), (by first | exact ok_72 ha_p0.2 qc_1 | omega)⟩ | omega))) (va_cwS 2 hts (gd_S hgd m676 m677 m133 m678) rfl rfl rfl hd_J0_checkIndex_df160.2 ⟨Nat.le_of_ble_eq_true rfl, Nat.le_of_ble_eq_true rfl⟩) (pre_S hW hB_G hK hZ hS) rfl rfl hl.1 rfl (lv_room (Nat.le_of_ble_eq_true rfl)) dJ1_charAt_3b067_3 ⟨Nat.le_of_ble_eq_true rfl, Nat.le_of_ble_eq_true rfl⟩) hS (fun G_3 H locs hpo hW hS => ?_)
  obtain ⟨hB_G_3, hq_4⟩ := hpo
  have hF := hF.call9 hq_4 rfl rfl
  refine lv_aload_n hx hb dJ1_charAt_3b067_6 rfl (lv_at hl 0 rfl) ?_
  refine lv_iload_n hx hb dJ1_charAt_3b067_7 rfl (lv_at hl 1 rfl) ?_
  refine va_tb hx hb (hZ.1.1 0 (by decide)).2.2.2 hS (vin (n := 184) ((by first | exact ha_p0.1 | omega)) ((by first | exact ok_73 ha_p0.2 | omega))) rfl dJ1_charAt_3b067_8 ?_
  refine lv_topi (fun y_7 ey_7 => ?_)
  refine lv_sipush (v := 255) hx hb dJ1_charAt_3b067_9 (by decide) ?_
  refine lv_iand hx hb dJ1_charAt_3b067_12 ?_
  refine lv_topi (fun y_8 ey_8 => ?_)
  have ty_8 := xI_and (Y := 255) rfl ey_8 (by decide)
  refine lv_i2c hx hb dJ1_charAt_3b067_13 rfl ?_
  refine lv_topi (fun y_9 ey_9 => ?_)
  have ty_9 := i2c_ok ey_9 (by omega) (by omega)
  exact W.zret (v := y_9) hx hb hr (nar_c (by omega) (by omega)) (fun t ht _ => ⟨⟨y_9, G_3, rfl, (P_jLCharAt_0_mk ⟨hB_G_3, hF, ⟨by omega, by omega⟩, ⟨G_3, hB_G_3, hq_4, ⟨y_7, ey_7, ⟨y_8, ey_8, ⟨y_9, ey_9, ⟨rfl, rfl⟩⟩⟩⟩⟩⟩), wd_t ht hW⟩, hS.F ht⟩) hS.2.2 dJ1_charAt_3b067_14

set_option maxHeartbeats 4000000 in
set_option maxRecDepth 100000 in
theorem k_jCharAt_0 (l : Launch) (D : va_G) (k : KT) (A : Nat → Prop) (a : Nat → Nat) (z : SK) (G : GS) (p0 : Int32) (ha_p0 : 0 ≤ p0.toInt ∧ p0.toInt ≤ 183) : Met l yJ0_charAt_5068e (WS yJ0_charAt_5068e cJ0_charAt_5068e 2 (some .char)) ({ frames := 3, cells := 0, slots := 0, locals := 64 }) (va_Pc [.ref (z.1 0), .int p0] (cW D k A a z G)) (va_Qi (fun (r : Int32) (G1 : GS) => P_jCharAt_0 p0 G r G1) (fun (G1 : GS) t => Wd D k A a G1 t.heap) A) 0 0 A := by
  refine Met.ofW (cc := cJ0_charAt_5068e) (maxL := 2) (ret := (some .char)) (by decide) rfl ?_
  intro p e s m args below meth c s₁ B hml hv
  obtain ⟨rfl, hW, hB_G, hK, hZ⟩ := hv
  have hx := B.exec
  have hb := B.bytes
  have hr := B.returns
  have hts := atoms_spec (ws := WS yJ0_charAt_5068e cJ0_charAt_5068e 2 (some .char)) B.pre
  have hgd : ∀ w ∈ gd, w ∈ WS yJ0_charAt_5068e cJ0_charAt_5068e 2 (some .char) := fun w h => List.mem_cons_of_mem _ h
  have hg : ∀ w ∈ gd, w.before _ s = true := fun w h => hts w (hgd w h)
  have hown : s.vm.findClass RJ0 = some m.cls := findClass_of_methodNamed B.named
  have hS : va_S A s.heap s.heap [] := va_S.rf
  have hF : Fr [] [] G G := Fr.rf
  have hl := lv_entry ([.ref (z.1 0), .int p0]) (n := 2) (Nat.le_of_ble_eq_true rfl)
  rw [lg_entry_eq]
  generalize (lg_sl ([.ref (z.1 0), .int p0]) ++ List.replicate (2 - (lg_sl ([.ref (z.1 0), .int p0])).length) Slot.unset).toArray = ls at hl ⊢
  have hl : lv_has ls 2 [(0, .ref (z.1 0)), (1, .int p0)] := hl
  refine lv_aload_n hx hb dJ0_charAt_5068e_0 rfl (lv_at hl 0 rfl) ?_
  refine S_calli (va_runV (As := []) (rest := []) ⟨hx, hb, hml, hown, hts⟩ (k_jLat_0 l D k A a z G  ) (cwV 0 hts (gd_V hgd m669 m670 m671 m133 m672) rfl rfl rfl hd_J0_isLatin1_aae02 ⟨Nat.le_of_ble_eq_true rfl, Nat.le_of_ble_eq_true rfl⟩) (pre_VS hW hB_G hK hZ hS 0 (by decide)) rfl rfl hl.1 rfl (lv_room (Nat.le_of_ble_eq_true rfl)) dJ0_charAt_5068e_1 ⟨Nat.le_of_ble_eq_true rfl, Nat.le_of_ble_eq_true rfl⟩) hS (fun r_1 G_2 H locs hpo hW hS => ?_)
  have hX_5 : P_jLat_0 G r_1 G_2 := hpo
  obtain ⟨hB_G_2, hq_3, f_6, -⟩ := hpo
  have hF := hF.call9 hq_3 rfl rfl
  refine lv_if_eq (tgt := 16) hx hb dJ0_charAt_5068e_4 rfl (fun c_7 => ?_) (fun c_7 => ?_)
  · have c_7 : r_1.toInt = 0 := xI_eq rfl rfl c_7
    exfalso; first | exact ok_74 f_6.1 c_7 | omega
  · have c_7 : r_1.toInt ≠ 0 := xI_ne rfl rfl c_7
    refine lv_aload_n hx hb dJ0_charAt_5068e_7 rfl (lv_at hl 0 rfl) ?_
    refine vk_getf hx hb (hZ.1.1 0 (by decide)).2.2.1 hS hown (hg (Cond.fieldLink "java/lang/String" 9 "java/lang/String" "value" "[B") m2081) (fun _ h9 => h9) dJ0_charAt_5068e_8 ?_
    refine lv_iload_n hx hb dJ0_charAt_5068e_11 rfl (lv_at hl 1 rfl) ?_
    refine S_calli (va_runS (As := [.ref (z.2 0), .int p0]) (rest := []) ⟨hx, hb, hml, hown, hts⟩ (k_jLCharAt_0 l D k A a z G_2 p0 ⟨(by first | exact ha_p0.1 | omega), (by first | exact ha_p0.2 | omega)⟩) (va_cwS 2 hts (gd_S hgd m673 m674 m134 m675) rfl rfl rfl hd_J1_charAt_3b067.2 ⟨Nat.le_of_ble_eq_true rfl, Nat.le_of_ble_eq_true rfl⟩) (pre_S hW hB_G_2 hK hZ hS) rfl rfl hl.1 rfl (lv_room (Nat.le_of_ble_eq_true rfl)) dJ0_charAt_5068e_12 ⟨Nat.le_of_ble_eq_true rfl, Nat.le_of_ble_eq_true rfl⟩) hS (fun r_8 G_9 H locs hpo hW hS => ?_)
    have hX_12 : P_jLCharAt_0 p0 G_2 r_8 G_9 := hpo
    obtain ⟨hB_G_9, hq_10, f_13, -⟩ := hpo
    have hF := hF.call9 hq_10 rfl rfl
    exact W.zret (v := r_8) hx hb hr (nar_c (by omega) (by omega)) (fun t ht _ => ⟨⟨r_8, G_9, rfl, (P_jCharAt_0_mk ⟨hB_G_9, hF, ⟨(by first | exact f_13.1 | omega), (by first | exact f_13.2 | omega)⟩, ⟨r_1, G_2, hX_5, ⟨r_8, G_9, hX_12, ⟨rfl, rfl⟩⟩⟩⟩), wd_t ht hW⟩, hS.F ht⟩) hS.2.2 dJ0_charAt_5068e_15

set_option maxHeartbeats 4000000 in
set_option maxRecDepth 100000 in
theorem k_jLIdxC_0 (l : Launch) (D : va_G) (k : KT) (A : Nat → Prop) (a : Nat → Nat) (z : SK) (G : GS) (p0 : Int32) (p1 : Int32) (p2 : Int32) (ha_p1 : 0 ≤ p1.toInt ∧ p1.toInt ≤ 0) (ha_p2 : 184 ≤ p2.toInt ∧ p2.toInt ≤ 184) : Met l yJ1_indexOfChar_4cfef (WS yJ1_indexOfChar_4cfef cJ1_indexOfChar_4cfef 6 (some .int)) ({ frames := 0, cells := 0, slots := 0, locals := 0 }) (va_Pc [.ref (z.2 0), .int p0, .int p1, .int p2] (cW D k A a z G)) (va_Qi (fun (r : Int32) (G1 : GS) => P_jLIdxC_0 p0 p1 p2 G r G1) (fun (G1 : GS) t => Wd D k A a G1 t.heap) A) 0 0 A := by
  refine Met.ofW (cc := cJ1_indexOfChar_4cfef) (maxL := 6) (ret := (some .int)) (by decide) rfl ?_
  intro p e s m args below meth c s₁ B hml hv
  obtain ⟨rfl, hW, hB_G, hK, hZ⟩ := hv
  have hx := B.exec
  have hb := B.bytes
  have hr := B.returns
  have hts := atoms_spec (ws := WS yJ1_indexOfChar_4cfef cJ1_indexOfChar_4cfef 6 (some .int)) B.pre
  have hgd : ∀ w ∈ gd, w ∈ WS yJ1_indexOfChar_4cfef cJ1_indexOfChar_4cfef 6 (some .int) := fun w h => List.mem_cons_of_mem _ h
  have hg : ∀ w ∈ gd, w.before _ s = true := fun w h => hts w (hgd w h)
  have hown : s.vm.findClass RJ1 = some m.cls := findClass_of_methodNamed B.named
  have hS : va_S A s.heap s.heap [] := va_S.rf
  have hF : Fr [] [] G G := Fr.rf
  have hl := lv_entry ([.ref (z.2 0), .int p0, .int p1, .int p2]) (n := 6) (Nat.le_of_ble_eq_true rfl)
  rw [lg_entry_eq]
  generalize (lg_sl ([.ref (z.2 0), .int p0, .int p1, .int p2]) ++ List.replicate (6 - (lg_sl ([.ref (z.2 0), .int p0, .int p1, .int p2])).length) Slot.unset).toArray = ls at hl ⊢
  have hl : lv_has ls 6 [(0, .ref (z.2 0)), (1, .int p0), (2, .int p1), (3, .int p2)] := hl
  refine lv_iload_n hx hb dJ1_indexOfChar_4cfef_0 rfl (lv_at hl 1 rfl) ?_
  refine lv_i2b hx hb dJ1_indexOfChar_4cfef_1 rfl ?_
  refine lv_topi (fun y_1 ey_1 => ?_)
  refine lv_istore (lv' := [(4, .int y_1), (0, .ref (z.2 0)), (1, .int p0), (2, .int p1), (3, .int p2)]) hx hb dJ1_indexOfChar_4cfef_2 hl (lt_b rfl) rfl (fun ls hl => ?_)
  refine lv_iload_n hx hb dJ1_indexOfChar_4cfef_4 rfl (lv_at hl 3 rfl) ?_
  refine lv_istore (lv' := [(5, .int p1), (4, .int y_1), (0, .ref (z.2 0)), (1, .int p0), (2, .int p1), (3, .int p2)]) hx hb dJ1_indexOfChar_4cfef_5 hl (lt_b rfl) rfl (fun ls hl => ?_)
  refine loop_N (Inv := fun n H locs ls => ∃ (G_2 : GS) (x_6 : Int32), (n : Int) = 184 - x_6.toInt ∧ (0 ≤ x_6.toInt ∧ x_6.toInt ≤ 184) ∧ Rc (St_k_jLIdxC_0_1 p2 y_1) (p1, G) (x_6, G_2) ∧ Wd D k A a G_2 H ∧ Bd G_2 ∧ Fr [] [] G G_2 ∧ Fr [] [] G G_2 ∧ va_S A s.heap H locs ∧ lv_has ls 6 [(5, .int x_6), (4, .int y_1), (0, .ref (z.2 0)), (3, .int p2)]) (fun n_5 H locs ls ih_4 hI => ?_) (184 - p1.toInt : Int).toNat ⟨G, p1, (Int.toNat_of_nonneg ((by first | exact ok_75 ha_p1.2 | omega))), ⟨(by first | exact ha_p1.1 | omega), (by first | exact ok_76 ha_p1.2 | omega)⟩, Rc.rf, hW, hB_G, hF, Fr.rf, hS, lv_sub hl [0, 1, 2, 5] rfl⟩
  obtain ⟨G_2, x_6, hn_9, f_8, hX_7, hW, hB_G_2, hF, hq_3, hS, hl⟩ := hI
  refine lv_iload hx hb dJ1_indexOfChar_4cfef_7 (lv_at hl 0 rfl) ?_
  refine lv_iload_n hx hb dJ1_indexOfChar_4cfef_9 rfl (lv_at hl 3 rfl) ?_
  refine lv_icmp_ge (tgt := 31) hx hb dJ1_indexOfChar_4cfef_10 rfl (fun c_10 => ?_) (fun c_10 => ?_)
  · have c_10 : p2.toInt ≤ x_6.toInt := xI_le rfl rfl c_10
    refine ic_m1 hx hb dJ1_indexOfChar_4cfef_31 ?_
    exact W.iret (v := (-1)) hx hb hr (fun t ht _ => ⟨⟨(-1), G_2, rfl, (P_jLIdxC_0_mk ⟨hB_G_2, hF, ⟨y_1, ey_1, ⟨x_6, G_2, hX_7, f_8, hB_G_2, hq_3, (Or.inl ⟨c_10, ⟨rfl, rfl⟩⟩)⟩⟩⟩), wd_t ht hW⟩, hS.F ht⟩) hS.2.2 dJ1_indexOfChar_4cfef_32
  · have c_10 : x_6.toInt < p2.toInt := xI_nle rfl rfl c_10
    refine lv_aload_n hx hb dJ1_indexOfChar_4cfef_13 rfl (lv_at hl 2 rfl) ?_
    refine lv_iload hx hb dJ1_indexOfChar_4cfef_14 (lv_at hl 0 rfl) ?_
    refine va_tb hx hb (hZ.1.1 0 (by decide)).2.2.2 hS (vin (n := 184) ((by first | exact f_8.1 | omega)) ((by first | exact ok_77 ha_p2.2 f_8.2 c_10 | omega))) rfl dJ1_indexOfChar_4cfef_16 ?_
    refine lv_topi (fun y_12 ey_12 => ?_)
    refine lv_iload hx hb dJ1_indexOfChar_4cfef_17 (lv_at hl 1 rfl) ?_
    refine lv_icmp_ne (tgt := 25) hx hb dJ1_indexOfChar_4cfef_19 rfl (fun c_13 => ?_) (fun c_13 => ?_)
    · have c_13 : y_12.toInt ≠ y_1.toInt := xI_ne rfl rfl c_13
      obtain ⟨y_14, ey_14⟩ : ∃ q, q = x_6 + 1 := ⟨_, rfl⟩
      have ty_14 : y_14.toInt = x_6.toInt + 1 := xI_add rfl rfl ey_14 ((by first | exact ok_21 f_8.1 | omega)) ((by first | exact ok_78 f_8.2 | omega))
      refine lv_iinc (v := y_14) (lv' := [(5, .int y_14), (4, .int y_1), (0, .ref (z.2 0)), (3, .int p2)]) hx hb dJ1_indexOfChar_4cfef_25 hl (k := 0) rfl (by rw [ey_14]; rfl) (lt_b rfl) rfl (fun ls hl => ?_)
      refine lv_goto (tgt := 7) hx hb dJ1_indexOfChar_4cfef_28 rfl ?_
      exact ih_4 (184 - y_14.toInt : Int).toNat (by omega) _ _ _ ⟨G_2, y_14, (Int.toNat_of_nonneg ((by first | exact ok_79 ha_p2.2 f_8.2 c_10 ty_14 | omega))), ⟨(by first | exact ok_23 f_8.1 ty_14 | omega), (by first | exact ok_80 ha_p2.2 f_8.2 c_10 ty_14 | omega)⟩, (hX_7.st (St_k_jLIdxC_0_1_mk ⟨x_6, G_2, y_14, G_2, rfl, rfl, f_8, hB_G_2, ⟨c_10, ⟨y_12, ey_12, ⟨c_13, ⟨y_14, ty_14, ⟨rfl, rfl⟩⟩⟩⟩⟩⟩)), hW, hB_G_2, hF, (Fr.call9 (rs := []) (fs := []) Fr.rf hq_3 rfl rfl), hS, lv_sub hl [0, 1, 2, 3] rfl⟩
    · have c_13 : y_12.toInt = y_1.toInt := xI_eq rfl rfl c_13
      refine lv_iload hx hb dJ1_indexOfChar_4cfef_22 (lv_at hl 0 rfl) ?_
      exact W.iret (v := x_6) hx hb hr (fun t ht _ => ⟨⟨x_6, G_2, rfl, (P_jLIdxC_0_mk ⟨hB_G_2, hF, ⟨y_1, ey_1, ⟨x_6, G_2, hX_7, f_8, hB_G_2, hq_3, (Or.inr ⟨c_10, ⟨y_12, ey_12, ⟨c_13, ⟨rfl, rfl⟩⟩⟩⟩)⟩⟩⟩), wd_t ht hW⟩, hS.F ht⟩) hS.2.2 dJ1_indexOfChar_4cfef_24

set_option maxHeartbeats 4000000 in
set_option maxRecDepth 100000 in
theorem k_jLIdx_0 (l : Launch) (D : va_G) (k : KT) (A : Nat → Prop) (a : Nat → Nat) (z : SK) (G : GS) (p0 : Int32) (p1 : Int32) (p2 : Int32) (ha_p1 : 0 ≤ p1.toInt ∧ p1.toInt ≤ 0) (ha_p2 : 184 ≤ p2.toInt ∧ p2.toInt ≤ 184) : Met l yJ1_indexOf_4cfef (WS yJ1_indexOf_4cfef cJ1_indexOf_4cfef 4 (some .int)) ({ frames := 1, cells := 0, slots := 0, locals := 25 }) (va_Pc [.ref (z.2 0), .int p0, .int p1, .int p2] (cW D k A a z G)) (va_Qi (fun (r : Int32) (G1 : GS) => P_jLIdx_0 p0 p1 p2 G r G1) (fun (G1 : GS) t => Wd D k A a G1 t.heap) A) 0 0 A := by
  refine Met.ofW (cc := cJ1_indexOf_4cfef) (maxL := 4) (ret := (some .int)) (by decide) rfl ?_
  intro p e s m args below meth c s₁ B hml hv
  obtain ⟨rfl, hW, hB_G, hK, hZ⟩ := hv
  have hx := B.exec
  have hb := B.bytes
  have hr := B.returns
  have hts := atoms_spec (ws := WS yJ1_indexOf_4cfef cJ1_indexOf_4cfef 4 (some .int)) B.pre
  have hgd : ∀ w ∈ gd, w ∈ WS yJ1_indexOf_4cfef cJ1_indexOf_4cfef 4 (some .int) := fun w h => List.mem_cons_of_mem _ h
  have hg : ∀ w ∈ gd, w.before _ s = true := fun w h => hts w (hgd w h)
  have hown : s.vm.findClass RJ1 = some m.cls := findClass_of_methodNamed B.named
  have hS : va_S A s.heap s.heap [] := va_S.rf
  have hF : Fr [] [] G G := Fr.rf
  have hl := lv_entry ([.ref (z.2 0), .int p0, .int p1, .int p2]) (n := 4) (Nat.le_of_ble_eq_true rfl)
  rw [lg_entry_eq]
  generalize (lg_sl ([.ref (z.2 0), .int p0, .int p1, .int p2]) ++ List.replicate (4 - (lg_sl ([.ref (z.2 0), .int p0, .int p1, .int p2])).length) Slot.unset).toArray = ls at hl ⊢
  have hl : lv_has ls 4 [(0, .ref (z.2 0)), (1, .int p0), (2, .int p1), (3, .int p2)] := hl
  refine lv_iload_n hx hb dJ1_indexOf_4cfef_0 rfl (lv_at hl 1 rfl) ?_
  refine S_calli (va_runS (As := [.int p0]) (rest := []) ⟨hx, hb, hml, hown, hts⟩ (k_jCan l D k A a z G p0 ) (va_cwS 1 hts (gd_S hgd m724 m725 m134 m726) rfl rfl rfl hd_J1_canEncode_9a6ad.2 ⟨Nat.le_of_ble_eq_true rfl, Nat.le_of_ble_eq_true rfl⟩) (pre_S hW hB_G hK hZ hS) rfl rfl hl.1 rfl (lv_room (Nat.le_of_ble_eq_true rfl)) dJ1_indexOf_4cfef_1 ⟨Nat.le_of_ble_eq_true rfl, Nat.le_of_ble_eq_true rfl⟩) hS (fun r_1 G_2 H locs hpo hW hS => ?_)
  have hX_5 : P_jCan p0 G r_1 G_2 := hpo
  obtain ⟨hB_G_2, hq_3, f_6, -⟩ := hpo
  have hF := hF.call9 hq_3 rfl rfl
  refine lv_if_ne (tgt := 9) hx hb dJ1_indexOf_4cfef_4 rfl (fun c_7 => ?_) (fun c_7 => ?_)
  · have c_7 : r_1.toInt ≠ 0 := xI_ne rfl rfl c_7
    refine lv_iload_n hx hb dJ1_indexOf_4cfef_9 rfl (lv_at hl 2 rfl) ?_
    refine ic_0 hx hb dJ1_indexOf_4cfef_10 ?_
    refine va_mmax hx hb (by rw [hml]; exact hl.1.symm) hown (hg (Cond.methodLink "java/lang/StringLatin1" 92 Lib.Math.max.name) m727) (hg (Cond.static Lib.Math.max.name) m728) (hg (Cond.initialized "java/lang/Math") m132) (hg (Cond.code Lib.Math.max.name Lib.Math.max.code 2 (some .int)) m729) (Nat.le_of_ble_eq_true rfl) (Nat.le_of_ble_eq_true rfl) (Nat.le_of_ble_eq_true rfl) (Nat.le_of_ble_eq_true rfl) dJ1_indexOf_4cfef_11 ?_
    refine lv_topi (fun y_8 ey_8 => ?_)
    have ty_8 := xI_max (X := p1.toInt) (Y := 0) rfl rfl ey_8
    refine lv_istore_n (lv' := [(2, .int y_8), (0, .ref (z.2 0)), (1, .int p0), (3, .int p2)]) hx hb dJ1_indexOf_4cfef_14 rfl hl (lt_b rfl) rfl (fun ls hl => ?_)
    refine lv_iload_n hx hb dJ1_indexOf_4cfef_15 rfl (lv_at hl 3 rfl) ?_
    refine lv_aload_n hx hb dJ1_indexOf_4cfef_16 rfl (lv_at hl 1 rfl) ?_
    refine va_tlen (v := 184) hx hb (hZ.1.1 0 (by decide)).2.2.2 hS rfl dJ1_indexOf_4cfef_17 ?_
    refine va_mmin hx hb (by rw [hml]; exact hl.1.symm) hown (hg (Cond.methodLink "java/lang/StringLatin1" 38 Lib.Math.min.name) m730) (hg (Cond.static Lib.Math.min.name) m636) (hg (Cond.initialized "java/lang/Math") m132) (hg (Cond.code Lib.Math.min.name Lib.Math.min.code 2 (some .int)) m637) (Nat.le_of_ble_eq_true rfl) (Nat.le_of_ble_eq_true rfl) (Nat.le_of_ble_eq_true rfl) (Nat.le_of_ble_eq_true rfl) dJ1_indexOf_4cfef_18 ?_
    refine lv_topi (fun y_9 ey_9 => ?_)
    have ty_9 := xI_min (X := p2.toInt) (Y := 184) rfl rfl ey_9
    refine lv_istore_n (lv' := [(3, .int y_9), (2, .int y_8), (0, .ref (z.2 0)), (1, .int p0)]) hx hb dJ1_indexOf_4cfef_21 rfl hl (lt_b rfl) rfl (fun ls hl => ?_)
    refine lv_iload_n hx hb dJ1_indexOf_4cfef_22 rfl (lv_at hl 1 rfl) ?_
    refine lv_iload_n hx hb dJ1_indexOf_4cfef_23 rfl (lv_at hl 0 rfl) ?_
    refine lv_icmp_lt (tgt := 29) hx hb dJ1_indexOf_4cfef_24 rfl (fun c_10 => ?_) (fun c_10 => ?_)
    · have c_10 : y_8.toInt < y_9.toInt := xI_lt rfl rfl c_10
      refine lv_aload_n hx hb dJ1_indexOf_4cfef_29 rfl (lv_at hl 2 rfl) ?_
      refine lv_iload_n hx hb dJ1_indexOf_4cfef_30 rfl (lv_at hl 3 rfl) ?_
      refine lv_iload_n hx hb dJ1_indexOf_4cfef_31 rfl (lv_at hl 1 rfl) ?_
      refine lv_iload_n hx hb dJ1_indexOf_4cfef_32 rfl (lv_at hl 0 rfl) ?_
      refine S_calli (va_runS (As := [.ref (z.2 0), .int p0, .int y_8, .int y_9]) (rest := []) ⟨hx, hb, hml, hown, hts⟩ (k_jLIdxC_0 l D k A a z G_2 p0 y_8 y_9 ⟨(by first | exact ok_81 ha_p1.1 ty_8 | omega), (by first | exact ok_82 ha_p1.2 ty_8 | omega)⟩ ⟨(by first | exact ok_83 ha_p2.1 ty_9 | omega), (by first | exact ok_84 ha_p2.2 ty_9 | omega)⟩) (va_cwS 4 hts (gd_S hgd m731 m732 m134 m733) rfl rfl rfl hd_J1_indexOfChar_4cfef.2 ⟨Nat.le_of_ble_eq_true rfl, Nat.le_of_ble_eq_true rfl⟩) (pre_S hW hB_G_2 hK hZ hS) rfl rfl hl.1 rfl (lv_room (Nat.le_of_ble_eq_true rfl)) dJ1_indexOf_4cfef_33 ⟨Nat.le_of_ble_eq_true rfl, Nat.le_of_ble_eq_true rfl⟩) hS (fun r_11 G_12 H locs hpo hW hS => ?_)
      have hX_15 : P_jLIdxC_0 p0 y_8 y_9 G_2 r_11 G_12 := hpo
      obtain ⟨hB_G_12, hq_13, -⟩ := hpo
      have hF := hF.call9 hq_13 rfl rfl
      exact W.iret (v := r_11) hx hb hr (fun t ht _ => ⟨⟨r_11, G_12, rfl, (P_jLIdx_0_mk ⟨hB_G_12, hF, ⟨r_1, G_2, hX_5, (Or.inr ⟨c_7, ⟨y_8, ty_8, ⟨y_9, ty_9, ⟨r_11, G_12, hX_15, ⟨rfl, rfl⟩⟩⟩⟩⟩)⟩⟩), wd_t ht hW⟩, hS.F ht⟩) hS.2.2 dJ1_indexOf_4cfef_36
    · have c_10 : y_9.toInt ≤ y_8.toInt := xI_nlt rfl rfl c_10
      exfalso; omega
  · have c_7 : r_1.toInt = 0 := xI_eq rfl rfl c_7
    refine ic_m1 hx hb dJ1_indexOf_4cfef_7 ?_
    exact W.iret (v := (-1)) hx hb hr (fun t ht _ => ⟨⟨(-1), G_2, rfl, (P_jLIdx_0_mk ⟨hB_G_2, hF, ⟨r_1, G_2, hX_5, (Or.inl ⟨c_7, ⟨rfl, rfl⟩⟩)⟩⟩), wd_t ht hW⟩, hS.F ht⟩) hS.2.2 dJ1_indexOf_4cfef_8

set_option maxHeartbeats 4000000 in
set_option maxRecDepth 100000 in
theorem k_jIdx2_0 (l : Launch) (D : va_G) (k : KT) (A : Nat → Prop) (a : Nat → Nat) (z : SK) (G : GS) (p0 : Int32) (p1 : Int32) (ha_p1 : 0 ≤ p1.toInt ∧ p1.toInt ≤ 0) : Met l yJ0_indexOf_7cf53 (WS yJ0_indexOf_7cf53 cJ0_indexOf_7cf53 3 (some .int)) ({ frames := 2, cells := 0, slots := 0, locals := 48 }) (va_Pc [.ref (z.1 0), .int p0, .int p1] (cW D k A a z G)) (va_Qi (fun (r : Int32) (G1 : GS) => P_jIdx2_0 p0 p1 G r G1) (fun (G1 : GS) t => Wd D k A a G1 t.heap) A) 0 0 A := by
  refine Met.ofW (cc := cJ0_indexOf_7cf53) (maxL := 3) (ret := (some .int)) (by decide) rfl ?_
  intro p e s m args below meth c s₁ B hml hv
  obtain ⟨rfl, hW, hB_G, hK, hZ⟩ := hv
  have hx := B.exec
  have hb := B.bytes
  have hr := B.returns
  have hts := atoms_spec (ws := WS yJ0_indexOf_7cf53 cJ0_indexOf_7cf53 3 (some .int)) B.pre
  have hgd : ∀ w ∈ gd, w ∈ WS yJ0_indexOf_7cf53 cJ0_indexOf_7cf53 3 (some .int) := fun w h => List.mem_cons_of_mem _ h
  have hg : ∀ w ∈ gd, w.before _ s = true := fun w h => hts w (hgd w h)
  have hown : s.vm.findClass RJ0 = some m.cls := findClass_of_methodNamed B.named
  have hS : va_S A s.heap s.heap [] := va_S.rf
  have hF : Fr [] [] G G := Fr.rf
  have hl := lv_entry ([.ref (z.1 0), .int p0, .int p1]) (n := 3) (Nat.le_of_ble_eq_true rfl)
  rw [lg_entry_eq]
  generalize (lg_sl ([.ref (z.1 0), .int p0, .int p1]) ++ List.replicate (3 - (lg_sl ([.ref (z.1 0), .int p0, .int p1])).length) Slot.unset).toArray = ls at hl ⊢
  have hl : lv_has ls 3 [(0, .ref (z.1 0)), (1, .int p0), (2, .int p1)] := hl
  refine lv_aload_n hx hb dJ0_indexOf_7cf53_0 rfl (lv_at hl 0 rfl) ?_
  refine S_calli (va_runV (As := []) (rest := []) ⟨hx, hb, hml, hown, hts⟩ (k_jLat_0 l D k A a z G  ) (cwV 0 hts (gd_V hgd m669 m670 m671 m133 m672) rfl rfl rfl hd_J0_isLatin1_aae02 ⟨Nat.le_of_ble_eq_true rfl, Nat.le_of_ble_eq_true rfl⟩) (pre_VS hW hB_G hK hZ hS 0 (by decide)) rfl rfl hl.1 rfl (lv_room (Nat.le_of_ble_eq_true rfl)) dJ0_indexOf_7cf53_1 ⟨Nat.le_of_ble_eq_true rfl, Nat.le_of_ble_eq_true rfl⟩) hS (fun r_1 G_2 H locs hpo hW hS => ?_)
  have hX_5 : P_jLat_0 G r_1 G_2 := hpo
  obtain ⟨hB_G_2, hq_3, f_6, -⟩ := hpo
  have hF := hF.call9 hq_3 rfl rfl
  refine lv_if_eq (tgt := 23) hx hb dJ0_indexOf_7cf53_4 rfl (fun c_7 => ?_) (fun c_7 => ?_)
  · have c_7 : r_1.toInt = 0 := xI_eq rfl rfl c_7
    exfalso; first | exact ok_74 f_6.1 c_7 | omega
  · have c_7 : r_1.toInt ≠ 0 := xI_ne rfl rfl c_7
    refine lv_aload_n hx hb dJ0_indexOf_7cf53_7 rfl (lv_at hl 0 rfl) ?_
    refine vk_getf hx hb (hZ.1.1 0 (by decide)).2.2.1 hS hown (hg (Cond.fieldLink "java/lang/String" 9 "java/lang/String" "value" "[B") m2081) (fun _ h9 => h9) dJ0_indexOf_7cf53_8 ?_
    refine lv_iload_n hx hb dJ0_indexOf_7cf53_11 rfl (lv_at hl 1 rfl) ?_
    refine lv_iload_n hx hb dJ0_indexOf_7cf53_12 rfl (lv_at hl 2 rfl) ?_
    refine lv_aload_n hx hb dJ0_indexOf_7cf53_13 rfl (lv_at hl 0 rfl) ?_
    refine S_calli (va_runV (As := []) (rest := [.int p1, .int p0, .ref (z.2 0)]) ⟨hx, hb, hml, hown, hts⟩ (k_jLen_0 l D k A a z G_2  ) (cwV 0 hts (gd_V hgd m720 m656 m657 m133 m658) rfl rfl rfl hd_J0_length_8abf5 ⟨Nat.le_of_ble_eq_true rfl, Nat.le_of_ble_eq_true rfl⟩) (pre_VS hW hB_G_2 hK hZ hS 0 (by decide)) rfl rfl hl.1 rfl (lv_room (Nat.le_of_ble_eq_true rfl)) dJ0_indexOf_7cf53_14 ⟨Nat.le_of_ble_eq_true rfl, Nat.le_of_ble_eq_true rfl⟩) hS (fun r_8 G_9 H locs hpo hW hS => ?_)
    have hX_12 : P_jLen_0 G_2 r_8 G_9 := hpo
    obtain ⟨hB_G_9, hq_10, f_13, -⟩ := hpo
    have hF := hF.call9 hq_10 rfl rfl
    refine S_calli (va_runS (As := [.ref (z.2 0), .int p0, .int p1, .int r_8]) (rest := []) ⟨hx, hb, hml, hown, hts⟩ (k_jLIdx_0 l D k A a z G_9 p0 p1 r_8 ⟨(by first | exact ha_p1.1 | omega), (by first | exact ha_p1.2 | omega)⟩ ⟨(by first | exact f_13.1 | omega), (by first | exact f_13.2 | omega)⟩) (va_cwS 4 hts (gd_S hgd m721 m722 m134 m723) rfl rfl rfl hd_J1_indexOf_4cfef.2 ⟨Nat.le_of_ble_eq_true rfl, Nat.le_of_ble_eq_true rfl⟩) (pre_S hW hB_G_9 hK hZ hS) rfl rfl hl.1 rfl (lv_room (Nat.le_of_ble_eq_true rfl)) dJ0_indexOf_7cf53_17 ⟨Nat.le_of_ble_eq_true rfl, Nat.le_of_ble_eq_true rfl⟩) hS (fun r_14 G_15 H locs hpo hW hS => ?_)
    have hX_18 : P_jLIdx_0 p0 p1 r_8 G_9 r_14 G_15 := hpo
    obtain ⟨hB_G_15, hq_16, -⟩ := hpo
    have hF := hF.call9 hq_16 rfl rfl
    refine lv_goto (tgt := 36) hx hb dJ0_indexOf_7cf53_20 rfl ?_
    exact W.iret (v := r_14) hx hb hr (fun t ht _ => ⟨⟨r_14, G_15, rfl, (P_jIdx2_0_mk ⟨hB_G_15, hF, ⟨r_1, G_2, hX_5, ⟨r_8, G_9, hX_12, ⟨r_14, G_15, hX_18, ⟨rfl, rfl⟩⟩⟩⟩⟩), wd_t ht hW⟩, hS.F ht⟩) hS.2.2 dJ0_indexOf_7cf53_36

set_option maxHeartbeats 4000000 in
set_option maxRecDepth 100000 in
theorem k_jIdx_0 (l : Launch) (D : va_G) (k : KT) (A : Nat → Prop) (a : Nat → Nat) (z : SK) (G : GS) (p0 : Int32)  : Met l yJ0_indexOf_0f7a4 (WS yJ0_indexOf_0f7a4 cJ0_indexOf_0f7a4 2 (some .int)) ({ frames := 3, cells := 0, slots := 0, locals := 70 }) (va_Pc [.ref (z.1 0), .int p0] (cW D k A a z G)) (va_Qi (fun (r : Int32) (G1 : GS) => P_jIdx_0 p0 G r G1) (fun (G1 : GS) t => Wd D k A a G1 t.heap) A) 0 0 A := by
  refine Met.ofW (cc := cJ0_indexOf_0f7a4) (maxL := 2) (ret := (some .int)) (by decide) rfl ?_
  intro p e s m args below meth c s₁ B hml hv
  obtain ⟨rfl, hW, hB_G, hK, hZ⟩ := hv
  have hx := B.exec
  have hb := B.bytes
  have hr := B.returns
  have hts := atoms_spec (ws := WS yJ0_indexOf_0f7a4 cJ0_indexOf_0f7a4 2 (some .int)) B.pre
  have hgd : ∀ w ∈ gd, w ∈ WS yJ0_indexOf_0f7a4 cJ0_indexOf_0f7a4 2 (some .int) := fun w h => List.mem_cons_of_mem _ h
  have hg : ∀ w ∈ gd, w.before _ s = true := fun w h => hts w (hgd w h)
  have hown : s.vm.findClass RJ0 = some m.cls := findClass_of_methodNamed B.named
  have hS : va_S A s.heap s.heap [] := va_S.rf
  have hF : Fr [] [] G G := Fr.rf
  have hl := lv_entry ([.ref (z.1 0), .int p0]) (n := 2) (Nat.le_of_ble_eq_true rfl)
  rw [lg_entry_eq]
  generalize (lg_sl ([.ref (z.1 0), .int p0]) ++ List.replicate (2 - (lg_sl ([.ref (z.1 0), .int p0])).length) Slot.unset).toArray = ls at hl ⊢
  have hl : lv_has ls 2 [(0, .ref (z.1 0)), (1, .int p0)] := hl
  refine lv_aload_n hx hb dJ0_indexOf_0f7a4_0 rfl (lv_at hl 0 rfl) ?_
  refine lv_iload_n hx hb dJ0_indexOf_0f7a4_1 rfl (lv_at hl 1 rfl) ?_
  refine ic_0 hx hb dJ0_indexOf_0f7a4_2 ?_
  refine S_calli (va_runV (As := [.int p0, .int 0]) (rest := []) ⟨hx, hb, hml, hown, hts⟩ (k_jIdx2_0 l D k A a z G p0 0 ⟨by decide, by decide⟩) (cwV 2 hts (gd_V hgd m716 m717 m718 m133 m719) rfl rfl rfl hd_J0_indexOf_7cf53 ⟨Nat.le_of_ble_eq_true rfl, Nat.le_of_ble_eq_true rfl⟩) (pre_VS hW hB_G hK hZ hS 0 (by decide)) rfl rfl hl.1 rfl (lv_room (Nat.le_of_ble_eq_true rfl)) dJ0_indexOf_0f7a4_3 ⟨Nat.le_of_ble_eq_true rfl, Nat.le_of_ble_eq_true rfl⟩) hS (fun r_1 G_2 H locs hpo hW hS => ?_)
  have hX_5 : P_jIdx2_0 p0 0 G r_1 G_2 := hpo
  obtain ⟨hB_G_2, hq_3, -⟩ := hpo
  have hF := hF.call9 hq_3 rfl rfl
  exact W.iret (v := r_1) hx hb hr (fun t ht _ => ⟨⟨r_1, G_2, rfl, (P_jIdx_0_mk ⟨hB_G_2, hF, ⟨r_1, G_2, hX_5, ⟨rfl, rfl⟩⟩⟩), wd_t ht hW⟩, hS.F ht⟩) hS.2.2 dJ0_indexOf_0f7a4_6

set_option maxHeartbeats 4000000 in
set_option maxRecDepth 100000 in
theorem k_jLat_1 (l : Launch) (D : va_G) (k : KT) (A : Nat → Prop) (a : Nat → Nat) (z : SK) (G : GS)   : Met l yJ0_isLatin1_aae02 (WS yJ0_isLatin1_aae02 cJ0_isLatin1_aae02 1 (some .boolean)) ({ frames := 0, cells := 0, slots := 0, locals := 0 }) (va_Pc [.ref (z.1 1)] (cW D k A a z G)) (va_Qi (fun (r : Int32) (G1 : GS) => P_jLat_1 G r G1) (fun (G1 : GS) t => Wd D k A a G1 t.heap) A) 0 0 A := by
  refine Met.ofW (cc := cJ0_isLatin1_aae02) (maxL := 1) (ret := (some .boolean)) (by decide) rfl ?_
  intro p e s m args below meth c s₁ B hml hv
  obtain ⟨rfl, hW, hB_G, hK, hZ⟩ := hv
  have hx := B.exec
  have hb := B.bytes
  have hr := B.returns
  have hts := atoms_spec (ws := WS yJ0_isLatin1_aae02 cJ0_isLatin1_aae02 1 (some .boolean)) B.pre
  have hgd : ∀ w ∈ gd, w ∈ WS yJ0_isLatin1_aae02 cJ0_isLatin1_aae02 1 (some .boolean) := fun w h => List.mem_cons_of_mem _ h
  have hg : ∀ w ∈ gd, w.before _ s = true := fun w h => hts w (hgd w h)
  have hown : s.vm.findClass RJ0 = some m.cls := findClass_of_methodNamed B.named
  have hS : va_S A s.heap s.heap [] := va_S.rf
  have hF : Fr [] [] G G := Fr.rf
  have hl := lv_entry ([.ref (z.1 1)]) (n := 1) (Nat.le_of_ble_eq_true rfl)
  rw [lg_entry_eq]
  generalize (lg_sl ([.ref (z.1 1)]) ++ List.replicate (1 - (lg_sl ([.ref (z.1 1)])).length) Slot.unset).toArray = ls at hl ⊢
  have hl : lv_has ls 1 [(0, .ref (z.1 1))] := hl
  refine va_gets hx hb hZ.2.2.2.1 hS hown (hg (Cond.fieldLink "java/lang/String" 38 "java/lang/String" "COMPACT_STRINGS" "Z") m663) (fun _ h9 => h9) dJ0_isLatin1_aae02_0 ?_
  refine lv_if_eq (tgt := 17) hx hb dJ0_isLatin1_aae02_3 rfl (fun c_1 => ?_) (fun c_1 => ?_)
  · have c_1 : (1 : Int) = (0 : Int) := xI_eq rfl rfl c_1
    exfalso; first | exact ok_68 c_1 | omega
  · have c_1 : (1 : Int) ≠ (0 : Int) := xI_ne rfl rfl c_1
    refine lv_aload_n hx hb dJ0_isLatin1_aae02_6 rfl (lv_at hl 0 rfl) ?_
    refine vk_getf hx hb (hZ.1.1 1 (by decide)).2.1 hS hown (hg (Cond.fieldLink "java/lang/String" 15 "java/lang/String" "coder" "B") m2082) (fun _ h9 => h9) dJ0_isLatin1_aae02_7 ?_
    refine lv_if_ne (tgt := 17) hx hb dJ0_isLatin1_aae02_10 rfl (fun c_2 => ?_) (fun c_2 => ?_)
    · have c_2 : (0 : Int) ≠ (0 : Int) := xI_ne rfl rfl c_2
      exfalso; first | exact ok_69 c_2 | omega
    · have c_2 : (0 : Int) = (0 : Int) := xI_eq rfl rfl c_2
      refine ic_1 hx hb dJ0_isLatin1_aae02_13 ?_
      refine lv_goto (tgt := 18) hx hb dJ0_isLatin1_aae02_14 rfl ?_
      exact W.zret (v := 1) hx hb hr (by decide) (fun t ht _ => ⟨⟨1, G, rfl, (P_jLat_1_mk ⟨hB_G, hF, ⟨by decide, by decide⟩, ⟨rfl, rfl⟩⟩), wd_t ht hW⟩, hS.F ht⟩) hS.2.2 dJ0_isLatin1_aae02_18

set_option maxHeartbeats 4000000 in
set_option maxRecDepth 100000 in
theorem k_jCoder_1 (l : Launch) (D : va_G) (k : KT) (A : Nat → Prop) (a : Nat → Nat) (z : SK) (G : GS)   : Met l yJ0_coder_7d493 (WS yJ0_coder_7d493 cJ0_coder_7d493 1 (some .byte)) ({ frames := 0, cells := 0, slots := 0, locals := 0 }) (va_Pc [.ref (z.1 1)] (cW D k A a z G)) (va_Qi (fun (r : Int32) (G1 : GS) => P_jCoder_1 G r G1) (fun (G1 : GS) t => Wd D k A a G1 t.heap) A) 0 0 A := by
  refine Met.ofW (cc := cJ0_coder_7d493) (maxL := 1) (ret := (some .byte)) (by decide) rfl ?_
  intro p e s m args below meth c s₁ B hml hv
  obtain ⟨rfl, hW, hB_G, hK, hZ⟩ := hv
  have hx := B.exec
  have hb := B.bytes
  have hr := B.returns
  have hts := atoms_spec (ws := WS yJ0_coder_7d493 cJ0_coder_7d493 1 (some .byte)) B.pre
  have hgd : ∀ w ∈ gd, w ∈ WS yJ0_coder_7d493 cJ0_coder_7d493 1 (some .byte) := fun w h => List.mem_cons_of_mem _ h
  have hg : ∀ w ∈ gd, w.before _ s = true := fun w h => hts w (hgd w h)
  have hown : s.vm.findClass RJ0 = some m.cls := findClass_of_methodNamed B.named
  have hS : va_S A s.heap s.heap [] := va_S.rf
  have hF : Fr [] [] G G := Fr.rf
  have hl := lv_entry ([.ref (z.1 1)]) (n := 1) (Nat.le_of_ble_eq_true rfl)
  rw [lg_entry_eq]
  generalize (lg_sl ([.ref (z.1 1)]) ++ List.replicate (1 - (lg_sl ([.ref (z.1 1)])).length) Slot.unset).toArray = ls at hl ⊢
  have hl : lv_has ls 1 [(0, .ref (z.1 1))] := hl
  refine va_gets hx hb hZ.2.2.2.1 hS hown (hg (Cond.fieldLink "java/lang/String" 38 "java/lang/String" "COMPACT_STRINGS" "Z") m663) (fun _ h9 => h9) dJ0_coder_7d493_0 ?_
  refine lv_if_eq (tgt := 13) hx hb dJ0_coder_7d493_3 rfl (fun c_1 => ?_) (fun c_1 => ?_)
  · have c_1 : (1 : Int) = (0 : Int) := xI_eq rfl rfl c_1
    exfalso; first | exact ok_68 c_1 | omega
  · have c_1 : (1 : Int) ≠ (0 : Int) := xI_ne rfl rfl c_1
    refine lv_aload_n hx hb dJ0_coder_7d493_6 rfl (lv_at hl 0 rfl) ?_
    refine vk_getf hx hb (hZ.1.1 1 (by decide)).2.1 hS hown (hg (Cond.fieldLink "java/lang/String" 15 "java/lang/String" "coder" "B") m2082) (fun _ h9 => h9) dJ0_coder_7d493_7 ?_
    refine lv_goto (tgt := 14) hx hb dJ0_coder_7d493_10 rfl ?_
    exact W.zret (v := 0) hx hb hr (by decide) (fun t ht _ => ⟨⟨0, G, rfl, (P_jCoder_1_mk ⟨hB_G, hF, ⟨by decide, by decide⟩, ⟨rfl, rfl⟩⟩), wd_t ht hW⟩, hS.F ht⟩) hS.2.2 dJ0_coder_7d493_14

set_option maxHeartbeats 4000000 in
set_option maxRecDepth 100000 in
theorem k_jLen_1 (l : Launch) (D : va_G) (k : KT) (A : Nat → Prop) (a : Nat → Nat) (z : SK) (G : GS)   : Met l yJ0_length_8abf5 (WS yJ0_length_8abf5 cJ0_length_8abf5 1 (some .int)) ({ frames := 1, cells := 0, slots := 0, locals := 20 }) (va_Pc [.ref (z.1 1)] (cW D k A a z G)) (va_Qi (fun (r : Int32) (G1 : GS) => P_jLen_1 G r G1) (fun (G1 : GS) t => Wd D k A a G1 t.heap) A) 0 0 A := by
  refine Met.ofW (cc := cJ0_length_8abf5) (maxL := 1) (ret := (some .int)) (by decide) rfl ?_
  intro p e s m args below meth c s₁ B hml hv
  obtain ⟨rfl, hW, hB_G, hK, hZ⟩ := hv
  have hx := B.exec
  have hb := B.bytes
  have hr := B.returns
  have hts := atoms_spec (ws := WS yJ0_length_8abf5 cJ0_length_8abf5 1 (some .int)) B.pre
  have hgd : ∀ w ∈ gd, w ∈ WS yJ0_length_8abf5 cJ0_length_8abf5 1 (some .int) := fun w h => List.mem_cons_of_mem _ h
  have hg : ∀ w ∈ gd, w.before _ s = true := fun w h => hts w (hgd w h)
  have hown : s.vm.findClass RJ0 = some m.cls := findClass_of_methodNamed B.named
  have hS : va_S A s.heap s.heap [] := va_S.rf
  have hF : Fr [] [] G G := Fr.rf
  have hl := lv_entry ([.ref (z.1 1)]) (n := 1) (Nat.le_of_ble_eq_true rfl)
  rw [lg_entry_eq]
  generalize (lg_sl ([.ref (z.1 1)]) ++ List.replicate (1 - (lg_sl ([.ref (z.1 1)])).length) Slot.unset).toArray = ls at hl ⊢
  have hl : lv_has ls 1 [(0, .ref (z.1 1))] := hl
  refine lv_aload_n hx hb dJ0_length_8abf5_0 rfl (lv_at hl 0 rfl) ?_
  refine vk_getf hx hb (hZ.1.1 1 (by decide)).2.2.1 hS hown (hg (Cond.fieldLink "java/lang/String" 9 "java/lang/String" "value" "[B") m2081) (fun _ h9 => h9) dJ0_length_8abf5_1 ?_
  refine va_tlen (v := 11) hx hb (hZ.1.1 1 (by decide)).2.2.2 hS rfl dJ0_length_8abf5_4 ?_
  refine lv_aload_n hx hb dJ0_length_8abf5_5 rfl (lv_at hl 0 rfl) ?_
  refine S_calli (va_runV (As := []) (rest := [.int 11]) ⟨hx, hb, hml, hown, hts⟩ (k_jCoder_1 l D k A a z G  ) (cwV 0 hts (gd_V hgd m659 m660 m661 m133 m662) rfl rfl rfl hd_J0_coder_7d493 ⟨Nat.le_of_ble_eq_true rfl, Nat.le_of_ble_eq_true rfl⟩) (pre_VS hW hB_G hK hZ hS 1 (by decide)) rfl rfl hl.1 rfl (lv_room (Nat.le_of_ble_eq_true rfl)) dJ0_length_8abf5_6 ⟨Nat.le_of_ble_eq_true rfl, Nat.le_of_ble_eq_true rfl⟩) hS (fun r_1 G_2 H locs hpo hW hS => ?_)
  have hX_5 : P_jCoder_1 G r_1 G_2 := hpo
  obtain ⟨hB_G_2, hq_3, f_6, -⟩ := hpo
  have hF := hF.call9 hq_3 rfl rfl
  refine lv_ishr hx hb dJ0_length_8abf5_9 ?_
  refine lv_topi (fun y_7 ey_7 => ?_)
  have ty_7 : y_7.toInt = 11 := sh0 ey_7 (by omega) rfl
  exact W.iret (v := y_7) hx hb hr (fun t ht _ => ⟨⟨y_7, G_2, rfl, (P_jLen_1_mk ⟨hB_G_2, hF, ⟨(by first | exact ok_85 ty_7 | omega), (by first | exact ok_86 ty_7 | omega)⟩, ⟨r_1, G_2, hX_5, ⟨y_7, ey_7, ⟨rfl, rfl⟩⟩⟩⟩), wd_t ht hW⟩, hS.F ht⟩) hS.2.2 dJ0_length_8abf5_10

set_option maxHeartbeats 4000000 in
set_option maxRecDepth 100000 in
theorem k_jLCharAt_1 (l : Launch) (D : va_G) (k : KT) (A : Nat → Prop) (a : Nat → Nat) (z : SK) (G : GS) (p0 : Int32) (ha_p0 : 0 ≤ p0.toInt ∧ p0.toInt ≤ 10) : Met l yJ1_charAt_3b067 (WS yJ1_charAt_3b067 cJ1_charAt_3b067 2 (some .char)) ({ frames := 2, cells := 0, slots := 0, locals := 43 }) (va_Pc [.ref (z.2 1), .int p0] (cW D k A a z G)) (va_Qi (fun (r : Int32) (G1 : GS) => P_jLCharAt_1 p0 G r G1) (fun (G1 : GS) t => Wd D k A a G1 t.heap) A) 0 0 A := by
  refine Met.ofW (cc := cJ1_charAt_3b067) (maxL := 2) (ret := (some .char)) (by decide) rfl ?_
  intro p e s m args below meth c s₁ B hml hv
  obtain ⟨rfl, hW, hB_G, hK, hZ⟩ := hv
  have hx := B.exec
  have hb := B.bytes
  have hr := B.returns
  have hts := atoms_spec (ws := WS yJ1_charAt_3b067 cJ1_charAt_3b067 2 (some .char)) B.pre
  have hgd : ∀ w ∈ gd, w ∈ WS yJ1_charAt_3b067 cJ1_charAt_3b067 2 (some .char) := fun w h => List.mem_cons_of_mem _ h
  have hg : ∀ w ∈ gd, w.before _ s = true := fun w h => hts w (hgd w h)
  have hown : s.vm.findClass RJ1 = some m.cls := findClass_of_methodNamed B.named
  have hS : va_S A s.heap s.heap [] := va_S.rf
  have hF : Fr [] [] G G := Fr.rf
  have hl := lv_entry ([.ref (z.2 1), .int p0]) (n := 2) (Nat.le_of_ble_eq_true rfl)
  rw [lg_entry_eq]
  generalize (lg_sl ([.ref (z.2 1), .int p0]) ++ List.replicate (2 - (lg_sl ([.ref (z.2 1), .int p0])).length) Slot.unset).toArray = ls at hl ⊢
  have hl : lv_has ls 2 [(0, .ref (z.2 1)), (1, .int p0)] := hl
  refine lv_iload_n hx hb dJ1_charAt_3b067_0 rfl (lv_at hl 1 rfl) ?_
  refine lv_aload_n hx hb dJ1_charAt_3b067_1 rfl (lv_at hl 0 rfl) ?_
  refine va_tlen (v := 11) hx hb (hZ.1.1 1 (by decide)).2.2.2 hS rfl dJ1_charAt_3b067_2 ?_
  have qc_1 : (11 : Int32).toInt = 11 := rfl
  refine S_callv (va_runS (As := [.int p0, .int 11]) (rest := []) ⟨hx, hb, hml, hown, hts⟩ (k_jCheck l D k A a z G p0 11 ((by first | exact ⟨(by first | exact ha_p0.1 | omega), (by first | exact ok_87 ha_p0.2 qc_1 | omega)⟩ | omega))) (va_cwS 2 hts (gd_S hgd m676 m677 m133 m678) rfl rfl rfl hd_J0_checkIndex_df160.2 ⟨Nat.le_of_ble_eq_true rfl, Nat.le_of_ble_eq_true rfl⟩) (pre_S hW hB_G hK hZ hS) rfl rfl hl.1 rfl (lv_room (Nat.le_of_ble_eq_true rfl)) dJ1_charAt_3b067_3 ⟨Nat.le_of_ble_eq_true rfl, Nat.le_of_ble_eq_true rfl⟩) hS (fun G_3 H locs hpo hW hS => ?_)
  obtain ⟨hB_G_3, hq_4⟩ := hpo
  have hF := hF.call9 hq_4 rfl rfl
  refine lv_aload_n hx hb dJ1_charAt_3b067_6 rfl (lv_at hl 0 rfl) ?_
  refine lv_iload_n hx hb dJ1_charAt_3b067_7 rfl (lv_at hl 1 rfl) ?_
  refine va_tb hx hb (hZ.1.1 1 (by decide)).2.2.2 hS (vin (n := 11) ((by first | exact ha_p0.1 | omega)) ((by first | exact ok_88 ha_p0.2 | omega))) rfl dJ1_charAt_3b067_8 ?_
  refine lv_topi (fun y_7 ey_7 => ?_)
  refine lv_sipush (v := 255) hx hb dJ1_charAt_3b067_9 (by decide) ?_
  refine lv_iand hx hb dJ1_charAt_3b067_12 ?_
  refine lv_topi (fun y_8 ey_8 => ?_)
  have ty_8 := xI_and (Y := 255) rfl ey_8 (by decide)
  refine lv_i2c hx hb dJ1_charAt_3b067_13 rfl ?_
  refine lv_topi (fun y_9 ey_9 => ?_)
  have ty_9 := i2c_ok ey_9 (by omega) (by omega)
  exact W.zret (v := y_9) hx hb hr (nar_c (by omega) (by omega)) (fun t ht _ => ⟨⟨y_9, G_3, rfl, (P_jLCharAt_1_mk ⟨hB_G_3, hF, ⟨by omega, by omega⟩, ⟨G_3, hB_G_3, hq_4, ⟨y_7, ey_7, ⟨y_8, ey_8, ⟨y_9, ey_9, ⟨rfl, rfl⟩⟩⟩⟩⟩⟩), wd_t ht hW⟩, hS.F ht⟩) hS.2.2 dJ1_charAt_3b067_14

set_option maxHeartbeats 4000000 in
set_option maxRecDepth 100000 in
theorem k_jCharAt_1 (l : Launch) (D : va_G) (k : KT) (A : Nat → Prop) (a : Nat → Nat) (z : SK) (G : GS) (p0 : Int32) (ha_p0 : 0 ≤ p0.toInt ∧ p0.toInt ≤ 10) : Met l yJ0_charAt_5068e (WS yJ0_charAt_5068e cJ0_charAt_5068e 2 (some .char)) ({ frames := 3, cells := 0, slots := 0, locals := 64 }) (va_Pc [.ref (z.1 1), .int p0] (cW D k A a z G)) (va_Qi (fun (r : Int32) (G1 : GS) => P_jCharAt_1 p0 G r G1) (fun (G1 : GS) t => Wd D k A a G1 t.heap) A) 0 0 A := by
  refine Met.ofW (cc := cJ0_charAt_5068e) (maxL := 2) (ret := (some .char)) (by decide) rfl ?_
  intro p e s m args below meth c s₁ B hml hv
  obtain ⟨rfl, hW, hB_G, hK, hZ⟩ := hv
  have hx := B.exec
  have hb := B.bytes
  have hr := B.returns
  have hts := atoms_spec (ws := WS yJ0_charAt_5068e cJ0_charAt_5068e 2 (some .char)) B.pre
  have hgd : ∀ w ∈ gd, w ∈ WS yJ0_charAt_5068e cJ0_charAt_5068e 2 (some .char) := fun w h => List.mem_cons_of_mem _ h
  have hg : ∀ w ∈ gd, w.before _ s = true := fun w h => hts w (hgd w h)
  have hown : s.vm.findClass RJ0 = some m.cls := findClass_of_methodNamed B.named
  have hS : va_S A s.heap s.heap [] := va_S.rf
  have hF : Fr [] [] G G := Fr.rf
  have hl := lv_entry ([.ref (z.1 1), .int p0]) (n := 2) (Nat.le_of_ble_eq_true rfl)
  rw [lg_entry_eq]
  generalize (lg_sl ([.ref (z.1 1), .int p0]) ++ List.replicate (2 - (lg_sl ([.ref (z.1 1), .int p0])).length) Slot.unset).toArray = ls at hl ⊢
  have hl : lv_has ls 2 [(0, .ref (z.1 1)), (1, .int p0)] := hl
  refine lv_aload_n hx hb dJ0_charAt_5068e_0 rfl (lv_at hl 0 rfl) ?_
  refine S_calli (va_runV (As := []) (rest := []) ⟨hx, hb, hml, hown, hts⟩ (k_jLat_1 l D k A a z G  ) (cwV 0 hts (gd_V hgd m669 m670 m671 m133 m672) rfl rfl rfl hd_J0_isLatin1_aae02 ⟨Nat.le_of_ble_eq_true rfl, Nat.le_of_ble_eq_true rfl⟩) (pre_VS hW hB_G hK hZ hS 1 (by decide)) rfl rfl hl.1 rfl (lv_room (Nat.le_of_ble_eq_true rfl)) dJ0_charAt_5068e_1 ⟨Nat.le_of_ble_eq_true rfl, Nat.le_of_ble_eq_true rfl⟩) hS (fun r_1 G_2 H locs hpo hW hS => ?_)
  have hX_5 : P_jLat_1 G r_1 G_2 := hpo
  obtain ⟨hB_G_2, hq_3, f_6, -⟩ := hpo
  have hF := hF.call9 hq_3 rfl rfl
  refine lv_if_eq (tgt := 16) hx hb dJ0_charAt_5068e_4 rfl (fun c_7 => ?_) (fun c_7 => ?_)
  · have c_7 : r_1.toInt = 0 := xI_eq rfl rfl c_7
    exfalso; first | exact ok_74 f_6.1 c_7 | omega
  · have c_7 : r_1.toInt ≠ 0 := xI_ne rfl rfl c_7
    refine lv_aload_n hx hb dJ0_charAt_5068e_7 rfl (lv_at hl 0 rfl) ?_
    refine vk_getf hx hb (hZ.1.1 1 (by decide)).2.2.1 hS hown (hg (Cond.fieldLink "java/lang/String" 9 "java/lang/String" "value" "[B") m2081) (fun _ h9 => h9) dJ0_charAt_5068e_8 ?_
    refine lv_iload_n hx hb dJ0_charAt_5068e_11 rfl (lv_at hl 1 rfl) ?_
    refine S_calli (va_runS (As := [.ref (z.2 1), .int p0]) (rest := []) ⟨hx, hb, hml, hown, hts⟩ (k_jLCharAt_1 l D k A a z G_2 p0 ⟨(by first | exact ha_p0.1 | omega), (by first | exact ha_p0.2 | omega)⟩) (va_cwS 2 hts (gd_S hgd m673 m674 m134 m675) rfl rfl rfl hd_J1_charAt_3b067.2 ⟨Nat.le_of_ble_eq_true rfl, Nat.le_of_ble_eq_true rfl⟩) (pre_S hW hB_G_2 hK hZ hS) rfl rfl hl.1 rfl (lv_room (Nat.le_of_ble_eq_true rfl)) dJ0_charAt_5068e_12 ⟨Nat.le_of_ble_eq_true rfl, Nat.le_of_ble_eq_true rfl⟩) hS (fun r_8 G_9 H locs hpo hW hS => ?_)
    have hX_12 : P_jLCharAt_1 p0 G_2 r_8 G_9 := hpo
    obtain ⟨hB_G_9, hq_10, f_13, -⟩ := hpo
    have hF := hF.call9 hq_10 rfl rfl
    exact W.zret (v := r_8) hx hb hr (nar_c (by omega) (by omega)) (fun t ht _ => ⟨⟨r_8, G_9, rfl, (P_jCharAt_1_mk ⟨hB_G_9, hF, ⟨(by first | exact f_13.1 | omega), (by first | exact f_13.2 | omega)⟩, ⟨r_1, G_2, hX_5, ⟨r_8, G_9, hX_12, ⟨rfl, rfl⟩⟩⟩⟩), wd_t ht hW⟩, hS.F ht⟩) hS.2.2 dJ0_charAt_5068e_15

set_option maxHeartbeats 4000000 in
set_option maxRecDepth 100000 in
theorem k_jLIdxC_1 (l : Launch) (D : va_G) (k : KT) (A : Nat → Prop) (a : Nat → Nat) (z : SK) (G : GS) (p0 : Int32) (p1 : Int32) (p2 : Int32) (ha_p1 : 0 ≤ p1.toInt ∧ p1.toInt ≤ 0) (ha_p2 : 11 ≤ p2.toInt ∧ p2.toInt ≤ 11) : Met l yJ1_indexOfChar_4cfef (WS yJ1_indexOfChar_4cfef cJ1_indexOfChar_4cfef 6 (some .int)) ({ frames := 0, cells := 0, slots := 0, locals := 0 }) (va_Pc [.ref (z.2 1), .int p0, .int p1, .int p2] (cW D k A a z G)) (va_Qi (fun (r : Int32) (G1 : GS) => P_jLIdxC_1 p0 p1 p2 G r G1) (fun (G1 : GS) t => Wd D k A a G1 t.heap) A) 0 0 A := by
  refine Met.ofW (cc := cJ1_indexOfChar_4cfef) (maxL := 6) (ret := (some .int)) (by decide) rfl ?_
  intro p e s m args below meth c s₁ B hml hv
  obtain ⟨rfl, hW, hB_G, hK, hZ⟩ := hv
  have hx := B.exec
  have hb := B.bytes
  have hr := B.returns
  have hts := atoms_spec (ws := WS yJ1_indexOfChar_4cfef cJ1_indexOfChar_4cfef 6 (some .int)) B.pre
  have hgd : ∀ w ∈ gd, w ∈ WS yJ1_indexOfChar_4cfef cJ1_indexOfChar_4cfef 6 (some .int) := fun w h => List.mem_cons_of_mem _ h
  have hg : ∀ w ∈ gd, w.before _ s = true := fun w h => hts w (hgd w h)
  have hown : s.vm.findClass RJ1 = some m.cls := findClass_of_methodNamed B.named
  have hS : va_S A s.heap s.heap [] := va_S.rf
  have hF : Fr [] [] G G := Fr.rf
  have hl := lv_entry ([.ref (z.2 1), .int p0, .int p1, .int p2]) (n := 6) (Nat.le_of_ble_eq_true rfl)
  rw [lg_entry_eq]
  generalize (lg_sl ([.ref (z.2 1), .int p0, .int p1, .int p2]) ++ List.replicate (6 - (lg_sl ([.ref (z.2 1), .int p0, .int p1, .int p2])).length) Slot.unset).toArray = ls at hl ⊢
  have hl : lv_has ls 6 [(0, .ref (z.2 1)), (1, .int p0), (2, .int p1), (3, .int p2)] := hl
  refine lv_iload_n hx hb dJ1_indexOfChar_4cfef_0 rfl (lv_at hl 1 rfl) ?_
  refine lv_i2b hx hb dJ1_indexOfChar_4cfef_1 rfl ?_
  refine lv_topi (fun y_1 ey_1 => ?_)
  refine lv_istore (lv' := [(4, .int y_1), (0, .ref (z.2 1)), (1, .int p0), (2, .int p1), (3, .int p2)]) hx hb dJ1_indexOfChar_4cfef_2 hl (lt_b rfl) rfl (fun ls hl => ?_)
  refine lv_iload_n hx hb dJ1_indexOfChar_4cfef_4 rfl (lv_at hl 3 rfl) ?_
  refine lv_istore (lv' := [(5, .int p1), (4, .int y_1), (0, .ref (z.2 1)), (1, .int p0), (2, .int p1), (3, .int p2)]) hx hb dJ1_indexOfChar_4cfef_5 hl (lt_b rfl) rfl (fun ls hl => ?_)
  refine loop_N (Inv := fun n H locs ls => ∃ (G_2 : GS) (x_6 : Int32), (n : Int) = 11 - x_6.toInt ∧ (0 ≤ x_6.toInt ∧ x_6.toInt ≤ 11) ∧ Rc (St_k_jLIdxC_1_1 p2 y_1) (p1, G) (x_6, G_2) ∧ Wd D k A a G_2 H ∧ Bd G_2 ∧ Fr [] [] G G_2 ∧ Fr [] [] G G_2 ∧ va_S A s.heap H locs ∧ lv_has ls 6 [(5, .int x_6), (4, .int y_1), (0, .ref (z.2 1)), (3, .int p2)]) (fun n_5 H locs ls ih_4 hI => ?_) (11 - p1.toInt : Int).toNat ⟨G, p1, (Int.toNat_of_nonneg ((by first | exact ok_89 ha_p1.2 | omega))), ⟨(by first | exact ha_p1.1 | omega), (by first | exact ok_90 ha_p1.2 | omega)⟩, Rc.rf, hW, hB_G, hF, Fr.rf, hS, lv_sub hl [0, 1, 2, 5] rfl⟩
  obtain ⟨G_2, x_6, hn_9, f_8, hX_7, hW, hB_G_2, hF, hq_3, hS, hl⟩ := hI
  refine lv_iload hx hb dJ1_indexOfChar_4cfef_7 (lv_at hl 0 rfl) ?_
  refine lv_iload_n hx hb dJ1_indexOfChar_4cfef_9 rfl (lv_at hl 3 rfl) ?_
  refine lv_icmp_ge (tgt := 31) hx hb dJ1_indexOfChar_4cfef_10 rfl (fun c_10 => ?_) (fun c_10 => ?_)
  · have c_10 : p2.toInt ≤ x_6.toInt := xI_le rfl rfl c_10
    refine ic_m1 hx hb dJ1_indexOfChar_4cfef_31 ?_
    exact W.iret (v := (-1)) hx hb hr (fun t ht _ => ⟨⟨(-1), G_2, rfl, (P_jLIdxC_1_mk ⟨hB_G_2, hF, ⟨y_1, ey_1, ⟨x_6, G_2, hX_7, f_8, hB_G_2, hq_3, (Or.inl ⟨c_10, ⟨rfl, rfl⟩⟩)⟩⟩⟩), wd_t ht hW⟩, hS.F ht⟩) hS.2.2 dJ1_indexOfChar_4cfef_32
  · have c_10 : x_6.toInt < p2.toInt := xI_nle rfl rfl c_10
    refine lv_aload_n hx hb dJ1_indexOfChar_4cfef_13 rfl (lv_at hl 2 rfl) ?_
    refine lv_iload hx hb dJ1_indexOfChar_4cfef_14 (lv_at hl 0 rfl) ?_
    refine va_tb hx hb (hZ.1.1 1 (by decide)).2.2.2 hS (vin (n := 11) ((by first | exact f_8.1 | omega)) ((by first | exact ok_91 ha_p2.2 f_8.2 c_10 | omega))) rfl dJ1_indexOfChar_4cfef_16 ?_
    refine lv_topi (fun y_12 ey_12 => ?_)
    refine lv_iload hx hb dJ1_indexOfChar_4cfef_17 (lv_at hl 1 rfl) ?_
    refine lv_icmp_ne (tgt := 25) hx hb dJ1_indexOfChar_4cfef_19 rfl (fun c_13 => ?_) (fun c_13 => ?_)
    · have c_13 : y_12.toInt ≠ y_1.toInt := xI_ne rfl rfl c_13
      obtain ⟨y_14, ey_14⟩ : ∃ q, q = x_6 + 1 := ⟨_, rfl⟩
      have ty_14 : y_14.toInt = x_6.toInt + 1 := xI_add rfl rfl ey_14 ((by first | exact ok_21 f_8.1 | omega)) ((by first | exact ok_92 f_8.2 | omega))
      refine lv_iinc (v := y_14) (lv' := [(5, .int y_14), (4, .int y_1), (0, .ref (z.2 1)), (3, .int p2)]) hx hb dJ1_indexOfChar_4cfef_25 hl (k := 0) rfl (by rw [ey_14]; rfl) (lt_b rfl) rfl (fun ls hl => ?_)
      refine lv_goto (tgt := 7) hx hb dJ1_indexOfChar_4cfef_28 rfl ?_
      exact ih_4 (11 - y_14.toInt : Int).toNat (by omega) _ _ _ ⟨G_2, y_14, (Int.toNat_of_nonneg ((by first | exact ok_93 ha_p2.2 f_8.2 c_10 ty_14 | omega))), ⟨(by first | exact ok_23 f_8.1 ty_14 | omega), (by first | exact ok_94 ha_p2.2 f_8.2 c_10 ty_14 | omega)⟩, (hX_7.st (St_k_jLIdxC_1_1_mk ⟨x_6, G_2, y_14, G_2, rfl, rfl, f_8, hB_G_2, ⟨c_10, ⟨y_12, ey_12, ⟨c_13, ⟨y_14, ty_14, ⟨rfl, rfl⟩⟩⟩⟩⟩⟩)), hW, hB_G_2, hF, (Fr.call9 (rs := []) (fs := []) Fr.rf hq_3 rfl rfl), hS, lv_sub hl [0, 1, 2, 3] rfl⟩
    · have c_13 : y_12.toInt = y_1.toInt := xI_eq rfl rfl c_13
      refine lv_iload hx hb dJ1_indexOfChar_4cfef_22 (lv_at hl 0 rfl) ?_
      exact W.iret (v := x_6) hx hb hr (fun t ht _ => ⟨⟨x_6, G_2, rfl, (P_jLIdxC_1_mk ⟨hB_G_2, hF, ⟨y_1, ey_1, ⟨x_6, G_2, hX_7, f_8, hB_G_2, hq_3, (Or.inr ⟨c_10, ⟨y_12, ey_12, ⟨c_13, ⟨rfl, rfl⟩⟩⟩⟩)⟩⟩⟩), wd_t ht hW⟩, hS.F ht⟩) hS.2.2 dJ1_indexOfChar_4cfef_24

set_option maxHeartbeats 4000000 in
set_option maxRecDepth 100000 in
theorem k_jLIdx_1 (l : Launch) (D : va_G) (k : KT) (A : Nat → Prop) (a : Nat → Nat) (z : SK) (G : GS) (p0 : Int32) (p1 : Int32) (p2 : Int32) (ha_p1 : 0 ≤ p1.toInt ∧ p1.toInt ≤ 0) (ha_p2 : 11 ≤ p2.toInt ∧ p2.toInt ≤ 11) : Met l yJ1_indexOf_4cfef (WS yJ1_indexOf_4cfef cJ1_indexOf_4cfef 4 (some .int)) ({ frames := 1, cells := 0, slots := 0, locals := 25 }) (va_Pc [.ref (z.2 1), .int p0, .int p1, .int p2] (cW D k A a z G)) (va_Qi (fun (r : Int32) (G1 : GS) => P_jLIdx_1 p0 p1 p2 G r G1) (fun (G1 : GS) t => Wd D k A a G1 t.heap) A) 0 0 A := by
  refine Met.ofW (cc := cJ1_indexOf_4cfef) (maxL := 4) (ret := (some .int)) (by decide) rfl ?_
  intro p e s m args below meth c s₁ B hml hv
  obtain ⟨rfl, hW, hB_G, hK, hZ⟩ := hv
  have hx := B.exec
  have hb := B.bytes
  have hr := B.returns
  have hts := atoms_spec (ws := WS yJ1_indexOf_4cfef cJ1_indexOf_4cfef 4 (some .int)) B.pre
  have hgd : ∀ w ∈ gd, w ∈ WS yJ1_indexOf_4cfef cJ1_indexOf_4cfef 4 (some .int) := fun w h => List.mem_cons_of_mem _ h
  have hg : ∀ w ∈ gd, w.before _ s = true := fun w h => hts w (hgd w h)
  have hown : s.vm.findClass RJ1 = some m.cls := findClass_of_methodNamed B.named
  have hS : va_S A s.heap s.heap [] := va_S.rf
  have hF : Fr [] [] G G := Fr.rf
  have hl := lv_entry ([.ref (z.2 1), .int p0, .int p1, .int p2]) (n := 4) (Nat.le_of_ble_eq_true rfl)
  rw [lg_entry_eq]
  generalize (lg_sl ([.ref (z.2 1), .int p0, .int p1, .int p2]) ++ List.replicate (4 - (lg_sl ([.ref (z.2 1), .int p0, .int p1, .int p2])).length) Slot.unset).toArray = ls at hl ⊢
  have hl : lv_has ls 4 [(0, .ref (z.2 1)), (1, .int p0), (2, .int p1), (3, .int p2)] := hl
  refine lv_iload_n hx hb dJ1_indexOf_4cfef_0 rfl (lv_at hl 1 rfl) ?_
  refine S_calli (va_runS (As := [.int p0]) (rest := []) ⟨hx, hb, hml, hown, hts⟩ (k_jCan l D k A a z G p0 ) (va_cwS 1 hts (gd_S hgd m724 m725 m134 m726) rfl rfl rfl hd_J1_canEncode_9a6ad.2 ⟨Nat.le_of_ble_eq_true rfl, Nat.le_of_ble_eq_true rfl⟩) (pre_S hW hB_G hK hZ hS) rfl rfl hl.1 rfl (lv_room (Nat.le_of_ble_eq_true rfl)) dJ1_indexOf_4cfef_1 ⟨Nat.le_of_ble_eq_true rfl, Nat.le_of_ble_eq_true rfl⟩) hS (fun r_1 G_2 H locs hpo hW hS => ?_)
  have hX_5 : P_jCan p0 G r_1 G_2 := hpo
  obtain ⟨hB_G_2, hq_3, f_6, -⟩ := hpo
  have hF := hF.call9 hq_3 rfl rfl
  refine lv_if_ne (tgt := 9) hx hb dJ1_indexOf_4cfef_4 rfl (fun c_7 => ?_) (fun c_7 => ?_)
  · have c_7 : r_1.toInt ≠ 0 := xI_ne rfl rfl c_7
    refine lv_iload_n hx hb dJ1_indexOf_4cfef_9 rfl (lv_at hl 2 rfl) ?_
    refine ic_0 hx hb dJ1_indexOf_4cfef_10 ?_
    refine va_mmax hx hb (by rw [hml]; exact hl.1.symm) hown (hg (Cond.methodLink "java/lang/StringLatin1" 92 Lib.Math.max.name) m727) (hg (Cond.static Lib.Math.max.name) m728) (hg (Cond.initialized "java/lang/Math") m132) (hg (Cond.code Lib.Math.max.name Lib.Math.max.code 2 (some .int)) m729) (Nat.le_of_ble_eq_true rfl) (Nat.le_of_ble_eq_true rfl) (Nat.le_of_ble_eq_true rfl) (Nat.le_of_ble_eq_true rfl) dJ1_indexOf_4cfef_11 ?_
    refine lv_topi (fun y_8 ey_8 => ?_)
    have ty_8 := xI_max (X := p1.toInt) (Y := 0) rfl rfl ey_8
    refine lv_istore_n (lv' := [(2, .int y_8), (0, .ref (z.2 1)), (1, .int p0), (3, .int p2)]) hx hb dJ1_indexOf_4cfef_14 rfl hl (lt_b rfl) rfl (fun ls hl => ?_)
    refine lv_iload_n hx hb dJ1_indexOf_4cfef_15 rfl (lv_at hl 3 rfl) ?_
    refine lv_aload_n hx hb dJ1_indexOf_4cfef_16 rfl (lv_at hl 1 rfl) ?_
    refine va_tlen (v := 11) hx hb (hZ.1.1 1 (by decide)).2.2.2 hS rfl dJ1_indexOf_4cfef_17 ?_
    refine va_mmin hx hb (by rw [hml]; exact hl.1.symm) hown (hg (Cond.methodLink "java/lang/StringLatin1" 38 Lib.Math.min.name) m730) (hg (Cond.static Lib.Math.min.name) m636) (hg (Cond.initialized "java/lang/Math") m132) (hg (Cond.code Lib.Math.min.name Lib.Math.min.code 2 (some .int)) m637) (Nat.le_of_ble_eq_true rfl) (Nat.le_of_ble_eq_true rfl) (Nat.le_of_ble_eq_true rfl) (Nat.le_of_ble_eq_true rfl) dJ1_indexOf_4cfef_18 ?_
    refine lv_topi (fun y_9 ey_9 => ?_)
    have ty_9 := xI_min (X := p2.toInt) (Y := 11) rfl rfl ey_9
    refine lv_istore_n (lv' := [(3, .int y_9), (2, .int y_8), (0, .ref (z.2 1)), (1, .int p0)]) hx hb dJ1_indexOf_4cfef_21 rfl hl (lt_b rfl) rfl (fun ls hl => ?_)
    refine lv_iload_n hx hb dJ1_indexOf_4cfef_22 rfl (lv_at hl 1 rfl) ?_
    refine lv_iload_n hx hb dJ1_indexOf_4cfef_23 rfl (lv_at hl 0 rfl) ?_
    refine lv_icmp_lt (tgt := 29) hx hb dJ1_indexOf_4cfef_24 rfl (fun c_10 => ?_) (fun c_10 => ?_)
    · have c_10 : y_8.toInt < y_9.toInt := xI_lt rfl rfl c_10
      refine lv_aload_n hx hb dJ1_indexOf_4cfef_29 rfl (lv_at hl 2 rfl) ?_
      refine lv_iload_n hx hb dJ1_indexOf_4cfef_30 rfl (lv_at hl 3 rfl) ?_
      refine lv_iload_n hx hb dJ1_indexOf_4cfef_31 rfl (lv_at hl 1 rfl) ?_
      refine lv_iload_n hx hb dJ1_indexOf_4cfef_32 rfl (lv_at hl 0 rfl) ?_
      refine S_calli (va_runS (As := [.ref (z.2 1), .int p0, .int y_8, .int y_9]) (rest := []) ⟨hx, hb, hml, hown, hts⟩ (k_jLIdxC_1 l D k A a z G_2 p0 y_8 y_9 ⟨(by first | exact ok_81 ha_p1.1 ty_8 | omega), (by first | exact ok_82 ha_p1.2 ty_8 | omega)⟩ ⟨(by first | exact ok_95 ha_p2.1 ty_9 | omega), (by first | exact ok_96 ha_p2.2 ty_9 | omega)⟩) (va_cwS 4 hts (gd_S hgd m731 m732 m134 m733) rfl rfl rfl hd_J1_indexOfChar_4cfef.2 ⟨Nat.le_of_ble_eq_true rfl, Nat.le_of_ble_eq_true rfl⟩) (pre_S hW hB_G_2 hK hZ hS) rfl rfl hl.1 rfl (lv_room (Nat.le_of_ble_eq_true rfl)) dJ1_indexOf_4cfef_33 ⟨Nat.le_of_ble_eq_true rfl, Nat.le_of_ble_eq_true rfl⟩) hS (fun r_11 G_12 H locs hpo hW hS => ?_)
      have hX_15 : P_jLIdxC_1 p0 y_8 y_9 G_2 r_11 G_12 := hpo
      obtain ⟨hB_G_12, hq_13, -⟩ := hpo
      have hF := hF.call9 hq_13 rfl rfl
      exact W.iret (v := r_11) hx hb hr (fun t ht _ => ⟨⟨r_11, G_12, rfl, (P_jLIdx_1_mk ⟨hB_G_12, hF, ⟨r_1, G_2, hX_5, (Or.inr ⟨c_7, ⟨y_8, ty_8, ⟨y_9, ty_9, ⟨r_11, G_12, hX_15, ⟨rfl, rfl⟩⟩⟩⟩⟩)⟩⟩), wd_t ht hW⟩, hS.F ht⟩) hS.2.2 dJ1_indexOf_4cfef_36
    · have c_10 : y_9.toInt ≤ y_8.toInt := xI_nlt rfl rfl c_10
      exfalso; omega
  · have c_7 : r_1.toInt = 0 := xI_eq rfl rfl c_7
    refine ic_m1 hx hb dJ1_indexOf_4cfef_7 ?_
    exact W.iret (v := (-1)) hx hb hr (fun t ht _ => ⟨⟨(-1), G_2, rfl, (P_jLIdx_1_mk ⟨hB_G_2, hF, ⟨r_1, G_2, hX_5, (Or.inl ⟨c_7, ⟨rfl, rfl⟩⟩)⟩⟩), wd_t ht hW⟩, hS.F ht⟩) hS.2.2 dJ1_indexOf_4cfef_8

set_option maxHeartbeats 4000000 in
set_option maxRecDepth 100000 in
theorem k_jIdx2_1 (l : Launch) (D : va_G) (k : KT) (A : Nat → Prop) (a : Nat → Nat) (z : SK) (G : GS) (p0 : Int32) (p1 : Int32) (ha_p1 : 0 ≤ p1.toInt ∧ p1.toInt ≤ 0) : Met l yJ0_indexOf_7cf53 (WS yJ0_indexOf_7cf53 cJ0_indexOf_7cf53 3 (some .int)) ({ frames := 2, cells := 0, slots := 0, locals := 48 }) (va_Pc [.ref (z.1 1), .int p0, .int p1] (cW D k A a z G)) (va_Qi (fun (r : Int32) (G1 : GS) => P_jIdx2_1 p0 p1 G r G1) (fun (G1 : GS) t => Wd D k A a G1 t.heap) A) 0 0 A := by
  refine Met.ofW (cc := cJ0_indexOf_7cf53) (maxL := 3) (ret := (some .int)) (by decide) rfl ?_
  intro p e s m args below meth c s₁ B hml hv
  obtain ⟨rfl, hW, hB_G, hK, hZ⟩ := hv
  have hx := B.exec
  have hb := B.bytes
  have hr := B.returns
  have hts := atoms_spec (ws := WS yJ0_indexOf_7cf53 cJ0_indexOf_7cf53 3 (some .int)) B.pre
  have hgd : ∀ w ∈ gd, w ∈ WS yJ0_indexOf_7cf53 cJ0_indexOf_7cf53 3 (some .int) := fun w h => List.mem_cons_of_mem _ h
  have hg : ∀ w ∈ gd, w.before _ s = true := fun w h => hts w (hgd w h)
  have hown : s.vm.findClass RJ0 = some m.cls := findClass_of_methodNamed B.named
  have hS : va_S A s.heap s.heap [] := va_S.rf
  have hF : Fr [] [] G G := Fr.rf
  have hl := lv_entry ([.ref (z.1 1), .int p0, .int p1]) (n := 3) (Nat.le_of_ble_eq_true rfl)
  rw [lg_entry_eq]
  generalize (lg_sl ([.ref (z.1 1), .int p0, .int p1]) ++ List.replicate (3 - (lg_sl ([.ref (z.1 1), .int p0, .int p1])).length) Slot.unset).toArray = ls at hl ⊢
  have hl : lv_has ls 3 [(0, .ref (z.1 1)), (1, .int p0), (2, .int p1)] := hl
  refine lv_aload_n hx hb dJ0_indexOf_7cf53_0 rfl (lv_at hl 0 rfl) ?_
  refine S_calli (va_runV (As := []) (rest := []) ⟨hx, hb, hml, hown, hts⟩ (k_jLat_1 l D k A a z G  ) (cwV 0 hts (gd_V hgd m669 m670 m671 m133 m672) rfl rfl rfl hd_J0_isLatin1_aae02 ⟨Nat.le_of_ble_eq_true rfl, Nat.le_of_ble_eq_true rfl⟩) (pre_VS hW hB_G hK hZ hS 1 (by decide)) rfl rfl hl.1 rfl (lv_room (Nat.le_of_ble_eq_true rfl)) dJ0_indexOf_7cf53_1 ⟨Nat.le_of_ble_eq_true rfl, Nat.le_of_ble_eq_true rfl⟩) hS (fun r_1 G_2 H locs hpo hW hS => ?_)
  have hX_5 : P_jLat_1 G r_1 G_2 := hpo
  obtain ⟨hB_G_2, hq_3, f_6, -⟩ := hpo
  have hF := hF.call9 hq_3 rfl rfl
  refine lv_if_eq (tgt := 23) hx hb dJ0_indexOf_7cf53_4 rfl (fun c_7 => ?_) (fun c_7 => ?_)
  · have c_7 : r_1.toInt = 0 := xI_eq rfl rfl c_7
    exfalso; first | exact ok_74 f_6.1 c_7 | omega
  · have c_7 : r_1.toInt ≠ 0 := xI_ne rfl rfl c_7
    refine lv_aload_n hx hb dJ0_indexOf_7cf53_7 rfl (lv_at hl 0 rfl) ?_
    refine vk_getf hx hb (hZ.1.1 1 (by decide)).2.2.1 hS hown (hg (Cond.fieldLink "java/lang/String" 9 "java/lang/String" "value" "[B") m2081) (fun _ h9 => h9) dJ0_indexOf_7cf53_8 ?_
    refine lv_iload_n hx hb dJ0_indexOf_7cf53_11 rfl (lv_at hl 1 rfl) ?_
    refine lv_iload_n hx hb dJ0_indexOf_7cf53_12 rfl (lv_at hl 2 rfl) ?_
    refine lv_aload_n hx hb dJ0_indexOf_7cf53_13 rfl (lv_at hl 0 rfl) ?_
    refine S_calli (va_runV (As := []) (rest := [.int p1, .int p0, .ref (z.2 1)]) ⟨hx, hb, hml, hown, hts⟩ (k_jLen_1 l D k A a z G_2  ) (cwV 0 hts (gd_V hgd m720 m656 m657 m133 m658) rfl rfl rfl hd_J0_length_8abf5 ⟨Nat.le_of_ble_eq_true rfl, Nat.le_of_ble_eq_true rfl⟩) (pre_VS hW hB_G_2 hK hZ hS 1 (by decide)) rfl rfl hl.1 rfl (lv_room (Nat.le_of_ble_eq_true rfl)) dJ0_indexOf_7cf53_14 ⟨Nat.le_of_ble_eq_true rfl, Nat.le_of_ble_eq_true rfl⟩) hS (fun r_8 G_9 H locs hpo hW hS => ?_)
    have hX_12 : P_jLen_1 G_2 r_8 G_9 := hpo
    obtain ⟨hB_G_9, hq_10, f_13, -⟩ := hpo
    have hF := hF.call9 hq_10 rfl rfl
    refine S_calli (va_runS (As := [.ref (z.2 1), .int p0, .int p1, .int r_8]) (rest := []) ⟨hx, hb, hml, hown, hts⟩ (k_jLIdx_1 l D k A a z G_9 p0 p1 r_8 ⟨(by first | exact ha_p1.1 | omega), (by first | exact ha_p1.2 | omega)⟩ ⟨(by first | exact f_13.1 | omega), (by first | exact f_13.2 | omega)⟩) (va_cwS 4 hts (gd_S hgd m721 m722 m134 m723) rfl rfl rfl hd_J1_indexOf_4cfef.2 ⟨Nat.le_of_ble_eq_true rfl, Nat.le_of_ble_eq_true rfl⟩) (pre_S hW hB_G_9 hK hZ hS) rfl rfl hl.1 rfl (lv_room (Nat.le_of_ble_eq_true rfl)) dJ0_indexOf_7cf53_17 ⟨Nat.le_of_ble_eq_true rfl, Nat.le_of_ble_eq_true rfl⟩) hS (fun r_14 G_15 H locs hpo hW hS => ?_)
    have hX_18 : P_jLIdx_1 p0 p1 r_8 G_9 r_14 G_15 := hpo
    obtain ⟨hB_G_15, hq_16, -⟩ := hpo
    have hF := hF.call9 hq_16 rfl rfl
    refine lv_goto (tgt := 36) hx hb dJ0_indexOf_7cf53_20 rfl ?_
    exact W.iret (v := r_14) hx hb hr (fun t ht _ => ⟨⟨r_14, G_15, rfl, (P_jIdx2_1_mk ⟨hB_G_15, hF, ⟨r_1, G_2, hX_5, ⟨r_8, G_9, hX_12, ⟨r_14, G_15, hX_18, ⟨rfl, rfl⟩⟩⟩⟩⟩), wd_t ht hW⟩, hS.F ht⟩) hS.2.2 dJ0_indexOf_7cf53_36

set_option maxHeartbeats 4000000 in
set_option maxRecDepth 100000 in
theorem k_jIdx_1 (l : Launch) (D : va_G) (k : KT) (A : Nat → Prop) (a : Nat → Nat) (z : SK) (G : GS) (p0 : Int32)  : Met l yJ0_indexOf_0f7a4 (WS yJ0_indexOf_0f7a4 cJ0_indexOf_0f7a4 2 (some .int)) ({ frames := 3, cells := 0, slots := 0, locals := 70 }) (va_Pc [.ref (z.1 1), .int p0] (cW D k A a z G)) (va_Qi (fun (r : Int32) (G1 : GS) => P_jIdx_1 p0 G r G1) (fun (G1 : GS) t => Wd D k A a G1 t.heap) A) 0 0 A := by
  refine Met.ofW (cc := cJ0_indexOf_0f7a4) (maxL := 2) (ret := (some .int)) (by decide) rfl ?_
  intro p e s m args below meth c s₁ B hml hv
  obtain ⟨rfl, hW, hB_G, hK, hZ⟩ := hv
  have hx := B.exec
  have hb := B.bytes
  have hr := B.returns
  have hts := atoms_spec (ws := WS yJ0_indexOf_0f7a4 cJ0_indexOf_0f7a4 2 (some .int)) B.pre
  have hgd : ∀ w ∈ gd, w ∈ WS yJ0_indexOf_0f7a4 cJ0_indexOf_0f7a4 2 (some .int) := fun w h => List.mem_cons_of_mem _ h
  have hg : ∀ w ∈ gd, w.before _ s = true := fun w h => hts w (hgd w h)
  have hown : s.vm.findClass RJ0 = some m.cls := findClass_of_methodNamed B.named
  have hS : va_S A s.heap s.heap [] := va_S.rf
  have hF : Fr [] [] G G := Fr.rf
  have hl := lv_entry ([.ref (z.1 1), .int p0]) (n := 2) (Nat.le_of_ble_eq_true rfl)
  rw [lg_entry_eq]
  generalize (lg_sl ([.ref (z.1 1), .int p0]) ++ List.replicate (2 - (lg_sl ([.ref (z.1 1), .int p0])).length) Slot.unset).toArray = ls at hl ⊢
  have hl : lv_has ls 2 [(0, .ref (z.1 1)), (1, .int p0)] := hl
  refine lv_aload_n hx hb dJ0_indexOf_0f7a4_0 rfl (lv_at hl 0 rfl) ?_
  refine lv_iload_n hx hb dJ0_indexOf_0f7a4_1 rfl (lv_at hl 1 rfl) ?_
  refine ic_0 hx hb dJ0_indexOf_0f7a4_2 ?_
  refine S_calli (va_runV (As := [.int p0, .int 0]) (rest := []) ⟨hx, hb, hml, hown, hts⟩ (k_jIdx2_1 l D k A a z G p0 0 ⟨by decide, by decide⟩) (cwV 2 hts (gd_V hgd m716 m717 m718 m133 m719) rfl rfl rfl hd_J0_indexOf_7cf53 ⟨Nat.le_of_ble_eq_true rfl, Nat.le_of_ble_eq_true rfl⟩) (pre_VS hW hB_G hK hZ hS 1 (by decide)) rfl rfl hl.1 rfl (lv_room (Nat.le_of_ble_eq_true rfl)) dJ0_indexOf_0f7a4_3 ⟨Nat.le_of_ble_eq_true rfl, Nat.le_of_ble_eq_true rfl⟩) hS (fun r_1 G_2 H locs hpo hW hS => ?_)
  have hX_5 : P_jIdx2_1 p0 0 G r_1 G_2 := hpo
  obtain ⟨hB_G_2, hq_3, -⟩ := hpo
  have hF := hF.call9 hq_3 rfl rfl
  exact W.iret (v := r_1) hx hb hr (fun t ht _ => ⟨⟨r_1, G_2, rfl, (P_jIdx_1_mk ⟨hB_G_2, hF, ⟨r_1, G_2, hX_5, ⟨rfl, rfl⟩⟩⟩), wd_t ht hW⟩, hS.F ht⟩) hS.2.2 dJ0_indexOf_0f7a4_6
