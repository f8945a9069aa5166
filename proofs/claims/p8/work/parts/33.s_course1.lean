theorem m157 : Cond.fieldLink RX0 15 "SlabWalk$Paving" "length" "[I" ∈ gd := gdc_1_2 9 rfl gw_fieldLink
theorem m163 : Cond.fieldLink RX0 24 "SlabWalk$Paving" "foot" "[I" ∈ gd := gdc_1_2 15 rfl gw_fieldLink
theorem m167 : Cond.fieldLink RX0 29 "SlabWalk$Paving" "least" "[I" ∈ gd := gdc_1_3 3 rfl gw_fieldLink
theorem m171 : Cond.fieldLink RX0 34 "SlabWalk$Paving" "most" "[I" ∈ gd := gdc_1_3 7 rfl gw_fieldLink
theorem m175 : Cond.fieldLink RX0 39 "SlabWalk$Paving" "leap" "[I" ∈ gd := gdc_1_3 11 rfl gw_fieldLink
theorem m371 : Cond.fieldLink RX0 9 "SlabWalk$Course" "lawful" "[Z" ∈ gd := gdc_2_0 15 rfl gw_fieldLink
theorem m375 : Cond.fieldLink RX0 21 "SlabWalk$Course" "length" "I" ∈ gd := gdc_2_1 3 rfl gw_fieldLink
theorem m376 : Cond.fieldLink RX0 27 "SlabWalk$Course" "foot" "I" ∈ gd := gdc_2_1 4 rfl gw_fieldLink
theorem m377 : Cond.fieldLink RX0 32 "SlabWalk$Course" "least" "I" ∈ gd := gdc_2_1 5 rfl gw_fieldLink
theorem m385 : Cond.fieldLink RX0 42 "SlabWalk$Course" "leap" "I" ∈ gd := gdc_2_1 13 rfl gw_fieldLink
theorem m393 : Cond.fieldLink RX0 53 "SlabWalk$Course" "end" "I" ∈ gd := gdc_2_2 5 rfl gw_fieldLink
theorem m983 : Cond.methodLink RX0 44 Lib.Math.max.name ∈ gd := gdc_4_9 3 rfl gw_methodLink
theorem m988 : Cond.methodLink RX0 56 yX3_isLine ∈ gd := gdc_4_9 8 rfl gw_methodLink
def rbX0_findLawful_0 : List (Nat × List Nat) := [(0, [3]), (1, [54, 4]), (3, [42]), (4, [180, 0, 21]), (7, [4]), (8, [100]), (9, [54, 5]), (11, [21, 5]), (13, [155, 0, 51]), (16, [43]), (17, [28]), (18, [29]), (19, [21, 5]), (21, [182, 0, 56]), (24, [153, 0, 7]), (27, [3]), (28, [167, 0, 7]), (31, [21, 4]), (33, [4]), (34, [96]), (35, [54, 4]), (37, [42]), (38, [180, 0, 9]), (41, [21, 5])]
theorem rcX0_findLawful_0 : dgo (lb cX0_findLawful) 0 rbX0_findLawful_0 = true := by decide +kernel
theorem dX0_findLawful_0 : decode cX0_findLawful 0 = .ok (.iconst 0, 1) := dk_3 (dw rcX0_findLawful_0 0 rfl)
theorem dX0_findLawful_1 : decode cX0_findLawful 1 = .ok (.istore 4, 2) := dk_54 (dw rcX0_findLawful_0 1 rfl)
theorem dX0_findLawful_3 : decode cX0_findLawful 3 = .ok (.aload_n 0, 1) := dk_42 (dw rcX0_findLawful_0 2 rfl)
theorem dX0_findLawful_4 : decode cX0_findLawful 4 = .ok (.getfield 21, 3) := dk_180 (dw rcX0_findLawful_0 3 rfl) rfl
theorem dX0_findLawful_7 : decode cX0_findLawful 7 = .ok (.iconst 1, 1) := dk_4 (dw rcX0_findLawful_0 4 rfl)
theorem dX0_findLawful_8 : decode cX0_findLawful 8 = .ok (.isub, 1) := dk_100 (dw rcX0_findLawful_0 5 rfl)
theorem dX0_findLawful_9 : decode cX0_findLawful 9 = .ok (.istore 5, 2) := dk_54 (dw rcX0_findLawful_0 6 rfl)
theorem dX0_findLawful_11 : decode cX0_findLawful 11 = .ok (.iload 5, 2) := dk_21 (dw rcX0_findLawful_0 7 rfl)
theorem dX0_findLawful_13 : decode cX0_findLawful 13 = .ok (.ifCond .lt 51, 3) := dk_155 (dw rcX0_findLawful_0 8 rfl) rfl
theorem dX0_findLawful_16 : decode cX0_findLawful 16 = .ok (.aload_n 1, 1) := dk_43 (dw rcX0_findLawful_0 9 rfl)
theorem dX0_findLawful_17 : decode cX0_findLawful 17 = .ok (.iload_n 2, 1) := dk_28 (dw rcX0_findLawful_0 10 rfl)
theorem dX0_findLawful_18 : decode cX0_findLawful 18 = .ok (.iload_n 3, 1) := dk_29 (dw rcX0_findLawful_0 11 rfl)
theorem dX0_findLawful_19 : decode cX0_findLawful 19 = .ok (.iload 5, 2) := dk_21 (dw rcX0_findLawful_0 12 rfl)
theorem dX0_findLawful_21 : decode cX0_findLawful 21 = .ok (.invokevirtual 56, 3) := dk_182 (dw rcX0_findLawful_0 13 rfl) rfl
theorem dX0_findLawful_24 : decode cX0_findLawful 24 = .ok (.ifCond .eq 7, 3) := dk_153 (dw rcX0_findLawful_0 14 rfl) rfl
theorem dX0_findLawful_27 : decode cX0_findLawful 27 = .ok (.iconst 0, 1) := dk_3 (dw rcX0_findLawful_0 15 rfl)
theorem dX0_findLawful_28 : decode cX0_findLawful 28 = .ok (.goto 7, 3) := dk_167 (dw rcX0_findLawful_0 16 rfl) rfl
theorem dX0_findLawful_31 : decode cX0_findLawful 31 = .ok (.iload 4, 2) := dk_21 (dw rcX0_findLawful_0 17 rfl)
theorem dX0_findLawful_33 : decode cX0_findLawful 33 = .ok (.iconst 1, 1) := dk_4 (dw rcX0_findLawful_0 18 rfl)
theorem dX0_findLawful_34 : decode cX0_findLawful 34 = .ok (.iadd, 1) := dk_96 (dw rcX0_findLawful_0 19 rfl)
theorem dX0_findLawful_35 : decode cX0_findLawful 35 = .ok (.istore 4, 2) := dk_54 (dw rcX0_findLawful_0 20 rfl)
theorem dX0_findLawful_37 : decode cX0_findLawful 37 = .ok (.aload_n 0, 1) := dk_42 (dw rcX0_findLawful_0 21 rfl)
theorem dX0_findLawful_38 : decode cX0_findLawful 38 = .ok (.getfield 9, 3) := dk_180 (dw rcX0_findLawful_0 22 rfl) rfl
theorem dX0_findLawful_41 : decode cX0_findLawful 41 = .ok (.iload 5, 2) := dk_21 (dw rcX0_findLawful_0 23 rfl)
def rbX0_findLawful_43 : List (Nat × List Nat) := [(43, [21, 4]), (45, [42]), (46, [180, 0, 27]), (49, [161, 0, 7]), (52, [4]), (53, [167, 0, 4]), (56, [3]), (57, [84]), (58, [132, 5, 255]), (61, [167, 255, 206]), (64, [177])]
theorem rcX0_findLawful_43 : dgo (lb cX0_findLawful) 0 rbX0_findLawful_43 = true := by decide +kernel
theorem dX0_findLawful_43 : decode cX0_findLawful 43 = .ok (.iload 4, 2) := dk_21 (dw rcX0_findLawful_43 0 rfl)
theorem dX0_findLawful_45 : decode cX0_findLawful 45 = .ok (.aload_n 0, 1) := dk_42 (dw rcX0_findLawful_43 1 rfl)
theorem dX0_findLawful_46 : decode cX0_findLawful 46 = .ok (.getfield 27, 3) := dk_180 (dw rcX0_findLawful_43 2 rfl) rfl
theorem dX0_findLawful_49 : decode cX0_findLawful 49 = .ok (.if_icmp .lt 7, 3) := dk_161 (dw rcX0_findLawful_43 3 rfl) rfl
theorem dX0_findLawful_52 : decode cX0_findLawful 52 = .ok (.iconst 1, 1) := dk_4 (dw rcX0_findLawful_43 4 rfl)
theorem dX0_findLawful_53 : decode cX0_findLawful 53 = .ok (.goto 4, 3) := dk_167 (dw rcX0_findLawful_43 5 rfl) rfl
theorem dX0_findLawful_56 : decode cX0_findLawful 56 = .ok (.iconst 0, 1) := dk_3 (dw rcX0_findLawful_43 6 rfl)
theorem dX0_findLawful_57 : decode cX0_findLawful 57 = .ok (.bastore, 1) := dk_84 (dw rcX0_findLawful_43 7 rfl)
theorem dX0_findLawful_58 : decode cX0_findLawful 58 = .ok (.iinc 5 (-1), 3) := dk_132 (dw rcX0_findLawful_43 8 rfl) rfl
theorem dX0_findLawful_61 : decode cX0_findLawful 61 = .ok (.goto (-50), 3) := dk_167 (dw rcX0_findLawful_43 9 rfl) rfl
theorem dX0_findLawful_64 : decode cX0_findLawful 64 = .ok (.return_, 1) := dk_177 (dw rcX0_findLawful_43 10 rfl)
def rbX0_lookAt_0 : List (Nat × List Nat) := [(0, [42]), (1, [43]), (2, [180, 0, 15]), (5, [29]), (6, [46]), (7, [181, 0, 21]), (10, [42]), (11, [43]), (12, [180, 0, 24]), (15, [28]), (16, [46]), (17, [181, 0, 27]), (20, [42]), (21, [43]), (22, [180, 0, 29]), (25, [28]), (26, [46]), (27, [181, 0, 32]), (30, [42]), (31, [43]), (32, [180, 0, 34]), (35, [28]), (36, [46]), (37, [181, 0, 37])]
theorem rcX0_lookAt_0 : dgo (lb cX0_lookAt) 0 rbX0_lookAt_0 = true := by decide +kernel
theorem dX0_lookAt_0 : decode cX0_lookAt 0 = .ok (.aload_n 0, 1) := dk_42 (dw rcX0_lookAt_0 0 rfl)
theorem dX0_lookAt_1 : decode cX0_lookAt 1 = .ok (.aload_n 1, 1) := dk_43 (dw rcX0_lookAt_0 1 rfl)
theorem dX0_lookAt_2 : decode cX0_lookAt 2 = .ok (.getfield 15, 3) := dk_180 (dw rcX0_lookAt_0 2 rfl) rfl
theorem dX0_lookAt_5 : decode cX0_lookAt 5 = .ok (.iload_n 3, 1) := dk_29 (dw rcX0_lookAt_0 3 rfl)
theorem dX0_lookAt_6 : decode cX0_lookAt 6 = .ok (.iaload, 1) := dk_46 (dw rcX0_lookAt_0 4 rfl)
theorem dX0_lookAt_7 : decode cX0_lookAt 7 = .ok (.putfield 21, 3) := dk_181 (dw rcX0_lookAt_0 5 rfl) rfl
theorem dX0_lookAt_10 : decode cX0_lookAt 10 = .ok (.aload_n 0, 1) := dk_42 (dw rcX0_lookAt_0 6 rfl)
theorem dX0_lookAt_11 : decode cX0_lookAt 11 = .ok (.aload_n 1, 1) := dk_43 (dw rcX0_lookAt_0 7 rfl)
theorem dX0_lookAt_12 : decode cX0_lookAt 12 = .ok (.getfield 24, 3) := dk_180 (dw rcX0_lookAt_0 8 rfl) rfl
theorem dX0_lookAt_15 : decode cX0_lookAt 15 = .ok (.iload_n 2, 1) := dk_28 (dw rcX0_lookAt_0 9 rfl)
theorem dX0_lookAt_16 : decode cX0_lookAt 16 = .ok (.iaload, 1) := dk_46 (dw rcX0_lookAt_0 10 rfl)
theorem dX0_lookAt_17 : decode cX0_lookAt 17 = .ok (.putfield 27, 3) := dk_181 (dw rcX0_lookAt_0 11 rfl) rfl
theorem dX0_lookAt_20 : decode cX0_lookAt 20 = .ok (.aload_n 0, 1) := dk_42 (dw rcX0_lookAt_0 12 rfl)
theorem dX0_lookAt_21 : decode cX0_lookAt 21 = .ok (.aload_n 1, 1) := dk_43 (dw rcX0_lookAt_0 13 rfl)
theorem dX0_lookAt_22 : decode cX0_lookAt 22 = .ok (.getfield 29, 3) := dk_180 (dw rcX0_lookAt_0 14 rfl) rfl
theorem dX0_lookAt_25 : decode cX0_lookAt 25 = .ok (.iload_n 2, 1) := dk_28 (dw rcX0_lookAt_0 15 rfl)
theorem dX0_lookAt_26 : decode cX0_lookAt 26 = .ok (.iaload, 1) := dk_46 (dw rcX0_lookAt_0 16 rfl)
theorem dX0_lookAt_27 : decode cX0_lookAt 27 = .ok (.putfield 32, 3) := dk_181 (dw rcX0_lookAt_0 17 rfl) rfl
theorem dX0_lookAt_30 : decode cX0_lookAt 30 = .ok (.aload_n 0, 1) := dk_42 (dw rcX0_lookAt_0 18 rfl)
theorem dX0_lookAt_31 : decode cX0_lookAt 31 = .ok (.aload_n 1, 1) := dk_43 (dw rcX0_lookAt_0 19 rfl)
theorem dX0_lookAt_32 : decode cX0_lookAt 32 = .ok (.getfield 34, 3) := dk_180 (dw rcX0_lookAt_0 20 rfl) rfl
theorem dX0_lookAt_35 : decode cX0_lookAt 35 = .ok (.iload_n 2, 1) := dk_28 (dw rcX0_lookAt_0 21 rfl)
theorem dX0_lookAt_36 : decode cX0_lookAt 36 = .ok (.iaload, 1) := dk_46 (dw rcX0_lookAt_0 22 rfl)
theorem dX0_lookAt_37 : decode cX0_lookAt 37 = .ok (.putfield 37, 3) := dk_181 (dw rcX0_lookAt_0 23 rfl) rfl
def rbX0_lookAt_40 : List (Nat × List Nat) := [(40, [42]), (41, [43]), (42, [180, 0, 39]), (45, [28]), (46, [46]), (47, [181, 0, 42]), (50, [42]), (51, [2]), (52, [42]), (53, [180, 0, 21]), (56, [42]), (57, [180, 0, 27]), (60, [100]), (61, [184, 0, 44]), (64, [181, 0, 50]), (67, [42]), (68, [3]), (69, [42]), (70, [180, 0, 21]), (73, [42]), (74, [180, 0, 27]), (77, [100]), (78, [42]), (79, [180, 0, 37])]
theorem rcX0_lookAt_40 : dgo (lb cX0_lookAt) 0 rbX0_lookAt_40 = true := by decide +kernel
theorem dX0_lookAt_40 : decode cX0_lookAt 40 = .ok (.aload_n 0, 1) := dk_42 (dw rcX0_lookAt_40 0 rfl)
theorem dX0_lookAt_41 : decode cX0_lookAt 41 = .ok (.aload_n 1, 1) := dk_43 (dw rcX0_lookAt_40 1 rfl)
theorem dX0_lookAt_42 : decode cX0_lookAt 42 = .ok (.getfield 39, 3) := dk_180 (dw rcX0_lookAt_40 2 rfl) rfl
theorem dX0_lookAt_45 : decode cX0_lookAt 45 = .ok (.iload_n 2, 1) := dk_28 (dw rcX0_lookAt_40 3 rfl)
theorem dX0_lookAt_46 : decode cX0_lookAt 46 = .ok (.iaload, 1) := dk_46 (dw rcX0_lookAt_40 4 rfl)
theorem dX0_lookAt_47 : decode cX0_lookAt 47 = .ok (.putfield 42, 3) := dk_181 (dw rcX0_lookAt_40 5 rfl) rfl
theorem dX0_lookAt_50 : decode cX0_lookAt 50 = .ok (.aload_n 0, 1) := dk_42 (dw rcX0_lookAt_40 6 rfl)
theorem dX0_lookAt_51 : decode cX0_lookAt 51 = .ok (.iconst (-1), 1) := dk_2 (dw rcX0_lookAt_40 7 rfl)
theorem dX0_lookAt_52 : decode cX0_lookAt 52 = .ok (.aload_n 0, 1) := dk_42 (dw rcX0_lookAt_40 8 rfl)
theorem dX0_lookAt_53 : decode cX0_lookAt 53 = .ok (.getfield 21, 3) := dk_180 (dw rcX0_lookAt_40 9 rfl) rfl
theorem dX0_lookAt_56 : decode cX0_lookAt 56 = .ok (.aload_n 0, 1) := dk_42 (dw rcX0_lookAt_40 10 rfl)
theorem dX0_lookAt_57 : decode cX0_lookAt 57 = .ok (.getfield 27, 3) := dk_180 (dw rcX0_lookAt_40 11 rfl) rfl
theorem dX0_lookAt_60 : decode cX0_lookAt 60 = .ok (.isub, 1) := dk_100 (dw rcX0_lookAt_40 12 rfl)
theorem dX0_lookAt_61 : decode cX0_lookAt 61 = .ok (.invokestatic 44, 3) := dk_184 (dw rcX0_lookAt_40 13 rfl) rfl
theorem dX0_lookAt_64 : decode cX0_lookAt 64 = .ok (.putfield 50, 3) := dk_181 (dw rcX0_lookAt_40 14 rfl) rfl
theorem dX0_lookAt_67 : decode cX0_lookAt 67 = .ok (.aload_n 0, 1) := dk_42 (dw rcX0_lookAt_40 15 rfl)
theorem dX0_lookAt_68 : decode cX0_lookAt 68 = .ok (.iconst 0, 1) := dk_3 (dw rcX0_lookAt_40 16 rfl)
theorem dX0_lookAt_69 : decode cX0_lookAt 69 = .ok (.aload_n 0, 1) := dk_42 (dw rcX0_lookAt_40 17 rfl)
theorem dX0_lookAt_70 : decode cX0_lookAt 70 = .ok (.getfield 21, 3) := dk_180 (dw rcX0_lookAt_40 18 rfl) rfl
theorem dX0_lookAt_73 : decode cX0_lookAt 73 = .ok (.aload_n 0, 1) := dk_42 (dw rcX0_lookAt_40 19 rfl)
theorem dX0_lookAt_74 : decode cX0_lookAt 74 = .ok (.getfield 27, 3) := dk_180 (dw rcX0_lookAt_40 20 rfl) rfl
theorem dX0_lookAt_77 : decode cX0_lookAt 77 = .ok (.isub, 1) := dk_100 (dw rcX0_lookAt_40 21 rfl)
theorem dX0_lookAt_78 : decode cX0_lookAt 78 = .ok (.aload_n 0, 1) := dk_42 (dw rcX0_lookAt_40 22 rfl)
theorem dX0_lookAt_79 : decode cX0_lookAt 79 = .ok (.getfield 37, 3) := dk_180 (dw rcX0_lookAt_40 23 rfl) rfl
def rbX0_lookAt_82 : List (Nat × List Nat) := [(82, [100]), (83, [4]), (84, [96]), (85, [184, 0, 44]), (88, [181, 0, 53]), (91, [177])]
theorem rcX0_lookAt_82 : dgo (lb cX0_lookAt) 0 rbX0_lookAt_82 = true := by decide +kernel
theorem dX0_lookAt_82 : decode cX0_lookAt 82 = .ok (.isub, 1) := dk_100 (dw rcX0_lookAt_82 0 rfl)
theorem dX0_lookAt_83 : decode cX0_lookAt 83 = .ok (.iconst 1, 1) := dk_4 (dw rcX0_lookAt_82 1 rfl)
theorem dX0_lookAt_84 : decode cX0_lookAt 84 = .ok (.iadd, 1) := dk_96 (dw rcX0_lookAt_82 2 rfl)
theorem dX0_lookAt_85 : decode cX0_lookAt 85 = .ok (.invokestatic 44, 3) := dk_184 (dw rcX0_lookAt_82 3 rfl) rfl
theorem dX0_lookAt_88 : decode cX0_lookAt 88 = .ok (.putfield 53, 3) := dk_181 (dw rcX0_lookAt_82 4 rfl) rfl
theorem dX0_lookAt_91 : decode cX0_lookAt 91 = .ok (.return_, 1) := dk_177 (dw rcX0_lookAt_82 5 rfl)
set_option maxHeartbeats 4000000 in
set_option maxRecDepth 100000 in
theorem k_cLook_1 (l : Launch) (D : va_G) (k : KT) (A : Nat → Prop) (a : Nat → Nat) (z : SK) (G : GS) (p0 : Int32) (p1 : Int32) (ha_p0 : 0 ≤ p0.toInt ∧ p0.toInt ≤ 3) (ha_p1 : 0 ≤ p1.toInt ∧ p1.toInt ≤ 2) (hw : p0.toInt < (G.1 1 10).toInt) : Met l yX0_lookAt (WS yX0_lookAt cX0_lookAt 4 none) ({ frames := 1, cells := 0, slots := 0, locals := 14 }) (va_Pc [.ref (a 7), .ref (a 1), .int p0, .int p1] (cW D k A a z G)) (va_Qv (fun (G1 : GS) => P_cLook_1 p0 p1 G G1) (fun (G1 : GS) t => Wd D k A a G1 t.heap) A) 0 0 A := by
  refine Met.ofW (cc := cX0_lookAt) (maxL := 4) (ret := none) (by decide) rfl ?_
  intro p e s m args below meth c s₁ B hml hv
  obtain ⟨rfl, hW, hB_G, hK, hZ⟩ := hv
  have hx := B.exec
  have hb := B.bytes
  have hr := B.returns
  have hts := atoms_spec (ws := WS yX0_lookAt cX0_lookAt 4 none) B.pre
  have hgd : ∀ w ∈ gd, w ∈ WS yX0_lookAt cX0_lookAt 4 none := fun w h => List.mem_cons_of_mem _ h
  have hg : ∀ w ∈ gd, w.before _ s = true := fun w h => hts w (hgd w h)
  have hown : s.vm.findClass RX0 = some m.cls := findClass_of_methodNamed B.named
  have hS : va_S A s.heap s.heap [] := va_S.rf
  have hF : Fr [] [(7, 1), (7, 2), (7, 3), (7, 4), (7, 5), (7, 6), (7, 7)] G G := Fr.rf
  have hl := lv_entry ([.ref (a 7), .ref (a 1), .int p0, .int p1]) (n := 4) (Nat.le_of_ble_eq_true rfl)
  rw [lg_entry_eq]
  generalize (lg_sl ([.ref (a 7), .ref (a 1), .int p0, .int p1]) ++ List.replicate (4 - (lg_sl ([.ref (a 7), .ref (a 1), .int p0, .int p1])).length) Slot.unset).toArray = ls at hl ⊢
  have hl : lv_has ls 4 [(0, .ref (a 7)), (1, .ref (a 1)), (2, .int p0), (3, .int p1)] := hl
  refine lv_aload_n hx hb dX0_lookAt_0 rfl (lv_at hl 0 rfl) ?_
  refine lv_aload_n hx hb dX0_lookAt_1 rfl (lv_at hl 1 rfl) ?_
  refine S_getR (n := 10) (C := RX6) (T := TX6) (N := 17) hx hb hg iX6 hown hK hW kd_1 rfl 0 (lt_b rfl) (hg (Cond.fieldLink RX0 15 "SlabWalk$Paving" "length" "[I") m157) (fun _ h9 => h9) rfl dX0_lookAt_2 ?_
  refine lv_iload_n hx hb dX0_lookAt_5 rfl (lv_at hl 3 rfl) ?_
  refine S_iald hx hb hK hW kd_10 (vin (by omega) (by omega)) dX0_lookAt_6 (fun y_1 ey_1 => ?_)
  have ty_1 : 0 ≤ y_1.toInt ∧ y_1.toInt ≤ 400 := bv_10 hB_G ey_1
  refine S_putI (ty := .int) (C := RX0) (T := TX0) (N := 8) hx hb hg iX0 tyX0 tyX0_ok nmX0 hown hK hW hS kd_7 rfl 1 (lt_b rfl) (hg (Cond.fieldLink RX0 21 "SlabWalk$Course" "length" "I") m375) (fun _ h9 => h9) rfl (by decide +kernel) rfl rfl rfl dX0_lookAt_7 (fun G_2 H locs eG_2 hW hS => ?_)
  have hB_G_2 : Bd G_2 := hB_G.put (V := y_1.toInt) (lo := 0) (hi := 400) eG_2 rfl rfl rfl ((by first | (clear ha_p0 ha_p1 hw; omega) | omega)) ((by first | (clear ha_p0 ha_p1 hw; omega) | omega)) (hB_G.2.put eG_2 rfl)
  have hF := hF.put eG_2 (Or.inr (by decide))
  refine lv_aload_n hx hb dX0_lookAt_10 rfl (lv_at hl 0 rfl) ?_
  refine lv_aload_n hx hb dX0_lookAt_11 rfl (lv_at hl 1 rfl) ?_
  refine S_getR (n := 12) (C := RX6) (T := TX6) (N := 17) hx hb hg iX6 hown hK hW kd_1 rfl 2 (lt_b rfl) (hg (Cond.fieldLink RX0 24 "SlabWalk$Paving" "foot" "[I") m163) (fun _ h9 => h9) rfl dX0_lookAt_12 ?_
  refine lv_iload_n hx hb dX0_lookAt_15 rfl (lv_at hl 2 rfl) ?_
  refine S_iald hx hb hK hW kd_12 (vin (by omega) (by omega)) dX0_lookAt_16 (fun y_3 ey_3 => ?_)
  have ty_3 : 0 ≤ y_3.toInt ∧ y_3.toInt ≤ 12 := bv_12 hB_G_2 ey_3
  have b_4 : 0 ≤ (G.1 1 10).toInt ∧ (G.1 1 10).toInt ≤ 4 := bd_1_10 hB_G
  have u_5 : 1 ≤ y_3.toInt := by have q := (hB_G_2.2.of1 (w := p0.toNatClampNeg) (by rw [tN (by omega), show G_2.1 1 10 = (G.1 1 10) from (gp_ne eG_2 (by decide))]; omega)).1; rw [← ey_3] at q; exact q
  refine S_putI (ty := .int) (C := RX0) (T := TX0) (N := 8) hx hb hg iX0 tyX0 tyX0_ok nmX0 hown hK hW hS kd_7 rfl 2 (lt_b rfl) (hg (Cond.fieldLink RX0 27 "SlabWalk$Course" "foot" "I") m376) (fun _ h9 => h9) rfl (by decide +kernel) rfl rfl rfl dX0_lookAt_17 (fun G_6 H locs eG_6 hW hS => ?_)
  have hB_G_6 : Bd G_6 := hB_G_2.put (V := y_3.toInt) (lo := 0) (hi := 12) eG_6 rfl rfl rfl ((by first | (clear ha_p0 ha_p1 hw ty_1 b_4; omega) | omega)) ((by first | (clear ha_p0 ha_p1 hw ty_1 b_4; omega) | omega)) (hB_G_2.2.put eG_6 rfl)
  have hF := hF.put eG_6 (Or.inr (by decide))
  refine lv_aload_n hx hb dX0_lookAt_20 rfl (lv_at hl 0 rfl) ?_
  refine lv_aload_n hx hb dX0_lookAt_21 rfl (lv_at hl 1 rfl) ?_
  refine S_getR (n := 13) (C := RX6) (T := TX6) (N := 17) hx hb hg iX6 hown hK hW kd_1 rfl 3 (lt_b rfl) (hg (Cond.fieldLink RX0 29 "SlabWalk$Paving" "least" "[I") m167) (fun _ h9 => h9) rfl dX0_lookAt_22 ?_
  refine lv_iload_n hx hb dX0_lookAt_25 rfl (lv_at hl 2 rfl) ?_
  refine S_iald hx hb hK hW kd_13 (vin ((by first | (clear ha_p1 ty_1 ty_3 u_5; omega) | omega)) ((by first | (clear ha_p1 ty_1 ty_3 u_5; omega) | omega))) dX0_lookAt_26 (fun y_7 ey_7 => ?_)
  have ty_7 : 0 ≤ y_7.toInt ∧ y_7.toInt ≤ 60 := bv_13 hB_G_6 ey_7
  refine S_putI (ty := .int) (C := RX0) (T := TX0) (N := 8) hx hb hg iX0 tyX0 tyX0_ok nmX0 hown hK hW hS kd_7 rfl 3 (lt_b rfl) (hg (Cond.fieldLink RX0 32 "SlabWalk$Course" "least" "I") m377) (fun _ h9 => h9) rfl (by decide +kernel) rfl rfl rfl dX0_lookAt_27 (fun G_8 H locs eG_8 hW hS => ?_)
  have hB_G_8 : Bd G_8 := hB_G_6.put (V := y_7.toInt) (lo := 0) (hi := 60) eG_8 rfl rfl rfl ((by first | (clear ha_p0 ha_p1 hw ty_1 ty_3 b_4 u_5; omega) | omega)) ((by first | (clear ha_p0 ha_p1 hw ty_1 ty_3 b_4 u_5; omega) | omega)) (hB_G_6.2.put eG_8 rfl)
  have hF := hF.put eG_8 (Or.inr (by decide))
  refine lv_aload_n hx hb dX0_lookAt_30 rfl (lv_at hl 0 rfl) ?_
  refine lv_aload_n hx hb dX0_lookAt_31 rfl (lv_at hl 1 rfl) ?_
  refine S_getR (n := 14) (C := RX6) (T := TX6) (N := 17) hx hb hg iX6 hown hK hW kd_1 rfl 4 (lt_b rfl) (hg (Cond.fieldLink RX0 34 "SlabWalk$Paving" "most" "[I") m171) (fun _ h9 => h9) rfl dX0_lookAt_32 ?_
  refine lv_iload_n hx hb dX0_lookAt_35 rfl (lv_at hl 2 rfl) ?_
  refine S_iald hx hb hK hW kd_14 (vin ((by first | (clear ha_p1 ty_1 ty_3 u_5 ty_7; omega) | omega)) ((by first | (clear ha_p1 ty_1 ty_3 u_5 ty_7; omega) | omega))) dX0_lookAt_36 (fun y_9 ey_9 => ?_)
  have ty_9 : 0 ≤ y_9.toInt ∧ y_9.toInt ≤ 60 := bv_14 hB_G_8 ey_9
  have u_10 : y_7.toInt ≤ y_9.toInt := by have q := (hB_G_8.2.of1 (w := p0.toNatClampNeg) (by rw [tN (by omega), show G_8.1 1 10 = (G.1 1 10) from ((gp_ne eG_8 (by decide)).trans ((gp_ne eG_6 (by decide)).trans ((gp_ne eG_2 (by decide)).trans (rfl))))]; omega)).2; rw [← ey_9, show G_8.1 13 p0.toNatClampNeg = y_7 from ((gp_ne eG_8 (fun q => absurd q.1 (Nat.ne_of_beq_eq_false rfl))).trans (ey_7.symm))] at q; exact q
  refine S_putI (ty := .int) (C := RX0) (T := TX0) (N := 8) hx hb hg iX0 tyX0 tyX0_ok nmX0 hown hK hW hS kd_7 rfl 4 (lt_b rfl) (hg (Cond.fieldLink RX0 37 "SlabWalk$Course" "most" "I") m382) (fun _ h9 => h9) rfl (by decide +kernel) rfl rfl rfl dX0_lookAt_37 (fun G_11 H locs eG_11 hW hS => ?_)
  have hB_G_11 : Bd G_11 := hB_G_8.put (V := y_9.toInt) (lo := 0) (hi := 60) eG_11 rfl rfl rfl ((by first | (clear ha_p0 ha_p1 hw ty_1 ty_3 b_4 u_5; omega) | omega)) ((by first | (clear ha_p0 ha_p1 hw ty_1 ty_3 b_4 u_5; omega) | omega)) (hB_G_8.2.put eG_11 rfl)
  have hF := hF.put eG_11 (Or.inr (by decide))
  refine lv_aload_n hx hb dX0_lookAt_40 rfl (lv_at hl 0 rfl) ?_
  refine lv_aload_n hx hb dX0_lookAt_41 rfl (lv_at hl 1 rfl) ?_
  refine S_getR (n := 15) (C := RX6) (T := TX6) (N := 17) hx hb hg iX6 hown hK hW kd_1 rfl 5 (lt_b rfl) (hg (Cond.fieldLink RX0 39 "SlabWalk$Paving" "leap" "[I") m175) (fun _ h9 => h9) rfl dX0_lookAt_42 ?_
  refine lv_iload_n hx hb dX0_lookAt_45 rfl (lv_at hl 2 rfl) ?_
  refine S_iald hx hb hK hW kd_15 (vin ((by first | (clear ha_p1 ty_1 ty_3 u_5 ty_7 ty_9 u_10; omega) | omega)) ((by first | (clear ha_p1 ty_1 ty_3 u_5 ty_7 ty_9 u_10; omega) | omega))) dX0_lookAt_46 (fun y_12 ey_12 => ?_)
  have ty_12 : 0 ≤ y_12.toInt ∧ y_12.toInt ≤ 99 := bv_15 hB_G_11 ey_12
  refine S_putI (ty := .int) (C := RX0) (T := TX0) (N := 8) hx hb hg iX0 tyX0 tyX0_ok nmX0 hown hK hW hS kd_7 rfl 5 (lt_b rfl) (hg (Cond.fieldLink RX0 42 "SlabWalk$Course" "leap" "I") m385) (fun _ h9 => h9) rfl (by decide +kernel) rfl rfl rfl dX0_lookAt_47 (fun G_13 H locs eG_13 hW hS => ?_)
  have hB_G_13 : Bd G_13 := hB_G_11.put (V := y_12.toInt) (lo := 0) (hi := 99) eG_13 rfl rfl rfl ((by first | (clear ha_p0 ha_p1 hw ty_1 ty_3 b_4 u_5 ty_7 ty_9 u_10; omega) | omega)) ((by first | (clear ha_p0 ha_p1 hw ty_1 ty_3 b_4 u_5 ty_7 ty_9 u_10; omega) | omega)) (hB_G_11.2.put eG_13 rfl)
  have hF := hF.put eG_13 (Or.inr (by decide))
  refine lv_aload_n hx hb dX0_lookAt_50 rfl (lv_at hl 0 rfl) ?_
  refine ic_m1 hx hb dX0_lookAt_51 ?_
  refine lv_aload_n hx hb dX0_lookAt_52 rfl (lv_at hl 0 rfl) ?_
  refine S_getI (v := y_1) (C := RX0) (T := TX0) (N := 8) hx hb hg iX0 hown hK hW kd_7 rfl 1 (lt_b rfl) (hg (Cond.fieldLink RX0 21 "SlabWalk$Course" "length" "I") m375) (fun _ h9 => h9) rfl ((gp_ne eG_13 (by decide)).trans ((gp_ne eG_11 (by decide)).trans ((gp_ne eG_8 (by decide)).trans ((gp_ne eG_6 (by decide)).trans (gp_eq eG_2))))) dX0_lookAt_53 ?_
  refine lv_aload_n hx hb dX0_lookAt_56 rfl (lv_at hl 0 rfl) ?_
  refine S_getI (v := y_3) (C := RX0) (T := TX0) (N := 8) hx hb hg iX0 hown hK hW kd_7 rfl 2 (lt_b rfl) (hg (Cond.fieldLink RX0 27 "SlabWalk$Course" "foot" "I") m376) (fun _ h9 => h9) rfl ((gp_ne eG_13 (by decide)).trans ((gp_ne eG_11 (by decide)).trans ((gp_ne eG_8 (by decide)).trans (gp_eq eG_6)))) dX0_lookAt_57 ?_
  refine lv_isub hx hb dX0_lookAt_60 ?_
  refine lv_topi (fun y_14 ey_14 => ?_)
  have ty_14 : y_14.toInt = y_1.toInt - y_3.toInt := xI_sub rfl rfl ey_14 ((by first | (clear ha_p0 ha_p1 hw b_4 ty_7 ty_9 u_10 ty_12; omega) | omega)) ((by first | (clear ha_p0 ha_p1 hw b_4 ty_7 ty_9 u_10 ty_12; omega) | omega))
  refine va_mmax hx hb (by rw [hml]; exact hl.1.symm) hown (hg (Cond.methodLink RX0 44 Lib.Math.max.name) m983) (hg (Cond.static Lib.Math.max.name) m728) (hg (Cond.initialized "java/lang/Math") m132) (hg (Cond.code Lib.Math.max.name Lib.Math.max.code 2 (some .int)) m729) (Nat.le_of_ble_eq_true rfl) (Nat.le_of_ble_eq_true rfl) (Nat.le_of_ble_eq_true rfl) (Nat.le_of_ble_eq_true rfl) dX0_lookAt_61 ?_
  refine lv_topi (fun y_15 ey_15 => ?_)
  have ty_15 := xI_max (X := (-1)) (Y := y_14.toInt) rfl rfl ey_15
  refine S_putI (ty := .int) (C := RX0) (T := TX0) (N := 8) hx hb hg iX0 tyX0 tyX0_ok nmX0 hown hK hW hS kd_7 rfl 6 (lt_b rfl) (hg (Cond.fieldLink RX0 50 "SlabWalk$Course" "last" "I") m390) (fun _ h9 => h9) rfl (by decide +kernel) rfl rfl rfl dX0_lookAt_64 (fun G_16 H locs eG_16 hW hS => ?_)
  have hB_G_16 : Bd G_16 := hB_G_13.put (V := y_15.toInt) (lo := (-1)) (hi := 400) eG_16 rfl rfl rfl ((by first | (clear ha_p0 ha_p1 hw ty_1 ty_3 b_4 u_5 ty_7 ty_9 u_10 ty_12 ty_14; omega) | omega)) ((by first | (clear ha_p0 ha_p1 hw ty_1 ty_3 b_4 u_5 ty_7 ty_9 u_10 ty_12 ty_14; omega) | omega)) (hB_G_13.2.put eG_16 rfl)
  have hF := hF.put eG_16 (Or.inr (by decide))
  refine lv_aload_n hx hb dX0_lookAt_67 rfl (lv_at hl 0 rfl) ?_
  refine ic_0 hx hb dX0_lookAt_68 ?_
  refine lv_aload_n hx hb dX0_lookAt_69 rfl (lv_at hl 0 rfl) ?_
  refine S_getI (v := y_1) (C := RX0) (T := TX0) (N := 8) hx hb hg iX0 hown hK hW kd_7 rfl 1 (lt_b rfl) (hg (Cond.fieldLink RX0 21 "SlabWalk$Course" "length" "I") m375) (fun _ h9 => h9) rfl ((gp_ne eG_16 (by decide)).trans ((gp_ne eG_13 (by decide)).trans ((gp_ne eG_11 (by decide)).trans ((gp_ne eG_8 (by decide)).trans ((gp_ne eG_6 (by decide)).trans (gp_eq eG_2)))))) dX0_lookAt_70 ?_
  refine lv_aload_n hx hb dX0_lookAt_73 rfl (lv_at hl 0 rfl) ?_
  refine S_getI (v := y_3) (C := RX0) (T := TX0) (N := 8) hx hb hg iX0 hown hK hW kd_7 rfl 2 (lt_b rfl) (hg (Cond.fieldLink RX0 27 "SlabWalk$Course" "foot" "I") m376) (fun _ h9 => h9) rfl ((gp_ne eG_16 (by decide)).trans ((gp_ne eG_13 (by decide)).trans ((gp_ne eG_11 (by decide)).trans ((gp_ne eG_8 (by decide)).trans (gp_eq eG_6))))) dX0_lookAt_74 ?_
  refine lv_isub hx hb dX0_lookAt_77 ?_
  refine lv_topi (fun y_17 ey_17 => ?_)
  have ty_17 : y_17.toInt = y_1.toInt - y_3.toInt := xI_sub rfl rfl ey_17 ((by first | (clear ha_p0 ha_p1 hw b_4 ty_7 ty_9 u_10 ty_12; omega) | omega)) ((by first | (clear ha_p0 ha_p1 hw b_4 ty_7 ty_9 u_10 ty_12; omega) | omega))
  refine lv_aload_n hx hb dX0_lookAt_78 rfl (lv_at hl 0 rfl) ?_
  refine S_getI (v := y_9) (C := RX0) (T := TX0) (N := 8) hx hb hg iX0 hown hK hW kd_7 rfl 4 (lt_b rfl) (hg (Cond.fieldLink RX0 37 "SlabWalk$Course" "most" "I") m382) (fun _ h9 => h9) rfl ((gp_ne eG_16 (by decide)).trans ((gp_ne eG_13 (by decide)).trans (gp_eq eG_11))) dX0_lookAt_79 ?_
  refine lv_isub hx hb dX0_lookAt_82 ?_
  refine lv_topi (fun y_18 ey_18 => ?_)
  have ty_18 : y_18.toInt = y_17.toInt - y_9.toInt := xI_sub rfl rfl ey_18 ((by first | (clear ha_p0 ha_p1 hw b_4 ty_12; omega) | omega)) ((by first | (clear ha_p0 ha_p1 hw b_4 ty_12; omega) | omega))
  refine ic_1 hx hb dX0_lookAt_83 ?_
  refine lv_iadd hx hb dX0_lookAt_84 ?_
  refine lv_topi (fun y_19 ey_19 => ?_)
  have ty_19 : y_19.toInt = y_18.toInt + 1 := xI_add rfl rfl ey_19 ((by first | (clear ha_p0 ha_p1 hw b_4 ty_12; omega) | omega)) ((by first | (clear ha_p0 ha_p1 hw b_4 ty_12; omega) | omega))
  refine va_mmax hx hb (by rw [hml]; exact hl.1.symm) hown (hg (Cond.methodLink RX0 44 Lib.Math.max.name) m983) (hg (Cond.static Lib.Math.max.name) m728) (hg (Cond.initialized "java/lang/Math") m132) (hg (Cond.code Lib.Math.max.name Lib.Math.max.code 2 (some .int)) m729) (Nat.le_of_ble_eq_true rfl) (Nat.le_of_ble_eq_true rfl) (Nat.le_of_ble_eq_true rfl) (Nat.le_of_ble_eq_true rfl) dX0_lookAt_85 ?_
  refine lv_topi (fun y_20 ey_20 => ?_)
  have ty_20 := xI_max (X := 0) (Y := y_19.toInt) rfl rfl ey_20
  refine S_putI (ty := .int) (C := RX0) (T := TX0) (N := 8) hx hb hg iX0 tyX0 tyX0_ok nmX0 hown hK hW hS kd_7 rfl 7 (lt_b rfl) (hg (Cond.fieldLink RX0 53 "SlabWalk$Course" "end" "I") m393) (fun _ h9 => h9) rfl (by decide +kernel) rfl rfl rfl dX0_lookAt_88 (fun G_21 H locs eG_21 hW hS => ?_)
  have hB_G_21 : Bd G_21 := hB_G_16.put (V := y_20.toInt) (lo := 0) (hi := 400) eG_21 rfl rfl rfl ((by first | (clear ha_p0 ha_p1 hw ty_1 ty_3 b_4 u_5 ty_7 ty_9 u_10 ty_12 ty_14 ty_17 ty_18 ty_19; omega) | omega)) ((by first | (clear ha_p0 ha_p1 hw ty_1 ty_3 b_4 u_5 ty_7 ty_9 u_10 ty_12 ty_14 ty_17 ty_18 ty_19; omega) | omega)) (hB_G_16.2.put eG_21 rfl)
  have hF := hF.put eG_21 (Or.inr (by decide))
  have g_22 : (G_21.1 7 3).toInt = y_7.toInt := (congrArg Int32.toInt (show G_21.1 7 3 = y_7 from ((gp_ne eG_21 (by decide)).trans ((gp_ne eG_16 (by decide)).trans ((gp_ne eG_13 (by decide)).trans ((gp_ne eG_11 (by decide)).trans (gp_eq eG_8)))))))
  have g_23 : (G_21.1 7 4).toInt = y_9.toInt := (congrArg Int32.toInt (show G_21.1 7 4 = y_9 from ((gp_ne eG_21 (by decide)).trans ((gp_ne eG_16 (by decide)).trans ((gp_ne eG_13 (by decide)).trans (gp_eq eG_11))))))
  have g_24 : (G_21.1 7 6).toInt = y_15.toInt := (congrArg Int32.toInt (show G_21.1 7 6 = y_15 from ((gp_ne eG_21 (by decide)).trans (gp_eq eG_16))))
  have g_25 : (G_21.1 7 7).toInt = y_20.toInt := (congrArg Int32.toInt (show G_21.1 7 7 = y_20 from (gp_eq eG_21)))
  exact W.vret hx hb hr (fun t ht _ => ⟨⟨G_21, rfl, (P_cLook_1_mk ⟨hB_G_21, hF, ((by first | exact ⟨((by first | (clear ha_p0 ha_p1 hw ty_1 ty_3 b_4 u_5 ty_7 ty_9 u_10 ty_12 ty_14 ty_17 ty_18 ty_19 g_22 g_23 g_25; omega) | omega)), ⟨((by first | (clear ha_p0 ha_p1 hw b_4 ty_12 g_24 g_25; omega) | omega)), ((by first | (clear ha_p0 ha_p1 hw b_4 ty_12; omega) | omega))⟩⟩ | omega)), ⟨y_1, ey_1, ⟨y_3, ey_3.trans (congrFun (rw_put eG_2 (by decide)) _), ⟨y_7, ey_7.trans (congrFun ((rw_put eG_6 (by decide)).trans (rw_put eG_2 (by decide))) _), ⟨y_9, ey_9.trans (congrFun ((rw_put eG_8 (by decide)).trans ((rw_put eG_6 (by decide)).trans (rw_put eG_2 (by decide)))) _), ⟨y_12, ey_12.trans (congrFun ((rw_put eG_11 (by decide)).trans ((rw_put eG_8 (by decide)).trans ((rw_put eG_6 (by decide)).trans (rw_put eG_2 (by decide))))) _), ⟨y_14, ty_14, ⟨y_15, ty_15, ⟨y_17, ty_17, ⟨y_18, ty_18, ⟨y_19, ty_19, ⟨y_20, ty_20, ⟨(Fr.put (rs := []) (fs := [(7, 1), (7, 2), (7, 3), (7, 4), (7, 5), (7, 6), (7, 7)]) (Fr.put (rs := []) (fs := [(7, 1), (7, 2), (7, 3), (7, 4), (7, 5), (7, 6), (7, 7)]) (Fr.put (rs := []) (fs := [(7, 1), (7, 2), (7, 3), (7, 4), (7, 5), (7, 6), (7, 7)]) (Fr.put (rs := []) (fs := [(7, 1), (7, 2), (7, 3), (7, 4), (7, 5), (7, 6), (7, 7)]) (Fr.put (rs := []) (fs := [(7, 1), (7, 2), (7, 3), (7, 4), (7, 5), (7, 6), (7, 7)]) (Fr.put (rs := []) (fs := [(7, 1), (7, 2), (7, 3), (7, 4), (7, 5), (7, 6), (7, 7)]) (Fr.put (rs := []) (fs := [(7, 1), (7, 2), (7, 3), (7, 4), (7, 5), (7, 6), (7, 7)]) Fr.rf eG_2 (Or.inr (by decide))) eG_6 (Or.inr (by decide))) eG_8 (Or.inr (by decide))) eG_11 (Or.inr (by decide))) eG_13 (Or.inr (by decide))) eG_16 (Or.inr (by decide))) eG_21 (Or.inr (by decide))), ((gp_ne eG_21 (by decide)).trans ((gp_ne eG_16 (by decide)).trans ((gp_ne eG_13 (by decide)).trans ((gp_ne eG_11 (by decide)).trans ((gp_ne eG_8 (by decide)).trans ((gp_ne eG_6 (by decide)).trans (gp_eq eG_2))))))), ((gp_ne eG_21 (by decide)).trans ((gp_ne eG_16 (by decide)).trans ((gp_ne eG_13 (by decide)).trans ((gp_ne eG_11 (by decide)).trans ((gp_ne eG_8 (by decide)).trans (gp_eq eG_6)))))), ((gp_ne eG_21 (by decide)).trans ((gp_ne eG_16 (by decide)).trans ((gp_ne eG_13 (by decide)).trans ((gp_ne eG_11 (by decide)).trans (gp_eq eG_8))))), ((gp_ne eG_21 (by decide)).trans ((gp_ne eG_16 (by decide)).trans ((gp_ne eG_13 (by decide)).trans (gp_eq eG_11)))), ((gp_ne eG_21 (by decide)).trans ((gp_ne eG_16 (by decide)).trans (gp_eq eG_13))), ((gp_ne eG_21 (by decide)).trans (gp_eq eG_16)), (gp_eq eG_21)⟩⟩⟩⟩⟩⟩⟩⟩⟩⟩⟩⟩⟩), wd_t ht hW⟩, hS.F ht⟩) hS.2.2 dX0_lookAt_91

set_option maxHeartbeats 4000000 in
set_option maxRecDepth 100000 in
theorem k_cFind_1 (l : Launch) (D : va_G) (k : KT) (A : Nat → Prop) (a : Nat → Nat) (z : SK) (G : GS) (p0 : Int32) (p1 : Int32) (hv_6_4 : G.2.2 6 4 = 1) : Met l yX0_findLawful (WS yX0_findLawful cX0_findLawful 6 none) ({ frames := 3, cells := 0, slots := 0, locals := 66 }) (va_Pc [.ref (a 7), .ref (a 6), .int p0, .int p1] (cW D k A a z G)) (va_Qv (fun (G1 : GS) => P_cFind_1 p0 p1 G G1) (fun (G1 : GS) t => Wd D k A a G1 t.heap) A) 0 0 A := by
  refine Met.ofW (cc := cX0_findLawful) (maxL := 6) (ret := none) (by decide) rfl ?_
  intro p e s m args below meth c s₁ B hml hv
  obtain ⟨rfl, hW, hB_G, hK, hZ⟩ := hv
  have hx := B.exec
  have hb := B.bytes
  have hr := B.returns
  have hts := atoms_spec (ws := WS yX0_findLawful cX0_findLawful 6 none) B.pre
  have hgd : ∀ w ∈ gd, w ∈ WS yX0_findLawful cX0_findLawful 6 none := fun w h => List.mem_cons_of_mem _ h
  have hg : ∀ w ∈ gd, w.before _ s = true := fun w h => hts w (hgd w h)
  have hown : s.vm.findClass RX0 = some m.cls := findClass_of_methodNamed B.named
  have hS : va_S A s.heap s.heap [] := va_S.rf
  have hF : Fr [40] [] G G := Fr.rf
  have hl := lv_entry ([.ref (a 7), .ref (a 6), .int p0, .int p1]) (n := 6) (Nat.le_of_ble_eq_true rfl)
  rw [lg_entry_eq]
  generalize (lg_sl ([.ref (a 7), .ref (a 6), .int p0, .int p1]) ++ List.replicate (6 - (lg_sl ([.ref (a 7), .ref (a 6), .int p0, .int p1])).length) Slot.unset).toArray = ls at hl ⊢
  have hl : lv_has ls 6 [(0, .ref (a 7)), (1, .ref (a 6)), (2, .int p0), (3, .int p1)] := hl
  refine ic_0 hx hb dX0_findLawful_0 ?_
  refine lv_istore (lv' := [(4, .int 0), (0, .ref (a 7)), (1, .ref (a 6)), (2, .int p0), (3, .int p1)]) hx hb dX0_findLawful_1 hl (lt_b rfl) rfl (fun ls hl => ?_)
  refine lv_aload_n hx hb dX0_findLawful_3 rfl (lv_at hl 1 rfl) ?_
  have b_1 : 0 ≤ (G.1 7 1).toInt ∧ (G.1 7 1).toInt ≤ 400 := bd_7_1 hB_G
  refine S_getI (v := (G.1 7 1)) (C := RX0) (T := TX0) (N := 8) hx hb hg iX0 hown hK hW kd_7 rfl 1 (lt_b rfl) (hg (Cond.fieldLink RX0 21 "SlabWalk$Course" "length" "I") m375) (fun _ h9 => h9) rfl rfl dX0_findLawful_4 ?_
  refine ic_1 hx hb dX0_findLawful_7 ?_
  refine lv_isub hx hb dX0_findLawful_8 ?_
  refine lv_topi (fun y_2 ey_2 => ?_)
  have ty_2 : y_2.toInt = (G.1 7 1).toInt - 1 := xI_sub rfl rfl ey_2 (by omega) (by omega)
  refine lv_istore (lv' := [(5, .int y_2), (4, .int 0), (0, .ref (a 7)), (1, .ref (a 6)), (2, .int p0), (3, .int p1)]) hx hb dX0_findLawful_9 hl (lt_b rfl) rfl (fun ls hl => ?_)
  have qc_10 : (0 : Int32).toInt = 0 := rfl
  refine loop_N (Inv := fun n H locs ls => ∃ (G_3 : GS) (x_7 : Int32) (x_8 : Int32), (n : Int) = x_7.toInt - (-1) ∧ ((-1) ≤ x_7.toInt ∧ x_7.toInt ≤ 399) ∧ Rc (St_k_cFind_1_1 p0 p1 G) (y_2, 0, G) (x_7, x_8, G_3) ∧ Wd D k A a G_3 H ∧ Bd G_3 ∧ Fr [40] [] G G_3 ∧ Fr [40] [] G G_3 ∧ va_S A s.heap H locs ∧ lv_has ls 6 [(5, .int x_7), (4, .int x_8), (0, .ref (a 7)), (1, .ref (a 6)), (2, .int p0), (3, .int p1)]) (fun n_6 H locs ls ih_5 hI => ?_) (y_2.toInt - (-1) : Int).toNat ⟨G, y_2, 0, (Int.toNat_of_nonneg (by omega)), ⟨by omega, by omega⟩, Rc.rf, hW, hB_G, hF, Fr.rf, hS, lv_sub hl [0, 1, 2, 3, 4, 5] rfl⟩
  obtain ⟨G_3, x_7, x_8, hn_12, f_11, hX_9, hW, hB_G_3, hF, hq_4, hS, hl⟩ := hI
  refine lv_iload hx hb dX0_findLawful_11 (lv_at hl 0 rfl) ?_
  refine lv_if_lt (tgt := 64) hx hb dX0_findLawful_13 rfl (fun c_13 => ?_) (fun c_13 => ?_)
  · have c_13 : x_7.toInt < 0 := xI_lt rfl rfl c_13
    exact W.vret hx hb hr (fun t ht _ => ⟨⟨G_3, rfl, (P_cFind_1_mk ⟨hB_G_3, hF, ⟨y_2, ty_2, ⟨x_7, x_8, G_3, hX_9, f_11, hB_G_3, hq_4, ⟨c_13, rfl⟩⟩⟩⟩), wd_t ht hW⟩, hS.F ht⟩) hS.2.2 dX0_findLawful_64
  · have c_13 : 0 ≤ x_7.toInt := xI_nlt rfl rfl c_13
    refine lv_aload_n hx hb dX0_findLawful_16 rfl (lv_at hl 3 rfl) ?_
    refine lv_iload_n hx hb dX0_findLawful_17 rfl (lv_at hl 4 rfl) ?_
    refine lv_iload_n hx hb dX0_findLawful_18 rfl (lv_at hl 5 rfl) ?_
    refine lv_iload hx hb dX0_findLawful_19 (lv_at hl 0 rfl) ?_
    refine S_calli (va_runV (As := [.int p0, .int p1, .int x_7]) (rest := []) ⟨hx, hb, hml, hown, hts⟩ (k_lIsLine_1 l D k A a z G_3 p0 p1 x_7 (((hq_4.r9 6 4 rfl rfl)).trans (hv_6_4))) (cwV 3 hts (gd_V hgd m988 m941 m942 m122 m943) rfl rfl rfl hd_X3_isLine ⟨Nat.le_of_ble_eq_true rfl, Nat.le_of_ble_eq_true rfl⟩) (pre_W hW hB_G_3 hK hZ hS kd_6 rfl) rfl rfl hl.1 rfl (lv_room (Nat.le_of_ble_eq_true rfl)) dX0_findLawful_21 ⟨Nat.le_of_ble_eq_true rfl, Nat.le_of_ble_eq_true rfl⟩) hS (fun r_14 G_15 H locs hpo hW hS => ?_)
    have hX_18 : P_lIsLine_1 p0 p1 x_7 G_3 r_14 G_15 := hpo
    obtain ⟨hB_G_15, hq_16, f_19, -⟩ := hpo
    have hF := hF.call9 hq_16 rfl rfl
    refine lv_if_eq (tgt := 31) hx hb dX0_findLawful_24 rfl (fun c_20 => ?_) (fun c_20 => ?_)
    · have c_20 : r_14.toInt = 0 := xI_eq rfl rfl c_20
      refine lv_iload hx hb dX0_findLawful_31 (lv_at hl 1 rfl) ?_
      refine ic_1 hx hb dX0_findLawful_33 ?_
      refine lv_iadd hx hb dX0_findLawful_34 ?_
      refine lv_topi (fun y_21 ey_21 => ?_)
      refine lv_istore (lv' := [(4, .int y_21), (5, .int x_7), (0, .ref (a 7)), (1, .ref (a 6)), (2, .int p0), (3, .int p1)]) hx hb dX0_findLawful_35 hl (lt_b rfl) rfl (fun ls hl => ?_)
      refine lv_aload_n hx hb dX0_findLawful_37 rfl (lv_at hl 2 rfl) ?_
      refine S_getR (n := 40) (C := RX0) (T := TX0) (N := 8) hx hb hg iX0 hown hK hW kd_7 rfl 0 (lt_b rfl) (hg (Cond.fieldLink RX0 9 "SlabWalk$Course" "lawful" "[Z") m371) (fun _ h9 => h9) rfl dX0_findLawful_38 ?_
      refine lv_iload hx hb dX0_findLawful_41 (lv_at hl 1 rfl) ?_
      refine lv_iload hx hb dX0_findLawful_43 (lv_at hl 0 rfl) ?_
      refine lv_aload_n hx hb dX0_findLawful_45 rfl (lv_at hl 2 rfl) ?_
      have b_22 : 0 ≤ (G.1 7 2).toInt ∧ (G.1 7 2).toInt ≤ 12 := bd_7_2 hB_G
      refine S_getI (v := (G.1 7 2)) (C := RX0) (T := TX0) (N := 8) hx hb hg iX0 hown hK hW kd_7 rfl 2 (lt_b rfl) (hg (Cond.fieldLink RX0 27 "SlabWalk$Course" "foot" "I") m376) (fun _ h9 => h9) rfl ((hq_16.i9 7 2 rfl rfl).trans (hq_4.i9 7 2 rfl rfl)) dX0_findLawful_46 ?_
      refine lv_icmp_lt (tgt := 56) hx hb dX0_findLawful_49 rfl (fun c_23 => ?_) (fun c_23 => ?_)
      · have c_23 : y_21.toInt < (G.1 7 2).toInt := xI_lt rfl rfl c_23
        refine ic_0 hx hb dX0_findLawful_56 ?_
        refine S_zast hx hb hK hW hS kd_40 (vin ((by first | (clear b_1 ty_2 hn_12 f_19 c_20 b_22 c_23; omega) | omega)) ((by first | (clear b_1 ty_2 hn_12 f_19 c_20 b_22 c_23; omega) | omega))) dX0_findLawful_57 (fun G_24 H locs eG_24 hW hS => ?_)
        have hB_G_24 : Bd G_24 := hB_G_15.put (lo := 0) (hi := 1) eG_24 rfl rfl rfl nz_bool.1 nz_bool.2 (hB_G_15.2.put eG_24 rfl)
        have hF := hF.put eG_24 (Or.inl (by decide))
        obtain ⟨y_25, ey_25⟩ : ∃ q, q = x_7 + (-1) := ⟨_, rfl⟩
        have ty_25 : y_25.toInt = x_7.toInt + (-1) := xI_add rfl rfl ey_25 ((by first | (clear b_1 ty_2 hn_12 f_19 c_20 b_22 c_23; omega) | omega)) ((by first | (clear b_1 ty_2 hn_12 f_19 c_20 b_22 c_23; omega) | omega))
        refine lv_iinc (v := y_25) (lv' := [(5, .int y_25), (4, .int y_21), (0, .ref (a 7)), (1, .ref (a 6)), (2, .int p0), (3, .int p1)]) hx hb dX0_findLawful_58 hl (k := 1) rfl (by rw [ey_25]; rfl) (lt_b rfl) rfl (fun ls hl => ?_)
        refine lv_goto (tgt := 11) hx hb dX0_findLawful_61 rfl ?_
        exact ih_5 (y_25.toInt - (-1) : Int).toNat ((by first | (clear b_1 ty_2 f_19 c_20 b_22 c_23; omega) | omega)) _ _ _ ⟨G_24, y_25, y_21, (Int.toNat_of_nonneg ((by first | (clear b_1 ty_2 hn_12 f_19 c_20 b_22 c_23; omega) | omega))), ⟨(by first | (clear b_1 ty_2 hn_12 f_19 c_20 b_22 c_23; omega) | omega), (by first | (clear b_1 ty_2 hn_12 f_19 c_20 b_22 c_23; omega) | omega)⟩, (hX_9.st (St_k_cFind_1_1_mk ⟨x_7, x_8, G_3, y_25, y_21, G_24, rfl, rfl, f_11, hB_G_3, ⟨c_13, ⟨r_14, G_15, hX_18, (Or.inl ⟨c_20, ⟨y_21, ey_21, (Or.inl ⟨c_23, ⟨y_25, ty_25, ⟨rfl, rfl, (Fr.put (rs := [40]) (fs := []) Fr.rf eG_24 (Or.inl (by decide))), rw_ast eG_24⟩⟩⟩)⟩⟩)⟩⟩⟩)), hW, hB_G_24, hF, (Fr.put (rs := [40]) (fs := []) (Fr.call9 (rs := [40]) (fs := []) (Fr.call9 (rs := [40]) (fs := []) Fr.rf hq_4 rfl rfl) hq_16 rfl rfl) eG_24 (Or.inl (by decide))), hS, lv_sub hl [0, 1, 2, 3, 4, 5] rfl⟩
      · have c_23 : (G.1 7 2).toInt ≤ y_21.toInt := xI_nlt rfl rfl c_23
        refine ic_1 hx hb dX0_findLawful_52 ?_
        refine lv_goto (tgt := 57) hx hb dX0_findLawful_53 rfl ?_
        refine S_zast hx hb hK hW hS kd_40 (vin ((by first | (clear b_1 ty_2 hn_12 f_19 c_20 b_22 c_23; omega) | omega)) ((by first | (clear b_1 ty_2 hn_12 f_19 c_20 b_22 c_23; omega) | omega))) dX0_findLawful_57 (fun G_26 H locs eG_26 hW hS => ?_)
        have hB_G_26 : Bd G_26 := hB_G_15.put (lo := 0) (hi := 1) eG_26 rfl rfl rfl nz_bool.1 nz_bool.2 (hB_G_15.2.put eG_26 rfl)
        have hF := hF.put eG_26 (Or.inl (by decide))
        obtain ⟨y_27, ey_27⟩ : ∃ q, q = x_7 + (-1) := ⟨_, rfl⟩
        have ty_27 : y_27.toInt = x_7.toInt + (-1) := xI_add rfl rfl ey_27 ((by first | (clear b_1 ty_2 hn_12 f_19 c_20 b_22 c_23; omega) | omega)) ((by first | (clear b_1 ty_2 hn_12 f_19 c_20 b_22 c_23; omega) | omega))
        refine lv_iinc (v := y_27) (lv' := [(5, .int y_27), (4, .int y_21), (0, .ref (a 7)), (1, .ref (a 6)), (2, .int p0), (3, .int p1)]) hx hb dX0_findLawful_58 hl (k := 1) rfl (by rw [ey_27]; rfl) (lt_b rfl) rfl (fun ls hl => ?_)
        refine lv_goto (tgt := 11) hx hb dX0_findLawful_61 rfl ?_
        exact ih_5 (y_27.toInt - (-1) : Int).toNat ((by first | (clear b_1 ty_2 f_19 c_20 b_22 c_23; omega) | omega)) _ _ _ ⟨G_26, y_27, y_21, (Int.toNat_of_nonneg ((by first | (clear b_1 ty_2 hn_12 f_19 c_20 b_22 c_23; omega) | omega))), ⟨(by first | (clear b_1 ty_2 hn_12 f_19 c_20 b_22 c_23; omega) | omega), (by first | (clear b_1 ty_2 hn_12 f_19 c_20 b_22 c_23; omega) | omega)⟩, (hX_9.st (St_k_cFind_1_1_mk ⟨x_7, x_8, G_3, y_27, y_21, G_26, rfl, rfl, f_11, hB_G_3, ⟨c_13, ⟨r_14, G_15, hX_18, (Or.inl ⟨c_20, ⟨y_21, ey_21, (Or.inr ⟨c_23, ⟨y_27, ty_27, ⟨rfl, rfl, (Fr.put (rs := [40]) (fs := []) Fr.rf eG_26 (Or.inl (by decide))), rw_ast eG_26⟩⟩⟩)⟩⟩)⟩⟩⟩)), hW, hB_G_26, hF, (Fr.put (rs := [40]) (fs := []) (Fr.call9 (rs := [40]) (fs := []) (Fr.call9 (rs := [40]) (fs := []) Fr.rf hq_4 rfl rfl) hq_16 rfl rfl) eG_26 (Or.inl (by decide))), hS, lv_sub hl [0, 1, 2, 3, 4, 5] rfl⟩
    · have c_20 : r_14.toInt ≠ 0 := xI_ne rfl rfl c_20
      refine ic_0 hx hb dX0_findLawful_27 ?_
      refine lv_goto (tgt := 35) hx hb dX0_findLawful_28 rfl ?_
      refine lv_istore (lv' := [(4, .int 0), (5, .int x_7), (0, .ref (a 7)), (1, .ref (a 6)), (2, .int p0), (3, .int p1)]) hx hb dX0_findLawful_35 hl (lt_b rfl) rfl (fun ls hl => ?_)
      refine lv_aload_n hx hb dX0_findLawful_37 rfl (lv_at hl 2 rfl) ?_
      refine S_getR (n := 40) (C := RX0) (T := TX0) (N := 8) hx hb hg iX0 hown hK hW kd_7 rfl 0 (lt_b rfl) (hg (Cond.fieldLink RX0 9 "SlabWalk$Course" "lawful" "[Z") m371) (fun _ h9 => h9) rfl dX0_findLawful_38 ?_
      refine lv_iload hx hb dX0_findLawful_41 (lv_at hl 1 rfl) ?_
      refine lv_iload hx hb dX0_findLawful_43 (lv_at hl 0 rfl) ?_
      refine lv_aload_n hx hb dX0_findLawful_45 rfl (lv_at hl 2 rfl) ?_
      have b_28 : 0 ≤ (G.1 7 2).toInt ∧ (G.1 7 2).toInt ≤ 12 := bd_7_2 hB_G
      refine S_getI (v := (G.1 7 2)) (C := RX0) (T := TX0) (N := 8) hx hb hg iX0 hown hK hW kd_7 rfl 2 (lt_b rfl) (hg (Cond.fieldLink RX0 27 "SlabWalk$Course" "foot" "I") m376) (fun _ h9 => h9) rfl ((hq_16.i9 7 2 rfl rfl).trans (hq_4.i9 7 2 rfl rfl)) dX0_findLawful_46 ?_
      refine lv_icmp_lt (tgt := 56) hx hb dX0_findLawful_49 rfl (fun c_29 => ?_) (fun c_29 => ?_)
      · have c_29 : 0 < (G.1 7 2).toInt := xI_lt rfl rfl c_29
        refine ic_0 hx hb dX0_findLawful_56 ?_
        refine S_zast hx hb hK hW hS kd_40 (vin ((by first | (clear b_1 ty_2 hn_12 f_19 c_20 b_28 c_29; omega) | omega)) ((by first | (clear b_1 ty_2 hn_12 f_19 c_20 b_28 c_29; omega) | omega))) dX0_findLawful_57 (fun G_30 H locs eG_30 hW hS => ?_)
        have hB_G_30 : Bd G_30 := hB_G_15.put (lo := 0) (hi := 1) eG_30 rfl rfl rfl nz_bool.1 nz_bool.2 (hB_G_15.2.put eG_30 rfl)
        have hF := hF.put eG_30 (Or.inl (by decide))
        obtain ⟨y_31, ey_31⟩ : ∃ q, q = x_7 + (-1) := ⟨_, rfl⟩
        have ty_31 : y_31.toInt = x_7.toInt + (-1) := xI_add rfl rfl ey_31 ((by first | (clear b_1 ty_2 hn_12 f_19 c_20 b_28 c_29; omega) | omega)) ((by first | (clear b_1 ty_2 hn_12 f_19 c_20 b_28 c_29; omega) | omega))
        refine lv_iinc (v := y_31) (lv' := [(5, .int y_31), (4, .int 0), (0, .ref (a 7)), (1, .ref (a 6)), (2, .int p0), (3, .int p1)]) hx hb dX0_findLawful_58 hl (k := 1) rfl (by rw [ey_31]; rfl) (lt_b rfl) rfl (fun ls hl => ?_)
        refine lv_goto (tgt := 11) hx hb dX0_findLawful_61 rfl ?_
        have qc_32 : (0 : Int32).toInt = 0 := rfl
        exact ih_5 (y_31.toInt - (-1) : Int).toNat ((by first | (clear b_1 ty_2 f_19 c_20 b_28 c_29; omega) | omega)) _ _ _ ⟨G_30, y_31, 0, (Int.toNat_of_nonneg ((by first | (clear b_1 ty_2 hn_12 f_19 c_20 b_28 c_29; omega) | omega))), ⟨(by first | (clear b_1 ty_2 hn_12 f_19 c_20 b_28 c_29; omega) | omega), (by first | (clear b_1 ty_2 hn_12 f_19 c_20 b_28 c_29; omega) | omega)⟩, (hX_9.st (St_k_cFind_1_1_mk ⟨x_7, x_8, G_3, y_31, 0, G_30, rfl, rfl, f_11, hB_G_3, ⟨c_13, ⟨r_14, G_15, hX_18, (Or.inr ⟨c_20, (Or.inl ⟨c_29, ⟨y_31, ty_31, ⟨rfl, rfl, (Fr.put (rs := [40]) (fs := []) Fr.rf eG_30 (Or.inl (by decide))), rw_ast eG_30⟩⟩⟩)⟩)⟩⟩⟩)), hW, hB_G_30, hF, (Fr.put (rs := [40]) (fs := []) (Fr.call9 (rs := [40]) (fs := []) (Fr.call9 (rs := [40]) (fs := []) Fr.rf hq_4 rfl rfl) hq_16 rfl rfl) eG_30 (Or.inl (by decide))), hS, lv_sub hl [0, 1, 2, 3, 4, 5] rfl⟩
      · have c_29 : (G.1 7 2).toInt ≤ 0 := xI_nlt rfl rfl c_29
        refine ic_1 hx hb dX0_findLawful_52 ?_
        refine lv_goto (tgt := 57) hx hb dX0_findLawful_53 rfl ?_
        refine S_zast hx hb hK hW hS kd_40 (vin ((by first | (clear b_1 ty_2 hn_12 f_19 c_20 b_28 c_29; omega) | omega)) ((by first | (clear b_1 ty_2 hn_12 f_19 c_20 b_28 c_29; omega) | omega))) dX0_findLawful_57 (fun G_33 H locs eG_33 hW hS => ?_)
        have hB_G_33 : Bd G_33 := hB_G_15.put (lo := 0) (hi := 1) eG_33 rfl rfl rfl nz_bool.1 nz_bool.2 (hB_G_15.2.put eG_33 rfl)
        have hF := hF.put eG_33 (Or.inl (by decide))
        obtain ⟨y_34, ey_34⟩ : ∃ q, q = x_7 + (-1) := ⟨_, rfl⟩
        have ty_34 : y_34.toInt = x_7.toInt + (-1) := xI_add rfl rfl ey_34 ((by first | (clear b_1 ty_2 hn_12 f_19 c_20 b_28 c_29; omega) | omega)) ((by first | (clear b_1 ty_2 hn_12 f_19 c_20 b_28 c_29; omega) | omega))
        refine lv_iinc (v := y_34) (lv' := [(5, .int y_34), (4, .int 0), (0, .ref (a 7)), (1, .ref (a 6)), (2, .int p0), (3, .int p1)]) hx hb dX0_findLawful_58 hl (k := 1) rfl (by rw [ey_34]; rfl) (lt_b rfl) rfl (fun ls hl => ?_)
        refine lv_goto (tgt := 11) hx hb dX0_findLawful_61 rfl ?_
        have qc_35 : (0 : Int32).toInt = 0 := rfl
        exact ih_5 (y_34.toInt - (-1) : Int).toNat ((by first | (clear b_1 ty_2 f_19 c_20 b_28 c_29; omega) | omega)) _ _ _ ⟨G_33, y_34, 0, (Int.toNat_of_nonneg ((by first | (clear b_1 ty_2 hn_12 f_19 c_20 b_28 c_29; omega) | omega))), ⟨(by first | (clear b_1 ty_2 hn_12 f_19 c_20 b_28 c_29; omega) | omega), (by first | (clear b_1 ty_2 hn_12 f_19 c_20 b_28 c_29; omega) | omega)⟩, (hX_9.st (St_k_cFind_1_1_mk ⟨x_7, x_8, G_3, y_34, 0, G_33, rfl, rfl, f_11, hB_G_3, ⟨c_13, ⟨r_14, G_15, hX_18, (Or.inr ⟨c_20, (Or.inr ⟨c_29, ⟨y_34, ty_34, ⟨rfl, rfl, (Fr.put (rs := [40]) (fs := []) Fr.rf eG_33 (Or.inl (by decide))), rw_ast eG_33⟩⟩⟩)⟩)⟩⟩⟩)), hW, hB_G_33, hF, (Fr.put (rs := [40]) (fs := []) (Fr.call9 (rs := [40]) (fs := []) (Fr.call9 (rs := [40]) (fs := []) Fr.rf hq_4 rfl rfl) hq_16 rfl rfl) eG_33 (Or.inl (by decide))), hS, lv_sub hl [0, 1, 2, 3, 4, 5] rfl⟩
