theorem m12 : Cond.selects RX7 yX7_isNumber yX7_isNumber ∈ gd := gds_1 12 rfl
theorem m119 : Cond.initialized RX7 ∈ gd := gdc_1_0 3 rfl gw_initialized
theorem m261 : Cond.fieldLink RX7 62 "SlabWalk$Tokens" "kind" "I" ∈ gd := gdc_1_9 1 rfl gw_fieldLink
theorem m265 : Cond.fieldLink RX7 96 "SlabWalk$Tokens" "number" "I" ∈ gd := gdc_1_9 5 rfl gw_fieldLink
theorem m268 : Cond.fieldLink RX7 92 "SlabWalk$Tokens" "word" "J" ∈ gd := gdc_1_9 8 rfl gw_fieldLink
theorem m311 : Cond.fieldLink RX7 26 "SlabWalk$Reader" "tokens" "LSlabWalk$Tokens;" ∈ gd := gdc_1_12 3 rfl gw_fieldLink
theorem m321 : Cond.fieldLink RX7 99 "SlabWalk$Reader" "number" "I" ∈ gd := gdc_1_12 13 rfl gw_fieldLink
theorem m777 : Cond.methodLink RX7 89 yX9_advance ∈ gd := gdc_3_11 5 rfl gw_methodLink
theorem m778 : Cond.methodLink RX7 85 yX9_refuse ∈ gd := gdc_3_11 6 rfl gw_methodLink
theorem m795 : Cond.methodLink RX7 100 yX7_isNumber ∈ gd := gdc_3_12 7 rfl gw_methodLink
theorem m797 : Cond.instanceMethod yX7_isNumber ∈ gd := gdc_3_12 9 rfl gw_instanceMethod
theorem m798 : Cond.code yX7_isNumber cX7_isNumber 3 (some .boolean) ∈ gd := gdc_3_12 10 rfl gw_code
def rbX7_isNumber_0 : List (Nat × List Nat) := [(0, [42]), (1, [180, 0, 26]), (4, [180, 0, 62]), (7, [17, 0, 201]), (10, [159, 0, 12]), (13, [42]), (14, [180, 0, 26]), (17, [5]), (18, [182, 0, 85]), (21, [172]), (22, [42]), (23, [180, 0, 26]), (26, [180, 0, 96]), (29, [27]), (30, [161, 0, 14]), (33, [42]), (34, [180, 0, 26]), (37, [180, 0, 96]), (40, [28]), (41, [164, 0, 12]), (44, [42]), (45, [180, 0, 26]), (48, [7]), (49, [182, 0, 85])]
theorem rcX7_isNumber_0 : dgo (lb cX7_isNumber) 0 rbX7_isNumber_0 = true := by decide +kernel
theorem dX7_isNumber_0 : decode cX7_isNumber 0 = .ok (.aload_n 0, 1) := dk_42 (dw rcX7_isNumber_0 0 rfl)
theorem dX7_isNumber_1 : decode cX7_isNumber 1 = .ok (.getfield 26, 3) := dk_180 (dw rcX7_isNumber_0 1 rfl) rfl
theorem dX7_isNumber_4 : decode cX7_isNumber 4 = .ok (.getfield 62, 3) := dk_180 (dw rcX7_isNumber_0 2 rfl) rfl
theorem dX7_isNumber_7 : decode cX7_isNumber 7 = .ok (.sipush 201, 3) := dk_17 (dw rcX7_isNumber_0 3 rfl) rfl
theorem dX7_isNumber_10 : decode cX7_isNumber 10 = .ok (.if_icmp .eq 12, 3) := dk_159 (dw rcX7_isNumber_0 4 rfl) rfl
theorem dX7_isNumber_13 : decode cX7_isNumber 13 = .ok (.aload_n 0, 1) := dk_42 (dw rcX7_isNumber_0 5 rfl)
theorem dX7_isNumber_14 : decode cX7_isNumber 14 = .ok (.getfield 26, 3) := dk_180 (dw rcX7_isNumber_0 6 rfl) rfl
theorem dX7_isNumber_17 : decode cX7_isNumber 17 = .ok (.iconst 2, 1) := dk_5 (dw rcX7_isNumber_0 7 rfl)
theorem dX7_isNumber_18 : decode cX7_isNumber 18 = .ok (.invokevirtual 85, 3) := dk_182 (dw rcX7_isNumber_0 8 rfl) rfl
theorem dX7_isNumber_21 : decode cX7_isNumber 21 = .ok (.ireturn, 1) := dk_172 (dw rcX7_isNumber_0 9 rfl)
theorem dX7_isNumber_22 : decode cX7_isNumber 22 = .ok (.aload_n 0, 1) := dk_42 (dw rcX7_isNumber_0 10 rfl)
theorem dX7_isNumber_23 : decode cX7_isNumber 23 = .ok (.getfield 26, 3) := dk_180 (dw rcX7_isNumber_0 11 rfl) rfl
theorem dX7_isNumber_26 : decode cX7_isNumber 26 = .ok (.getfield 96, 3) := dk_180 (dw rcX7_isNumber_0 12 rfl) rfl
theorem dX7_isNumber_29 : decode cX7_isNumber 29 = .ok (.iload_n 1, 1) := dk_27 (dw rcX7_isNumber_0 13 rfl)
theorem dX7_isNumber_30 : decode cX7_isNumber 30 = .ok (.if_icmp .lt 14, 3) := dk_161 (dw rcX7_isNumber_0 14 rfl) rfl
theorem dX7_isNumber_33 : decode cX7_isNumber 33 = .ok (.aload_n 0, 1) := dk_42 (dw rcX7_isNumber_0 15 rfl)
theorem dX7_isNumber_34 : decode cX7_isNumber 34 = .ok (.getfield 26, 3) := dk_180 (dw rcX7_isNumber_0 16 rfl) rfl
theorem dX7_isNumber_37 : decode cX7_isNumber 37 = .ok (.getfield 96, 3) := dk_180 (dw rcX7_isNumber_0 17 rfl) rfl
theorem dX7_isNumber_40 : decode cX7_isNumber 40 = .ok (.iload_n 2, 1) := dk_28 (dw rcX7_isNumber_0 18 rfl)
theorem dX7_isNumber_41 : decode cX7_isNumber 41 = .ok (.if_icmp .le 12, 3) := dk_164 (dw rcX7_isNumber_0 19 rfl) rfl
theorem dX7_isNumber_44 : decode cX7_isNumber 44 = .ok (.aload_n 0, 1) := dk_42 (dw rcX7_isNumber_0 20 rfl)
theorem dX7_isNumber_45 : decode cX7_isNumber 45 = .ok (.getfield 26, 3) := dk_180 (dw rcX7_isNumber_0 21 rfl) rfl
theorem dX7_isNumber_48 : decode cX7_isNumber 48 = .ok (.iconst 4, 1) := dk_7 (dw rcX7_isNumber_0 22 rfl)
theorem dX7_isNumber_49 : decode cX7_isNumber 49 = .ok (.invokevirtual 85, 3) := dk_182 (dw rcX7_isNumber_0 23 rfl) rfl
def rbX7_isNumber_52 : List (Nat × List Nat) := [(52, [172]), (53, [42]), (54, [42]), (55, [180, 0, 26]), (58, [180, 0, 96]), (61, [181, 0, 99]), (64, [4]), (65, [172])]
theorem rcX7_isNumber_52 : dgo (lb cX7_isNumber) 0 rbX7_isNumber_52 = true := by decide +kernel
theorem dX7_isNumber_52 : decode cX7_isNumber 52 = .ok (.ireturn, 1) := dk_172 (dw rcX7_isNumber_52 0 rfl)
theorem dX7_isNumber_53 : decode cX7_isNumber 53 = .ok (.aload_n 0, 1) := dk_42 (dw rcX7_isNumber_52 1 rfl)
theorem dX7_isNumber_54 : decode cX7_isNumber 54 = .ok (.aload_n 0, 1) := dk_42 (dw rcX7_isNumber_52 2 rfl)
theorem dX7_isNumber_55 : decode cX7_isNumber 55 = .ok (.getfield 26, 3) := dk_180 (dw rcX7_isNumber_52 3 rfl) rfl
theorem dX7_isNumber_58 : decode cX7_isNumber 58 = .ok (.getfield 96, 3) := dk_180 (dw rcX7_isNumber_52 4 rfl) rfl
theorem dX7_isNumber_61 : decode cX7_isNumber 61 = .ok (.putfield 99, 3) := dk_181 (dw rcX7_isNumber_52 5 rfl) rfl
theorem dX7_isNumber_64 : decode cX7_isNumber 64 = .ok (.iconst 1, 1) := dk_4 (dw rcX7_isNumber_52 6 rfl)
theorem dX7_isNumber_65 : decode cX7_isNumber 65 = .ok (.ireturn, 1) := dk_172 (dw rcX7_isNumber_52 7 rfl)
def rbX7_passFirst_0 : List (Nat × List Nat) := [(0, [27]), (1, [153, 0, 13]), (4, [42]), (5, [180, 0, 26]), (8, [182, 0, 89]), (11, [167, 0, 11]), (14, [42]), (15, [180, 0, 26]), (18, [5]), (19, [182, 0, 85]), (22, [172])]
theorem rcX7_passFirst_0 : dgo (lb cX7_passFirst) 0 rbX7_passFirst_0 = true := by decide +kernel
theorem dX7_passFirst_0 : decode cX7_passFirst 0 = .ok (.iload_n 1, 1) := dk_27 (dw rcX7_passFirst_0 0 rfl)
theorem dX7_passFirst_1 : decode cX7_passFirst 1 = .ok (.ifCond .eq 13, 3) := dk_153 (dw rcX7_passFirst_0 1 rfl) rfl
theorem dX7_passFirst_4 : decode cX7_passFirst 4 = .ok (.aload_n 0, 1) := dk_42 (dw rcX7_passFirst_0 2 rfl)
theorem dX7_passFirst_5 : decode cX7_passFirst 5 = .ok (.getfield 26, 3) := dk_180 (dw rcX7_passFirst_0 3 rfl) rfl
theorem dX7_passFirst_8 : decode cX7_passFirst 8 = .ok (.invokevirtual 89, 3) := dk_182 (dw rcX7_passFirst_0 4 rfl) rfl
theorem dX7_passFirst_11 : decode cX7_passFirst 11 = .ok (.goto 11, 3) := dk_167 (dw rcX7_passFirst_0 5 rfl) rfl
theorem dX7_passFirst_14 : decode cX7_passFirst 14 = .ok (.aload_n 0, 1) := dk_42 (dw rcX7_passFirst_0 6 rfl)
theorem dX7_passFirst_15 : decode cX7_passFirst 15 = .ok (.getfield 26, 3) := dk_180 (dw rcX7_passFirst_0 7 rfl) rfl
theorem dX7_passFirst_18 : decode cX7_passFirst 18 = .ok (.iconst 2, 1) := dk_5 (dw rcX7_passFirst_0 8 rfl)
theorem dX7_passFirst_19 : decode cX7_passFirst 19 = .ok (.invokevirtual 85, 3) := dk_182 (dw rcX7_passFirst_0 9 rfl) rfl
theorem dX7_passFirst_22 : decode cX7_passFirst 22 = .ok (.ireturn, 1) := dk_172 (dw rcX7_passFirst_0 10 rfl)
def rbX7_passName_0 : List (Nat × List Nat) := [(0, [42]), (1, [180, 0, 26]), (4, [180, 0, 62]), (7, [17, 0, 200]), (10, [160, 0, 9]), (13, [28]), (14, [43]), (15, [190]), (16, [161, 0, 12]), (19, [42]), (20, [180, 0, 26]), (23, [5]), (24, [182, 0, 85]), (27, [172]), (28, [3]), (29, [62]), (30, [29]), (31, [28]), (32, [162, 0, 32]), (35, [43]), (36, [29]), (37, [47]), (38, [42]), (39, [180, 0, 26])]
theorem rcX7_passName_0 : dgo (lb cX7_passName) 0 rbX7_passName_0 = true := by decide +kernel
theorem dX7_passName_0 : decode cX7_passName 0 = .ok (.aload_n 0, 1) := dk_42 (dw rcX7_passName_0 0 rfl)
theorem dX7_passName_1 : decode cX7_passName 1 = .ok (.getfield 26, 3) := dk_180 (dw rcX7_passName_0 1 rfl) rfl
theorem dX7_passName_4 : decode cX7_passName 4 = .ok (.getfield 62, 3) := dk_180 (dw rcX7_passName_0 2 rfl) rfl
theorem dX7_passName_7 : decode cX7_passName 7 = .ok (.sipush 200, 3) := dk_17 (dw rcX7_passName_0 3 rfl) rfl
theorem dX7_passName_10 : decode cX7_passName 10 = .ok (.if_icmp .ne 9, 3) := dk_160 (dw rcX7_passName_0 4 rfl) rfl
theorem dX7_passName_13 : decode cX7_passName 13 = .ok (.iload_n 2, 1) := dk_28 (dw rcX7_passName_0 5 rfl)
theorem dX7_passName_14 : decode cX7_passName 14 = .ok (.aload_n 1, 1) := dk_43 (dw rcX7_passName_0 6 rfl)
theorem dX7_passName_15 : decode cX7_passName 15 = .ok (.arraylength, 1) := dk_190 (dw rcX7_passName_0 7 rfl)
theorem dX7_passName_16 : decode cX7_passName 16 = .ok (.if_icmp .lt 12, 3) := dk_161 (dw rcX7_passName_0 8 rfl) rfl
theorem dX7_passName_19 : decode cX7_passName 19 = .ok (.aload_n 0, 1) := dk_42 (dw rcX7_passName_0 9 rfl)
theorem dX7_passName_20 : decode cX7_passName 20 = .ok (.getfield 26, 3) := dk_180 (dw rcX7_passName_0 10 rfl) rfl
theorem dX7_passName_23 : decode cX7_passName 23 = .ok (.iconst 2, 1) := dk_5 (dw rcX7_passName_0 11 rfl)
theorem dX7_passName_24 : decode cX7_passName 24 = .ok (.invokevirtual 85, 3) := dk_182 (dw rcX7_passName_0 12 rfl) rfl
theorem dX7_passName_27 : decode cX7_passName 27 = .ok (.ireturn, 1) := dk_172 (dw rcX7_passName_0 13 rfl)
theorem dX7_passName_28 : decode cX7_passName 28 = .ok (.iconst 0, 1) := dk_3 (dw rcX7_passName_0 14 rfl)
theorem dX7_passName_29 : decode cX7_passName 29 = .ok (.istore_n 3, 1) := dk_62 (dw rcX7_passName_0 15 rfl)
theorem dX7_passName_30 : decode cX7_passName 30 = .ok (.iload_n 3, 1) := dk_29 (dw rcX7_passName_0 16 rfl)
theorem dX7_passName_31 : decode cX7_passName 31 = .ok (.iload_n 2, 1) := dk_28 (dw rcX7_passName_0 17 rfl)
theorem dX7_passName_32 : decode cX7_passName 32 = .ok (.if_icmp .ge 32, 3) := dk_162 (dw rcX7_passName_0 18 rfl) rfl
theorem dX7_passName_35 : decode cX7_passName 35 = .ok (.aload_n 1, 1) := dk_43 (dw rcX7_passName_0 19 rfl)
theorem dX7_passName_36 : decode cX7_passName 36 = .ok (.iload_n 3, 1) := dk_29 (dw rcX7_passName_0 20 rfl)
theorem dX7_passName_37 : decode cX7_passName 37 = .ok (.laload, 1) := dk_47 (dw rcX7_passName_0 21 rfl)
theorem dX7_passName_38 : decode cX7_passName 38 = .ok (.aload_n 0, 1) := dk_42 (dw rcX7_passName_0 22 rfl)
theorem dX7_passName_39 : decode cX7_passName 39 = .ok (.getfield 26, 3) := dk_180 (dw rcX7_passName_0 23 rfl) rfl
def rbX7_passName_42 : List (Nat × List Nat) := [(42, [180, 0, 92]), (45, [148]), (46, [154, 0, 12]), (49, [42]), (50, [180, 0, 26]), (53, [6]), (54, [182, 0, 85]), (57, [172]), (58, [132, 3, 1]), (61, [167, 255, 225]), (64, [43]), (65, [28]), (66, [42]), (67, [180, 0, 26]), (70, [180, 0, 92]), (73, [80]), (74, [42]), (75, [180, 0, 26]), (78, [182, 0, 89]), (81, [172])]
theorem rcX7_passName_42 : dgo (lb cX7_passName) 0 rbX7_passName_42 = true := by decide +kernel
theorem dX7_passName_42 : decode cX7_passName 42 = .ok (.getfield 92, 3) := dk_180 (dw rcX7_passName_42 0 rfl) rfl
theorem dX7_passName_45 : decode cX7_passName 45 = .ok (.lcmp, 1) := dk_148 (dw rcX7_passName_42 1 rfl)
theorem dX7_passName_46 : decode cX7_passName 46 = .ok (.ifCond .ne 12, 3) := dk_154 (dw rcX7_passName_42 2 rfl) rfl
theorem dX7_passName_49 : decode cX7_passName 49 = .ok (.aload_n 0, 1) := dk_42 (dw rcX7_passName_42 3 rfl)
theorem dX7_passName_50 : decode cX7_passName 50 = .ok (.getfield 26, 3) := dk_180 (dw rcX7_passName_42 4 rfl) rfl
theorem dX7_passName_53 : decode cX7_passName 53 = .ok (.iconst 3, 1) := dk_6 (dw rcX7_passName_42 5 rfl)
theorem dX7_passName_54 : decode cX7_passName 54 = .ok (.invokevirtual 85, 3) := dk_182 (dw rcX7_passName_42 6 rfl) rfl
theorem dX7_passName_57 : decode cX7_passName 57 = .ok (.ireturn, 1) := dk_172 (dw rcX7_passName_42 7 rfl)
theorem dX7_passName_58 : decode cX7_passName 58 = .ok (.iinc 3 1, 3) := dk_132 (dw rcX7_passName_42 8 rfl) rfl
theorem dX7_passName_61 : decode cX7_passName 61 = .ok (.goto (-31), 3) := dk_167 (dw rcX7_passName_42 9 rfl) rfl
theorem dX7_passName_64 : decode cX7_passName 64 = .ok (.aload_n 1, 1) := dk_43 (dw rcX7_passName_42 10 rfl)
theorem dX7_passName_65 : decode cX7_passName 65 = .ok (.iload_n 2, 1) := dk_28 (dw rcX7_passName_42 11 rfl)
theorem dX7_passName_66 : decode cX7_passName 66 = .ok (.aload_n 0, 1) := dk_42 (dw rcX7_passName_42 12 rfl)
theorem dX7_passName_67 : decode cX7_passName 67 = .ok (.getfield 26, 3) := dk_180 (dw rcX7_passName_42 13 rfl) rfl
theorem dX7_passName_70 : decode cX7_passName 70 = .ok (.getfield 92, 3) := dk_180 (dw rcX7_passName_42 14 rfl) rfl
theorem dX7_passName_73 : decode cX7_passName 73 = .ok (.lastore, 1) := dk_80 (dw rcX7_passName_42 15 rfl)
theorem dX7_passName_74 : decode cX7_passName 74 = .ok (.aload_n 0, 1) := dk_42 (dw rcX7_passName_42 16 rfl)
theorem dX7_passName_75 : decode cX7_passName 75 = .ok (.getfield 26, 3) := dk_180 (dw rcX7_passName_42 17 rfl) rfl
theorem dX7_passName_78 : decode cX7_passName 78 = .ok (.invokevirtual 89, 3) := dk_182 (dw rcX7_passName_42 18 rfl) rfl
theorem dX7_passName_81 : decode cX7_passName 81 = .ok (.ireturn, 1) := dk_172 (dw rcX7_passName_42 19 rfl)
def rbX7_passNumber_0 : List (Nat × List Nat) := [(0, [42]), (1, [27]), (2, [28]), (3, [182, 0, 100]), (6, [153, 0, 17]), (9, [42]), (10, [180, 0, 26]), (13, [182, 0, 89]), (16, [153, 0, 7]), (19, [4]), (20, [167, 0, 4]), (23, [3]), (24, [172])]
theorem rcX7_passNumber_0 : dgo (lb cX7_passNumber) 0 rbX7_passNumber_0 = true := by decide +kernel
theorem dX7_passNumber_0 : decode cX7_passNumber 0 = .ok (.aload_n 0, 1) := dk_42 (dw rcX7_passNumber_0 0 rfl)
theorem dX7_passNumber_1 : decode cX7_passNumber 1 = .ok (.iload_n 1, 1) := dk_27 (dw rcX7_passNumber_0 1 rfl)
theorem dX7_passNumber_2 : decode cX7_passNumber 2 = .ok (.iload_n 2, 1) := dk_28 (dw rcX7_passNumber_0 2 rfl)
theorem dX7_passNumber_3 : decode cX7_passNumber 3 = .ok (.invokevirtual 100, 3) := dk_182 (dw rcX7_passNumber_0 3 rfl) rfl
theorem dX7_passNumber_6 : decode cX7_passNumber 6 = .ok (.ifCond .eq 17, 3) := dk_153 (dw rcX7_passNumber_0 4 rfl) rfl
theorem dX7_passNumber_9 : decode cX7_passNumber 9 = .ok (.aload_n 0, 1) := dk_42 (dw rcX7_passNumber_0 5 rfl)
theorem dX7_passNumber_10 : decode cX7_passNumber 10 = .ok (.getfield 26, 3) := dk_180 (dw rcX7_passNumber_0 6 rfl) rfl
theorem dX7_passNumber_13 : decode cX7_passNumber 13 = .ok (.invokevirtual 89, 3) := dk_182 (dw rcX7_passNumber_0 7 rfl) rfl
theorem dX7_passNumber_16 : decode cX7_passNumber 16 = .ok (.ifCond .eq 7, 3) := dk_153 (dw rcX7_passNumber_0 8 rfl) rfl
theorem dX7_passNumber_19 : decode cX7_passNumber 19 = .ok (.iconst 1, 1) := dk_4 (dw rcX7_passNumber_0 9 rfl)
theorem dX7_passNumber_20 : decode cX7_passNumber 20 = .ok (.goto 4, 3) := dk_167 (dw rcX7_passNumber_0 10 rfl) rfl
theorem dX7_passNumber_23 : decode cX7_passNumber 23 = .ok (.iconst 0, 1) := dk_3 (dw rcX7_passNumber_0 11 rfl)
theorem dX7_passNumber_24 : decode cX7_passNumber 24 = .ok (.ireturn, 1) := dk_172 (dw rcX7_passNumber_0 12 rfl)
set_option maxHeartbeats 4000000 in
set_option maxRecDepth 100000 in
theorem k_rFirst (l : Launch) (D : va_G) (k : KT) (A : Nat → Prop) (a : Nat → Nat) (z : SK) (G : GS) (p0 : Int32) (ha_p0 : 0 ≤ p0.toInt ∧ p0.toInt ≤ 1) : Met l yX7_passFirst (WS yX7_passFirst cX7_passFirst 2 (some .boolean)) ({ frames := 7, cells := 0, slots := 0, locals := 148 }) (va_Pc [.ref (a 5), .int p0] (cW D k A a z G)) (va_Qi (fun (r : Int32) (G1 : GS) => P_rFirst p0 G r G1) (fun (G1 : GS) t => Wd D k A a G1 t.heap) A) 0 0 A := by
  refine Met.ofW (cc := cX7_passFirst) (maxL := 2) (ret := (some .boolean)) (by decide) rfl ?_
  intro p e s m args below meth c s₁ B hml hv
  obtain ⟨rfl, hW, hB_G, hK, hZ⟩ := hv
  have hx := B.exec
  have hb := B.bytes
  have hr := B.returns
  have hts := atoms_spec (ws := WS yX7_passFirst cX7_passFirst 2 (some .boolean)) B.pre
  have hgd : ∀ w ∈ gd, w ∈ WS yX7_passFirst cX7_passFirst 2 (some .boolean) := fun w h => List.mem_cons_of_mem _ h
  have hg : ∀ w ∈ gd, w.before _ s = true := fun w h => hts w (hgd w h)
  have hown : s.vm.findClass RX7 = some m.cls := findClass_of_methodNamed B.named
  have hS : va_S A s.heap s.heap [] := va_S.rf
  have hF : Fr [] [(3, 2), (3, 3), (3, 4), (3, 5), (3, 6), (3, 7), (3, 8)] G G := Fr.rf
  have hl := lv_entry ([.ref (a 5), .int p0]) (n := 2) (Nat.le_of_ble_eq_true rfl)
  rw [lg_entry_eq]
  generalize (lg_sl ([.ref (a 5), .int p0]) ++ List.replicate (2 - (lg_sl ([.ref (a 5), .int p0])).length) Slot.unset).toArray = ls at hl ⊢
  have hl : lv_has ls 2 [(0, .ref (a 5)), (1, .int p0)] := hl
  refine lv_iload_n hx hb dX7_passFirst_0 rfl (lv_at hl 1 rfl) ?_
  refine lv_if_eq (tgt := 14) hx hb dX7_passFirst_1 rfl (fun c_1 => ?_) (fun c_1 => ?_)
  · have c_1 : p0.toInt = 0 := xI_eq rfl rfl c_1
    refine lv_aload_n hx hb dX7_passFirst_14 rfl (lv_at hl 0 rfl) ?_
    refine S_getR (n := 3) (C := RX7) (T := TX7) (N := 10) hx hb hg iX7 hown hK hW kd_5 rfl 0 (lt_b rfl) (hg (Cond.fieldLink RX7 26 "SlabWalk$Reader" "tokens" "LSlabWalk$Tokens;") m311) (fun _ h9 => h9) rfl dX7_passFirst_15 ?_
    refine ic_2 hx hb dX7_passFirst_18 ?_
    refine S_calli (va_runV (As := [.int 2]) (rest := []) ⟨hx, hb, hml, hown, hts⟩ (k_tRefuse l D k A a z G 2 ⟨by decide, by decide⟩) (cwV 1 hts (gd_V hgd m778 m779 m780 m120 m781) rfl rfl rfl hd_X9_refuse ⟨Nat.le_of_ble_eq_true rfl, Nat.le_of_ble_eq_true rfl⟩) (pre_W hW hB_G hK hZ hS kd_3 rfl) rfl rfl hl.1 rfl (lv_room (Nat.le_of_ble_eq_true rfl)) dX7_passFirst_19 ⟨Nat.le_of_ble_eq_true rfl, Nat.le_of_ble_eq_true rfl⟩) hS (fun r_2 G_3 H locs hpo hW hS => ?_)
    have hX_6 : P_tRefuse 2 G r_2 G_3 := hpo
    obtain ⟨hB_G_3, hq_4, f_7, -⟩ := hpo
    have hF := hF.call9 hq_4 rfl rfl
    exact W.zret (v := r_2) hx hb hr (nar_z (by omega) (by omega)) (fun t ht _ => ⟨⟨r_2, G_3, rfl, (P_rFirst_mk ⟨hB_G_3, hF, ⟨by omega, by omega⟩, (by omega), (Or.inl ⟨c_1, ⟨r_2, G_3, hX_6, ⟨rfl, rfl⟩⟩⟩)⟩), wd_t ht hW⟩, hS.F ht⟩) hS.2.2 dX7_passFirst_22
  · have c_1 : p0.toInt ≠ 0 := xI_ne rfl rfl c_1
    refine lv_aload_n hx hb dX7_passFirst_4 rfl (lv_at hl 0 rfl) ?_
    refine S_getR (n := 3) (C := RX7) (T := TX7) (N := 10) hx hb hg iX7 hown hK hW kd_5 rfl 0 (lt_b rfl) (hg (Cond.fieldLink RX7 26 "SlabWalk$Reader" "tokens" "LSlabWalk$Tokens;") m311) (fun _ h9 => h9) rfl dX7_passFirst_5 ?_
    refine S_calli (va_runV (As := []) (rest := []) ⟨hx, hb, hml, hown, hts⟩ (k_tAdvance l D k A a z G  ) (cwV 0 hts (gd_V hgd m777 m639 m640 m120 m641) rfl rfl rfl hd_X9_advance ⟨Nat.le_of_ble_eq_true rfl, Nat.le_of_ble_eq_true rfl⟩) (pre_W hW hB_G hK hZ hS kd_3 rfl) rfl rfl hl.1 rfl (lv_room (Nat.le_of_ble_eq_true rfl)) dX7_passFirst_8 ⟨Nat.le_of_ble_eq_true rfl, Nat.le_of_ble_eq_true rfl⟩) hS (fun r_8 G_9 H locs hpo hW hS => ?_)
    have hX_12 : P_tAdvance G r_8 G_9 := hpo
    obtain ⟨hB_G_9, hq_10, f_13, -⟩ := hpo
    have hF := hF.call9 hq_10 rfl rfl
    refine lv_goto (tgt := 22) hx hb dX7_passFirst_11 rfl ?_
    exact W.zret (v := r_8) hx hb hr (nar_z (by omega) (by omega)) (fun t ht _ => ⟨⟨r_8, G_9, rfl, (P_rFirst_mk ⟨hB_G_9, hF, ⟨by omega, by omega⟩, (by omega), (Or.inr ⟨c_1, ⟨r_8, G_9, hX_12, ⟨rfl, rfl⟩⟩⟩)⟩), wd_t ht hW⟩, hS.F ht⟩) hS.2.2 dX7_passFirst_22

set_option maxHeartbeats 4000000 in
set_option maxRecDepth 100000 in
theorem k_rName_34 (l : Launch) (D : va_G) (k : KT) (A : Nat → Prop) (a : Nat → Nat) (z : SK) (G : GS) (p0 : Int32) (ha_p0 : 0 ≤ p0.toInt ∧ p0.toInt ≤ 6) : Met l yX7_passName (WS yX7_passName cX7_passName 4 (some .boolean)) ({ frames := 7, cells := 0, slots := 0, locals := 148 }) (va_Pc [.ref (a 5), .ref (a 34), .int p0] (cW D k A a z G)) (va_Qi (fun (r : Int32) (G1 : GS) => P_rName_34 p0 G r G1) (fun (G1 : GS) t => Wd D k A a G1 t.heap) A) 0 0 A := by
  refine Met.ofW (cc := cX7_passName) (maxL := 4) (ret := (some .boolean)) (by decide) rfl ?_
  intro p e s m args below meth c s₁ B hml hv
  obtain ⟨rfl, hW, hB_G, hK, hZ⟩ := hv
  have hx := B.exec
  have hb := B.bytes
  have hr := B.returns
  have hts := atoms_spec (ws := WS yX7_passName cX7_passName 4 (some .boolean)) B.pre
  have hgd : ∀ w ∈ gd, w ∈ WS yX7_passName cX7_passName 4 (some .boolean) := fun w h => List.mem_cons_of_mem _ h
  have hg : ∀ w ∈ gd, w.before _ s = true := fun w h => hts w (hgd w h)
  have hown : s.vm.findClass RX7 = some m.cls := findClass_of_methodNamed B.named
  have hS : va_S A s.heap s.heap [] := va_S.rf
  have hF : Fr [34] [(3, 2), (3, 3), (3, 4), (3, 5), (3, 6), (3, 7), (3, 8)] G G := Fr.rf
  have hl := lv_entry ([.ref (a 5), .ref (a 34), .int p0]) (n := 4) (Nat.le_of_ble_eq_true rfl)
  rw [lg_entry_eq]
  generalize (lg_sl ([.ref (a 5), .ref (a 34), .int p0]) ++ List.replicate (4 - (lg_sl ([.ref (a 5), .ref (a 34), .int p0])).length) Slot.unset).toArray = ls at hl ⊢
  have hl : lv_has ls 4 [(0, .ref (a 5)), (1, .ref (a 34)), (2, .int p0)] := hl
  refine lv_aload_n hx hb dX7_passName_0 rfl (lv_at hl 0 rfl) ?_
  refine S_getR (n := 3) (C := RX7) (T := TX7) (N := 10) hx hb hg iX7 hown hK hW kd_5 rfl 0 (lt_b rfl) (hg (Cond.fieldLink RX7 26 "SlabWalk$Reader" "tokens" "LSlabWalk$Tokens;") m311) (fun _ h9 => h9) rfl dX7_passName_1 ?_
  refine S_getI (v := (G.1 3 3)) (C := RX9) (T := TX9) (N := 9) hx hb hg iX9 hown hK hW kd_3 rfl 3 (lt_b rfl) (hg (Cond.fieldLink RX7 62 "SlabWalk$Tokens" "kind" "I") m261) (fun _ h9 => h9) rfl rfl dX7_passName_4 ?_
  refine lv_sipush (v := 200) hx hb dX7_passName_7 (by decide) ?_
  refine lv_icmp_ne (tgt := 19) hx hb dX7_passName_10 rfl (fun c_1 => ?_) (fun c_1 => ?_)
  · have c_1 : (G.1 3 3).toInt ≠ 200 := xI_ne rfl rfl c_1
    refine lv_aload_n hx hb dX7_passName_19 rfl (lv_at hl 0 rfl) ?_
    refine S_getR (n := 3) (C := RX7) (T := TX7) (N := 10) hx hb hg iX7 hown hK hW kd_5 rfl 0 (lt_b rfl) (hg (Cond.fieldLink RX7 26 "SlabWalk$Reader" "tokens" "LSlabWalk$Tokens;") m311) (fun _ h9 => h9) rfl dX7_passName_20 ?_
    refine ic_2 hx hb dX7_passName_23 ?_
    refine S_calli (va_runV (As := [.int 2]) (rest := []) ⟨hx, hb, hml, hown, hts⟩ (k_tRefuse l D k A a z G 2 ⟨by decide, by decide⟩) (cwV 1 hts (gd_V hgd m778 m779 m780 m120 m781) rfl rfl rfl hd_X9_refuse ⟨Nat.le_of_ble_eq_true rfl, Nat.le_of_ble_eq_true rfl⟩) (pre_W hW hB_G hK hZ hS kd_3 rfl) rfl rfl hl.1 rfl (lv_room (Nat.le_of_ble_eq_true rfl)) dX7_passName_24 ⟨Nat.le_of_ble_eq_true rfl, Nat.le_of_ble_eq_true rfl⟩) hS (fun r_2 G_3 H locs hpo hW hS => ?_)
    have hX_6 : P_tRefuse 2 G r_2 G_3 := hpo
    obtain ⟨hB_G_3, hq_4, f_7, -⟩ := hpo
    have hF := hF.call9 hq_4 rfl rfl
    exact W.zret (v := r_2) hx hb hr (nar_z (by omega) (by omega)) (fun t ht _ => ⟨⟨r_2, G_3, rfl, (P_rName_34_mk ⟨hB_G_3, hF, ⟨by omega, by omega⟩, (Or.inr ⟨c_1, ⟨r_2, G_3, hX_6, ⟨rfl, rfl⟩⟩⟩)⟩), wd_t ht hW⟩, hS.F ht⟩) hS.2.2 dX7_passName_27
  · have c_1 : (G.1 3 3).toInt = 200 := xI_eq rfl rfl c_1
    refine lv_iload_n hx hb dX7_passName_13 rfl (lv_at hl 2 rfl) ?_
    refine lv_aload_n hx hb dX7_passName_14 rfl (lv_at hl 1 rfl) ?_
    refine S_alen (v := 3) hx hb hK hW kd_34 2 rfl rfl dX7_passName_15 ?_
    refine lv_icmp_lt (tgt := 28) hx hb dX7_passName_16 rfl (fun c_8 => ?_) (fun c_8 => ?_)
    · have c_8 : p0.toInt < 3 := xI_lt rfl rfl c_8
      refine ic_0 hx hb dX7_passName_28 ?_
      refine lv_istore_n (lv' := [(3, .int 0), (0, .ref (a 5)), (1, .ref (a 34)), (2, .int p0)]) hx hb dX7_passName_29 rfl hl (lt_b rfl) rfl (fun ls hl => ?_)
      have qc_15 : (0 : Int32).toInt = 0 := rfl
      refine loop_N (Inv := fun n H locs ls => ∃ (G_9 : GS) (x_13 : Int32), (n : Int) = 2 - x_13.toInt ∧ (0 ≤ x_13.toInt ∧ x_13.toInt ≤ 2) ∧ Rc (St_k_rName_34_1 p0 G) (0, G) (x_13, G_9) ∧ Wd D k A a G_9 H ∧ Bd G_9 ∧ Fr [34] [(3, 2), (3, 3), (3, 4), (3, 5), (3, 6), (3, 7), (3, 8)] G G_9 ∧ Fr [] [] G G_9 ∧ va_S A s.heap H locs ∧ lv_has ls 4 [(3, .int x_13), (0, .ref (a 5)), (1, .ref (a 34)), (2, .int p0)]) (fun n_12 H locs ls ih_11 hI => ?_) (2 - 0 : Int).toNat ⟨G, 0, (Int.toNat_of_nonneg ((by first | (clear ha_p0 c_1 c_8; omega) | omega))), ⟨(by first | (clear ha_p0 c_1 c_8; omega) | omega), (by first | (clear ha_p0 c_1 c_8; omega) | omega)⟩, Rc.rf, hW, hB_G, hF, Fr.rf, hS, lv_sub hl [0, 1, 2, 3] rfl⟩
      obtain ⟨G_9, x_13, hn_17, f_16, hX_14, hW, hB_G_9, hF, hq_10, hS, hl⟩ := hI
      refine lv_iload_n hx hb dX7_passName_30 rfl (lv_at hl 0 rfl) ?_
      refine lv_iload_n hx hb dX7_passName_31 rfl (lv_at hl 3 rfl) ?_
      refine lv_icmp_ge (tgt := 64) hx hb dX7_passName_32 rfl (fun c_18 => ?_) (fun c_18 => ?_)
      · have c_18 : p0.toInt ≤ x_13.toInt := xI_le rfl rfl c_18
        refine lv_aload_n hx hb dX7_passName_64 rfl (lv_at hl 2 rfl) ?_
        refine lv_iload_n hx hb dX7_passName_65 rfl (lv_at hl 3 rfl) ?_
        refine lv_aload_n hx hb dX7_passName_66 rfl (lv_at hl 1 rfl) ?_
        refine S_getR (n := 3) (C := RX7) (T := TX7) (N := 10) hx hb hg iX7 hown hK hW kd_5 rfl 0 (lt_b rfl) (hg (Cond.fieldLink RX7 26 "SlabWalk$Reader" "tokens" "LSlabWalk$Tokens;") m311) (fun _ h9 => h9) rfl dX7_passName_67 ?_
        obtain ⟨y_19, ey_19⟩ : ∃ q, G_9.2.1 3 6 = q := ⟨_, rfl⟩
        refine S_getL (v := y_19) (C := RX9) (T := TX9) (N := 9) hx hb hg iX9 hown hK hW kd_3 rfl 6 (lt_b rfl) (hg (Cond.fieldLink RX7 92 "SlabWalk$Tokens" "word" "J") m268) (fun _ h9 => h9) rfl ey_19 dX7_passName_70 ?_
        refine S_last hx hb hK hW hS kd_34 (vin (by omega) (by omega)) dX7_passName_73 (fun G_20 H locs eG_20 hW hS => ?_)
        have hB_G_20 : Bd G_20 := hB_G_9.putl eG_20
        have hF := hF.putl eG_20 (Or.inl (by decide))
        refine lv_aload_n hx hb dX7_passName_74 rfl (lv_at hl 1 rfl) ?_
        refine S_getR (n := 3) (C := RX7) (T := TX7) (N := 10) hx hb hg iX7 hown hK hW kd_5 rfl 0 (lt_b rfl) (hg (Cond.fieldLink RX7 26 "SlabWalk$Reader" "tokens" "LSlabWalk$Tokens;") m311) (fun _ h9 => h9) rfl dX7_passName_75 ?_
        refine S_calli (va_runV (As := []) (rest := []) ⟨hx, hb, hml, hown, hts⟩ (k_tAdvance l D k A a z G_20  ) (cwV 0 hts (gd_V hgd m777 m639 m640 m120 m641) rfl rfl rfl hd_X9_advance ⟨Nat.le_of_ble_eq_true rfl, Nat.le_of_ble_eq_true rfl⟩) (pre_W hW hB_G_20 hK hZ hS kd_3 rfl) rfl rfl hl.1 rfl (lv_room (Nat.le_of_ble_eq_true rfl)) dX7_passName_78 ⟨Nat.le_of_ble_eq_true rfl, Nat.le_of_ble_eq_true rfl⟩) hS (fun r_21 G_22 H locs hpo hW hS => ?_)
        have hX_25 : P_tAdvance G_20 r_21 G_22 := hpo
        obtain ⟨hB_G_22, hq_23, f_26, -⟩ := hpo
        have hF := hF.call9 hq_23 rfl rfl
        exact W.zret (v := r_21) hx hb hr (nar_z ((by first | (clear ha_p0 c_1 c_8 hn_17 f_16 c_18; omega) | omega)) ((by first | (clear ha_p0 c_1 c_8 hn_17 f_16 c_18; omega) | omega))) (fun t ht _ => ⟨⟨r_21, G_22, rfl, (P_rName_34_mk ⟨hB_G_22, hF, ⟨(by first | (clear ha_p0 c_1 c_8 hn_17 f_16 c_18; omega) | omega), (by first | (clear ha_p0 c_1 c_8 hn_17 f_16 c_18; omega) | omega)⟩, (Or.inl ⟨c_1, (Or.inl ⟨c_8, ⟨x_13, G_9, hX_14, f_16, hB_G_9, hq_10, (Or.inl ⟨c_18, ⟨y_19, ey_19.symm.trans ((hq_10.l9 3 6 rfl rfl)), ⟨G_20, hB_G_20, (Fr.putl (rs := [34]) (fs := []) Fr.rf eG_20 (Or.inl (by decide))), rl_ast eG_20, ⟨r_21, G_22, hX_25, ⟨rfl, rfl⟩⟩⟩⟩⟩)⟩⟩)⟩)⟩), wd_t ht hW⟩, hS.F ht⟩) hS.2.2 dX7_passName_81
      · have c_18 : x_13.toInt < p0.toInt := xI_nle rfl rfl c_18
        refine lv_aload_n hx hb dX7_passName_35 rfl (lv_at hl 2 rfl) ?_
        refine lv_iload_n hx hb dX7_passName_36 rfl (lv_at hl 0 rfl) ?_
        refine S_lald hx hb hK hW kd_34 (vin (by omega) (by omega)) dX7_passName_37 (fun y_27 ey_27 => ?_)
        refine lv_aload_n hx hb dX7_passName_38 rfl (lv_at hl 1 rfl) ?_
        refine S_getR (n := 3) (C := RX7) (T := TX7) (N := 10) hx hb hg iX7 hown hK hW kd_5 rfl 0 (lt_b rfl) (hg (Cond.fieldLink RX7 26 "SlabWalk$Reader" "tokens" "LSlabWalk$Tokens;") m311) (fun _ h9 => h9) rfl dX7_passName_39 ?_
        obtain ⟨y_28, ey_28⟩ : ∃ q, G_9.2.1 3 6 = q := ⟨_, rfl⟩
        refine S_getL (v := y_28) (C := RX9) (T := TX9) (N := 9) hx hb hg iX9 hown hK hW kd_3 rfl 6 (lt_b rfl) (hg (Cond.fieldLink RX7 92 "SlabWalk$Tokens" "word" "J") m268) (fun _ h9 => h9) rfl ey_28 dX7_passName_42 ?_
        refine W.lcmp hx hb dX7_passName_45 ?_
        refine lv_topi (fun y_29 ey_29 => ?_)
        have ty_29 := lcmp_rng ey_29
        refine lv_if_ne (tgt := 58) hx hb dX7_passName_46 rfl (fun c_30 => ?_) (fun c_30 => ?_)
        · have c_30 : y_29.toInt ≠ 0 := xI_ne rfl rfl c_30
          obtain ⟨y_31, ey_31⟩ : ∃ q, q = x_13 + 1 := ⟨_, rfl⟩
          have ty_31 : y_31.toInt = x_13.toInt + 1 := xI_add rfl rfl ey_31 ((by first | (clear c_1 hn_17 c_30; omega) | omega)) ((by first | (clear c_1 hn_17 c_30; omega) | omega))
          refine lv_iinc (v := y_31) (lv' := [(3, .int y_31), (0, .ref (a 5)), (1, .ref (a 34)), (2, .int p0)]) hx hb dX7_passName_58 hl (k := 0) rfl (by rw [ey_31]; rfl) (lt_b rfl) rfl (fun ls hl => ?_)
          refine lv_goto (tgt := 30) hx hb dX7_passName_61 rfl ?_
          exact ih_11 (2 - y_31.toInt : Int).toNat (by omega) _ _ _ ⟨G_9, y_31, (Int.toNat_of_nonneg ((by first | (clear c_1 hn_17 c_30; omega) | omega))), ⟨(by first | (clear c_1 hn_17 c_30; omega) | omega), (by first | (clear c_1 hn_17 c_30; omega) | omega)⟩, (hX_14.st (St_k_rName_34_1_mk ⟨x_13, G_9, y_31, G_9, rfl, rfl, f_16, hB_G_9, ⟨c_18, ⟨y_27, ey_27, ⟨y_28, ey_28.symm.trans ((hq_10.l9 3 6 rfl rfl)), ⟨y_29, ey_29, ⟨c_30, ⟨y_31, ty_31, ⟨rfl, rfl⟩⟩⟩⟩⟩⟩⟩⟩)), hW, hB_G_9, hF, (Fr.call9 (rs := []) (fs := []) Fr.rf hq_10 rfl rfl), hS, lv_sub hl [0, 1, 2, 3] rfl⟩
        · have c_30 : y_29.toInt = 0 := xI_eq rfl rfl c_30
          refine lv_aload_n hx hb dX7_passName_49 rfl (lv_at hl 1 rfl) ?_
          refine S_getR (n := 3) (C := RX7) (T := TX7) (N := 10) hx hb hg iX7 hown hK hW kd_5 rfl 0 (lt_b rfl) (hg (Cond.fieldLink RX7 26 "SlabWalk$Reader" "tokens" "LSlabWalk$Tokens;") m311) (fun _ h9 => h9) rfl dX7_passName_50 ?_
          refine ic_3 hx hb dX7_passName_53 ?_
          refine S_calli (va_runV (As := [.int 3]) (rest := []) ⟨hx, hb, hml, hown, hts⟩ (k_tRefuse l D k A a z G_9 3 ⟨by decide, by decide⟩) (cwV 1 hts (gd_V hgd m778 m779 m780 m120 m781) rfl rfl rfl hd_X9_refuse ⟨Nat.le_of_ble_eq_true rfl, Nat.le_of_ble_eq_true rfl⟩) (pre_W hW hB_G_9 hK hZ hS kd_3 rfl) rfl rfl hl.1 rfl (lv_room (Nat.le_of_ble_eq_true rfl)) dX7_passName_54 ⟨Nat.le_of_ble_eq_true rfl, Nat.le_of_ble_eq_true rfl⟩) hS (fun r_32 G_33 H locs hpo hW hS => ?_)
          have hX_36 : P_tRefuse 3 G_9 r_32 G_33 := hpo
          obtain ⟨hB_G_33, hq_34, f_37, -⟩ := hpo
          have hF := hF.call9 hq_34 rfl rfl
          exact W.zret (v := r_32) hx hb hr (nar_z ((by first | (clear ha_p0 c_1 c_8 hn_17 f_16 c_18 c_30; omega) | omega)) ((by first | (clear ha_p0 c_1 c_8 hn_17 f_16 c_18 c_30; omega) | omega))) (fun t ht _ => ⟨⟨r_32, G_33, rfl, (P_rName_34_mk ⟨hB_G_33, hF, ⟨(by first | (clear ha_p0 c_1 c_8 hn_17 f_16 c_18 c_30; omega) | omega), (by first | (clear ha_p0 c_1 c_8 hn_17 f_16 c_18 c_30; omega) | omega)⟩, (Or.inl ⟨c_1, (Or.inl ⟨c_8, ⟨x_13, G_9, hX_14, f_16, hB_G_9, hq_10, (Or.inr ⟨c_18, ⟨y_27, ey_27, ⟨y_28, ey_28.symm.trans ((hq_10.l9 3 6 rfl rfl)), ⟨y_29, ey_29, ⟨c_30, ⟨r_32, G_33, hX_36, ⟨rfl, rfl⟩⟩⟩⟩⟩⟩⟩)⟩⟩)⟩)⟩), wd_t ht hW⟩, hS.F ht⟩) hS.2.2 dX7_passName_57
    · have c_8 : 3 ≤ p0.toInt := xI_nlt rfl rfl c_8
      refine lv_aload_n hx hb dX7_passName_19 rfl (lv_at hl 0 rfl) ?_
      refine S_getR (n := 3) (C := RX7) (T := TX7) (N := 10) hx hb hg iX7 hown hK hW kd_5 rfl 0 (lt_b rfl) (hg (Cond.fieldLink RX7 26 "SlabWalk$Reader" "tokens" "LSlabWalk$Tokens;") m311) (fun _ h9 => h9) rfl dX7_passName_20 ?_
      refine ic_2 hx hb dX7_passName_23 ?_
      refine S_calli (va_runV (As := [.int 2]) (rest := []) ⟨hx, hb, hml, hown, hts⟩ (k_tRefuse l D k A a z G 2 ⟨by decide, by decide⟩) (cwV 1 hts (gd_V hgd m778 m779 m780 m120 m781) rfl rfl rfl hd_X9_refuse ⟨Nat.le_of_ble_eq_true rfl, Nat.le_of_ble_eq_true rfl⟩) (pre_W hW hB_G hK hZ hS kd_3 rfl) rfl rfl hl.1 rfl (lv_room (Nat.le_of_ble_eq_true rfl)) dX7_passName_24 ⟨Nat.le_of_ble_eq_true rfl, Nat.le_of_ble_eq_true rfl⟩) hS (fun r_38 G_39 H locs hpo hW hS => ?_)
      have hX_42 : P_tRefuse 2 G r_38 G_39 := hpo
      obtain ⟨hB_G_39, hq_40, f_43, -⟩ := hpo
      have hF := hF.call9 hq_40 rfl rfl
      exact W.zret (v := r_38) hx hb hr (nar_z ((by first | (clear ha_p0 c_1 c_8; omega) | omega)) ((by first | (clear ha_p0 c_1 c_8; omega) | omega))) (fun t ht _ => ⟨⟨r_38, G_39, rfl, (P_rName_34_mk ⟨hB_G_39, hF, ⟨(by first | (clear ha_p0 c_1 c_8; omega) | omega), (by first | (clear ha_p0 c_1 c_8; omega) | omega)⟩, (Or.inl ⟨c_1, (Or.inr ⟨c_8, ⟨r_38, G_39, hX_42, ⟨rfl, rfl⟩⟩⟩)⟩)⟩), wd_t ht hW⟩, hS.F ht⟩) hS.2.2 dX7_passName_27

set_option maxHeartbeats 4000000 in
set_option maxRecDepth 100000 in
theorem k_rName_35 (l : Launch) (D : va_G) (k : KT) (A : Nat → Prop) (a : Nat → Nat) (z : SK) (G : GS) (p0 : Int32) (ha_p0 : 0 ≤ p0.toInt ∧ p0.toInt ≤ 6) : Met l yX7_passName (WS yX7_passName cX7_passName 4 (some .boolean)) ({ frames := 7, cells := 0, slots := 0, locals := 148 }) (va_Pc [.ref (a 5), .ref (a 35), .int p0] (cW D k A a z G)) (va_Qi (fun (r : Int32) (G1 : GS) => P_rName_35 p0 G r G1) (fun (G1 : GS) t => Wd D k A a G1 t.heap) A) 0 0 A := by
  refine Met.ofW (cc := cX7_passName) (maxL := 4) (ret := (some .boolean)) (by decide) rfl ?_
  intro p e s m args below meth c s₁ B hml hv
  obtain ⟨rfl, hW, hB_G, hK, hZ⟩ := hv
  have hx := B.exec
  have hb := B.bytes
  have hr := B.returns
  have hts := atoms_spec (ws := WS yX7_passName cX7_passName 4 (some .boolean)) B.pre
  have hgd : ∀ w ∈ gd, w ∈ WS yX7_passName cX7_passName 4 (some .boolean) := fun w h => List.mem_cons_of_mem _ h
  have hg : ∀ w ∈ gd, w.before _ s = true := fun w h => hts w (hgd w h)
  have hown : s.vm.findClass RX7 = some m.cls := findClass_of_methodNamed B.named
  have hS : va_S A s.heap s.heap [] := va_S.rf
  have hF : Fr [35] [(3, 2), (3, 3), (3, 4), (3, 5), (3, 6), (3, 7), (3, 8)] G G := Fr.rf
  have hl := lv_entry ([.ref (a 5), .ref (a 35), .int p0]) (n := 4) (Nat.le_of_ble_eq_true rfl)
  rw [lg_entry_eq]
  generalize (lg_sl ([.ref (a 5), .ref (a 35), .int p0]) ++ List.replicate (4 - (lg_sl ([.ref (a 5), .ref (a 35), .int p0])).length) Slot.unset).toArray = ls at hl ⊢
  have hl : lv_has ls 4 [(0, .ref (a 5)), (1, .ref (a 35)), (2, .int p0)] := hl
  refine lv_aload_n hx hb dX7_passName_0 rfl (lv_at hl 0 rfl) ?_
  refine S_getR (n := 3) (C := RX7) (T := TX7) (N := 10) hx hb hg iX7 hown hK hW kd_5 rfl 0 (lt_b rfl) (hg (Cond.fieldLink RX7 26 "SlabWalk$Reader" "tokens" "LSlabWalk$Tokens;") m311) (fun _ h9 => h9) rfl dX7_passName_1 ?_
  refine S_getI (v := (G.1 3 3)) (C := RX9) (T := TX9) (N := 9) hx hb hg iX9 hown hK hW kd_3 rfl 3 (lt_b rfl) (hg (Cond.fieldLink RX7 62 "SlabWalk$Tokens" "kind" "I") m261) (fun _ h9 => h9) rfl rfl dX7_passName_4 ?_
  refine lv_sipush (v := 200) hx hb dX7_passName_7 (by decide) ?_
  refine lv_icmp_ne (tgt := 19) hx hb dX7_passName_10 rfl (fun c_1 => ?_) (fun c_1 => ?_)
  · have c_1 : (G.1 3 3).toInt ≠ 200 := xI_ne rfl rfl c_1
    refine lv_aload_n hx hb dX7_passName_19 rfl (lv_at hl 0 rfl) ?_
    refine S_getR (n := 3) (C := RX7) (T := TX7) (N := 10) hx hb hg iX7 hown hK hW kd_5 rfl 0 (lt_b rfl) (hg (Cond.fieldLink RX7 26 "SlabWalk$Reader" "tokens" "LSlabWalk$Tokens;") m311) (fun _ h9 => h9) rfl dX7_passName_20 ?_
    refine ic_2 hx hb dX7_passName_23 ?_
    refine S_calli (va_runV (As := [.int 2]) (rest := []) ⟨hx, hb, hml, hown, hts⟩ (k_tRefuse l D k A a z G 2 ⟨by decide, by decide⟩) (cwV 1 hts (gd_V hgd m778 m779 m780 m120 m781) rfl rfl rfl hd_X9_refuse ⟨Nat.le_of_ble_eq_true rfl, Nat.le_of_ble_eq_true rfl⟩) (pre_W hW hB_G hK hZ hS kd_3 rfl) rfl rfl hl.1 rfl (lv_room (Nat.le_of_ble_eq_true rfl)) dX7_passName_24 ⟨Nat.le_of_ble_eq_true rfl, Nat.le_of_ble_eq_true rfl⟩) hS (fun r_2 G_3 H locs hpo hW hS => ?_)
    have hX_6 : P_tRefuse 2 G r_2 G_3 := hpo
    obtain ⟨hB_G_3, hq_4, f_7, -⟩ := hpo
    have hF := hF.call9 hq_4 rfl rfl
    exact W.zret (v := r_2) hx hb hr (nar_z (by omega) (by omega)) (fun t ht _ => ⟨⟨r_2, G_3, rfl, (P_rName_35_mk ⟨hB_G_3, hF, ⟨by omega, by omega⟩, (Or.inr ⟨c_1, ⟨r_2, G_3, hX_6, ⟨rfl, rfl⟩⟩⟩)⟩), wd_t ht hW⟩, hS.F ht⟩) hS.2.2 dX7_passName_27
  · have c_1 : (G.1 3 3).toInt = 200 := xI_eq rfl rfl c_1
    refine lv_iload_n hx hb dX7_passName_13 rfl (lv_at hl 2 rfl) ?_
    refine lv_aload_n hx hb dX7_passName_14 rfl (lv_at hl 1 rfl) ?_
    refine S_alen (v := 4) hx hb hK hW kd_35 2 rfl rfl dX7_passName_15 ?_
    refine lv_icmp_lt (tgt := 28) hx hb dX7_passName_16 rfl (fun c_8 => ?_) (fun c_8 => ?_)
    · have c_8 : p0.toInt < 4 := xI_lt rfl rfl c_8
      refine ic_0 hx hb dX7_passName_28 ?_
      refine lv_istore_n (lv' := [(3, .int 0), (0, .ref (a 5)), (1, .ref (a 35)), (2, .int p0)]) hx hb dX7_passName_29 rfl hl (lt_b rfl) rfl (fun ls hl => ?_)
      have qc_15 : (0 : Int32).toInt = 0 := rfl
      refine loop_N (Inv := fun n H locs ls => ∃ (G_9 : GS) (x_13 : Int32), (n : Int) = 3 - x_13.toInt ∧ (0 ≤ x_13.toInt ∧ x_13.toInt ≤ 3) ∧ Rc (St_k_rName_35_1 p0 G) (0, G) (x_13, G_9) ∧ Wd D k A a G_9 H ∧ Bd G_9 ∧ Fr [35] [(3, 2), (3, 3), (3, 4), (3, 5), (3, 6), (3, 7), (3, 8)] G G_9 ∧ Fr [] [] G G_9 ∧ va_S A s.heap H locs ∧ lv_has ls 4 [(3, .int x_13), (0, .ref (a 5)), (1, .ref (a 35)), (2, .int p0)]) (fun n_12 H locs ls ih_11 hI => ?_) (3 - 0 : Int).toNat ⟨G, 0, (Int.toNat_of_nonneg ((by first | (clear ha_p0 c_1 c_8; omega) | omega))), ⟨(by first | (clear ha_p0 c_1 c_8; omega) | omega), (by first | (clear ha_p0 c_1 c_8; omega) | omega)⟩, Rc.rf, hW, hB_G, hF, Fr.rf, hS, lv_sub hl [0, 1, 2, 3] rfl⟩
      obtain ⟨G_9, x_13, hn_17, f_16, hX_14, hW, hB_G_9, hF, hq_10, hS, hl⟩ := hI
      refine lv_iload_n hx hb dX7_passName_30 rfl (lv_at hl 0 rfl) ?_
      refine lv_iload_n hx hb dX7_passName_31 rfl (lv_at hl 3 rfl) ?_
      refine lv_icmp_ge (tgt := 64) hx hb dX7_passName_32 rfl (fun c_18 => ?_) (fun c_18 => ?_)
      · have c_18 : p0.toInt ≤ x_13.toInt := xI_le rfl rfl c_18
        refine lv_aload_n hx hb dX7_passName_64 rfl (lv_at hl 2 rfl) ?_
        refine lv_iload_n hx hb dX7_passName_65 rfl (lv_at hl 3 rfl) ?_
        refine lv_aload_n hx hb dX7_passName_66 rfl (lv_at hl 1 rfl) ?_
        refine S_getR (n := 3) (C := RX7) (T := TX7) (N := 10) hx hb hg iX7 hown hK hW kd_5 rfl 0 (lt_b rfl) (hg (Cond.fieldLink RX7 26 "SlabWalk$Reader" "tokens" "LSlabWalk$Tokens;") m311) (fun _ h9 => h9) rfl dX7_passName_67 ?_
        obtain ⟨y_19, ey_19⟩ : ∃ q, G_9.2.1 3 6 = q := ⟨_, rfl⟩
        refine S_getL (v := y_19) (C := RX9) (T := TX9) (N := 9) hx hb hg iX9 hown hK hW kd_3 rfl 6 (lt_b rfl) (hg (Cond.fieldLink RX7 92 "SlabWalk$Tokens" "word" "J") m268) (fun _ h9 => h9) rfl ey_19 dX7_passName_70 ?_
        refine S_last hx hb hK hW hS kd_35 (vin (by omega) (by omega)) dX7_passName_73 (fun G_20 H locs eG_20 hW hS => ?_)
        have hB_G_20 : Bd G_20 := hB_G_9.putl eG_20
        have hF := hF.putl eG_20 (Or.inl (by decide))
        refine lv_aload_n hx hb dX7_passName_74 rfl (lv_at hl 1 rfl) ?_
        refine S_getR (n := 3) (C := RX7) (T := TX7) (N := 10) hx hb hg iX7 hown hK hW kd_5 rfl 0 (lt_b rfl) (hg (Cond.fieldLink RX7 26 "SlabWalk$Reader" "tokens" "LSlabWalk$Tokens;") m311) (fun _ h9 => h9) rfl dX7_passName_75 ?_
        refine S_calli (va_runV (As := []) (rest := []) ⟨hx, hb, hml, hown, hts⟩ (k_tAdvance l D k A a z G_20  ) (cwV 0 hts (gd_V hgd m777 m639 m640 m120 m641) rfl rfl rfl hd_X9_advance ⟨Nat.le_of_ble_eq_true rfl, Nat.le_of_ble_eq_true rfl⟩) (pre_W hW hB_G_20 hK hZ hS kd_3 rfl) rfl rfl hl.1 rfl (lv_room (Nat.le_of_ble_eq_true rfl)) dX7_passName_78 ⟨Nat.le_of_ble_eq_true rfl, Nat.le_of_ble_eq_true rfl⟩) hS (fun r_21 G_22 H locs hpo hW hS => ?_)
        have hX_25 : P_tAdvance G_20 r_21 G_22 := hpo
        obtain ⟨hB_G_22, hq_23, f_26, -⟩ := hpo
        have hF := hF.call9 hq_23 rfl rfl
        exact W.zret (v := r_21) hx hb hr (nar_z ((by first | (clear ha_p0 c_1 c_8 hn_17 f_16 c_18; omega) | omega)) ((by first | (clear ha_p0 c_1 c_8 hn_17 f_16 c_18; omega) | omega))) (fun t ht _ => ⟨⟨r_21, G_22, rfl, (P_rName_35_mk ⟨hB_G_22, hF, ⟨(by first | (clear ha_p0 c_1 c_8 hn_17 f_16 c_18; omega) | omega), (by first | (clear ha_p0 c_1 c_8 hn_17 f_16 c_18; omega) | omega)⟩, (Or.inl ⟨c_1, (Or.inl ⟨c_8, ⟨x_13, G_9, hX_14, f_16, hB_G_9, hq_10, (Or.inl ⟨c_18, ⟨y_19, ey_19.symm.trans ((hq_10.l9 3 6 rfl rfl)), ⟨G_20, hB_G_20, (Fr.putl (rs := [35]) (fs := []) Fr.rf eG_20 (Or.inl (by decide))), rl_ast eG_20, ⟨r_21, G_22, hX_25, ⟨rfl, rfl⟩⟩⟩⟩⟩)⟩⟩)⟩)⟩), wd_t ht hW⟩, hS.F ht⟩) hS.2.2 dX7_passName_81
      · have c_18 : x_13.toInt < p0.toInt := xI_nle rfl rfl c_18
        refine lv_aload_n hx hb dX7_passName_35 rfl (lv_at hl 2 rfl) ?_
        refine lv_iload_n hx hb dX7_passName_36 rfl (lv_at hl 0 rfl) ?_
        refine S_lald hx hb hK hW kd_35 (vin (by omega) (by omega)) dX7_passName_37 (fun y_27 ey_27 => ?_)
        refine lv_aload_n hx hb dX7_passName_38 rfl (lv_at hl 1 rfl) ?_
        refine S_getR (n := 3) (C := RX7) (T := TX7) (N := 10) hx hb hg iX7 hown hK hW kd_5 rfl 0 (lt_b rfl) (hg (Cond.fieldLink RX7 26 "SlabWalk$Reader" "tokens" "LSlabWalk$Tokens;") m311) (fun _ h9 => h9) rfl dX7_passName_39 ?_
        obtain ⟨y_28, ey_28⟩ : ∃ q, G_9.2.1 3 6 = q := ⟨_, rfl⟩
        refine S_getL (v := y_28) (C := RX9) (T := TX9) (N := 9) hx hb hg iX9 hown hK hW kd_3 rfl 6 (lt_b rfl) (hg (Cond.fieldLink RX7 92 "SlabWalk$Tokens" "word" "J") m268) (fun _ h9 => h9) rfl ey_28 dX7_passName_42 ?_
        refine W.lcmp hx hb dX7_passName_45 ?_
        refine lv_topi (fun y_29 ey_29 => ?_)
        have ty_29 := lcmp_rng ey_29
        refine lv_if_ne (tgt := 58) hx hb dX7_passName_46 rfl (fun c_30 => ?_) (fun c_30 => ?_)
        · have c_30 : y_29.toInt ≠ 0 := xI_ne rfl rfl c_30
          obtain ⟨y_31, ey_31⟩ : ∃ q, q = x_13 + 1 := ⟨_, rfl⟩
          have ty_31 : y_31.toInt = x_13.toInt + 1 := xI_add rfl rfl ey_31 ((by first | (clear c_1 hn_17 c_30; omega) | omega)) ((by first | (clear c_1 hn_17 c_30; omega) | omega))
          refine lv_iinc (v := y_31) (lv' := [(3, .int y_31), (0, .ref (a 5)), (1, .ref (a 35)), (2, .int p0)]) hx hb dX7_passName_58 hl (k := 0) rfl (by rw [ey_31]; rfl) (lt_b rfl) rfl (fun ls hl => ?_)
          refine lv_goto (tgt := 30) hx hb dX7_passName_61 rfl ?_
          exact ih_11 (3 - y_31.toInt : Int).toNat (by omega) _ _ _ ⟨G_9, y_31, (Int.toNat_of_nonneg ((by first | (clear c_1 hn_17 c_30; omega) | omega))), ⟨(by first | (clear c_1 hn_17 c_30; omega) | omega), (by first | (clear c_1 hn_17 c_30; omega) | omega)⟩, (hX_14.st (St_k_rName_35_1_mk ⟨x_13, G_9, y_31, G_9, rfl, rfl, f_16, hB_G_9, ⟨c_18, ⟨y_27, ey_27, ⟨y_28, ey_28.symm.trans ((hq_10.l9 3 6 rfl rfl)), ⟨y_29, ey_29, ⟨c_30, ⟨y_31, ty_31, ⟨rfl, rfl⟩⟩⟩⟩⟩⟩⟩⟩)), hW, hB_G_9, hF, (Fr.call9 (rs := []) (fs := []) Fr.rf hq_10 rfl rfl), hS, lv_sub hl [0, 1, 2, 3] rfl⟩
        · have c_30 : y_29.toInt = 0 := xI_eq rfl rfl c_30
          refine lv_aload_n hx hb dX7_passName_49 rfl (lv_at hl 1 rfl) ?_
          refine S_getR (n := 3) (C := RX7) (T := TX7) (N := 10) hx hb hg iX7 hown hK hW kd_5 rfl 0 (lt_b rfl) (hg (Cond.fieldLink RX7 26 "SlabWalk$Reader" "tokens" "LSlabWalk$Tokens;") m311) (fun _ h9 => h9) rfl dX7_passName_50 ?_
          refine ic_3 hx hb dX7_passName_53 ?_
          refine S_calli (va_runV (As := [.int 3]) (rest := []) ⟨hx, hb, hml, hown, hts⟩ (k_tRefuse l D k A a z G_9 3 ⟨by decide, by decide⟩) (cwV 1 hts (gd_V hgd m778 m779 m780 m120 m781) rfl rfl rfl hd_X9_refuse ⟨Nat.le_of_ble_eq_true rfl, Nat.le_of_ble_eq_true rfl⟩) (pre_W hW hB_G_9 hK hZ hS kd_3 rfl) rfl rfl hl.1 rfl (lv_room (Nat.le_of_ble_eq_true rfl)) dX7_passName_54 ⟨Nat.le_of_ble_eq_true rfl, Nat.le_of_ble_eq_true rfl⟩) hS (fun r_32 G_33 H locs hpo hW hS => ?_)
          have hX_36 : P_tRefuse 3 G_9 r_32 G_33 := hpo
          obtain ⟨hB_G_33, hq_34, f_37, -⟩ := hpo
          have hF := hF.call9 hq_34 rfl rfl
          exact W.zret (v := r_32) hx hb hr (nar_z ((by first | (clear ha_p0 c_1 c_8 hn_17 f_16 c_18 c_30; omega) | omega)) ((by first | (clear ha_p0 c_1 c_8 hn_17 f_16 c_18 c_30; omega) | omega))) (fun t ht _ => ⟨⟨r_32, G_33, rfl, (P_rName_35_mk ⟨hB_G_33, hF, ⟨(by first | (clear ha_p0 c_1 c_8 hn_17 f_16 c_18 c_30; omega) | omega), (by first | (clear ha_p0 c_1 c_8 hn_17 f_16 c_18 c_30; omega) | omega)⟩, (Or.inl ⟨c_1, (Or.inl ⟨c_8, ⟨x_13, G_9, hX_14, f_16, hB_G_9, hq_10, (Or.inr ⟨c_18, ⟨y_27, ey_27, ⟨y_28, ey_28.symm.trans ((hq_10.l9 3 6 rfl rfl)), ⟨y_29, ey_29, ⟨c_30, ⟨r_32, G_33, hX_36, ⟨rfl, rfl⟩⟩⟩⟩⟩⟩⟩)⟩⟩)⟩)⟩), wd_t ht hW⟩, hS.F ht⟩) hS.2.2 dX7_passName_57
    · have c_8 : 4 ≤ p0.toInt := xI_nlt rfl rfl c_8
      refine lv_aload_n hx hb dX7_passName_19 rfl (lv_at hl 0 rfl) ?_
      refine S_getR (n := 3) (C := RX7) (T := TX7) (N := 10) hx hb hg iX7 hown hK hW kd_5 rfl 0 (lt_b rfl) (hg (Cond.fieldLink RX7 26 "SlabWalk$Reader" "tokens" "LSlabWalk$Tokens;") m311) (fun _ h9 => h9) rfl dX7_passName_20 ?_
      refine ic_2 hx hb dX7_passName_23 ?_
      refine S_calli (va_runV (As := [.int 2]) (rest := []) ⟨hx, hb, hml, hown, hts⟩ (k_tRefuse l D k A a z G 2 ⟨by decide, by decide⟩) (cwV 1 hts (gd_V hgd m778 m779 m780 m120 m781) rfl rfl rfl hd_X9_refuse ⟨Nat.le_of_ble_eq_true rfl, Nat.le_of_ble_eq_true rfl⟩) (pre_W hW hB_G hK hZ hS kd_3 rfl) rfl rfl hl.1 rfl (lv_room (Nat.le_of_ble_eq_true rfl)) dX7_passName_24 ⟨Nat.le_of_ble_eq_true rfl, Nat.le_of_ble_eq_true rfl⟩) hS (fun r_38 G_39 H locs hpo hW hS => ?_)
      have hX_42 : P_tRefuse 2 G r_38 G_39 := hpo
      obtain ⟨hB_G_39, hq_40, f_43, -⟩ := hpo
      have hF := hF.call9 hq_40 rfl rfl
      exact W.zret (v := r_38) hx hb hr (nar_z ((by first | (clear ha_p0 c_1 c_8; omega) | omega)) ((by first | (clear ha_p0 c_1 c_8; omega) | omega))) (fun t ht _ => ⟨⟨r_38, G_39, rfl, (P_rName_35_mk ⟨hB_G_39, hF, ⟨(by first | (clear ha_p0 c_1 c_8; omega) | omega), (by first | (clear ha_p0 c_1 c_8; omega) | omega)⟩, (Or.inl ⟨c_1, (Or.inr ⟨c_8, ⟨r_38, G_39, hX_42, ⟨rfl, rfl⟩⟩⟩)⟩)⟩), wd_t ht hW⟩, hS.F ht⟩) hS.2.2 dX7_passName_27

set_option maxHeartbeats 4000000 in
set_option maxRecDepth 100000 in
theorem k_rName_36 (l : Launch) (D : va_G) (k : KT) (A : Nat → Prop) (a : Nat → Nat) (z : SK) (G : GS) (p0 : Int32) (ha_p0 : 0 ≤ p0.toInt ∧ p0.toInt ≤ 6) : Met l yX7_passName (WS yX7_passName cX7_passName 4 (some .boolean)) ({ frames := 7, cells := 0, slots := 0, locals := 148 }) (va_Pc [.ref (a 5), .ref (a 36), .int p0] (cW D k A a z G)) (va_Qi (fun (r : Int32) (G1 : GS) => P_rName_36 p0 G r G1) (fun (G1 : GS) t => Wd D k A a G1 t.heap) A) 0 0 A := by
  refine Met.ofW (cc := cX7_passName) (maxL := 4) (ret := (some .boolean)) (by decide) rfl ?_
  intro p e s m args below meth c s₁ B hml hv
  obtain ⟨rfl, hW, hB_G, hK, hZ⟩ := hv
  have hx := B.exec
  have hb := B.bytes
  have hr := B.returns
  have hts := atoms_spec (ws := WS yX7_passName cX7_passName 4 (some .boolean)) B.pre
  have hgd : ∀ w ∈ gd, w ∈ WS yX7_passName cX7_passName 4 (some .boolean) := fun w h => List.mem_cons_of_mem _ h
  have hg : ∀ w ∈ gd, w.before _ s = true := fun w h => hts w (hgd w h)
  have hown : s.vm.findClass RX7 = some m.cls := findClass_of_methodNamed B.named
  have hS : va_S A s.heap s.heap [] := va_S.rf
  have hF : Fr [36] [(3, 2), (3, 3), (3, 4), (3, 5), (3, 6), (3, 7), (3, 8)] G G := Fr.rf
  have hl := lv_entry ([.ref (a 5), .ref (a 36), .int p0]) (n := 4) (Nat.le_of_ble_eq_true rfl)
  rw [lg_entry_eq]
  generalize (lg_sl ([.ref (a 5), .ref (a 36), .int p0]) ++ List.replicate (4 - (lg_sl ([.ref (a 5), .ref (a 36), .int p0])).length) Slot.unset).toArray = ls at hl ⊢
  have hl : lv_has ls 4 [(0, .ref (a 5)), (1, .ref (a 36)), (2, .int p0)] := hl
  refine lv_aload_n hx hb dX7_passName_0 rfl (lv_at hl 0 rfl) ?_
  refine S_getR (n := 3) (C := RX7) (T := TX7) (N := 10) hx hb hg iX7 hown hK hW kd_5 rfl 0 (lt_b rfl) (hg (Cond.fieldLink RX7 26 "SlabWalk$Reader" "tokens" "LSlabWalk$Tokens;") m311) (fun _ h9 => h9) rfl dX7_passName_1 ?_
  refine S_getI (v := (G.1 3 3)) (C := RX9) (T := TX9) (N := 9) hx hb hg iX9 hown hK hW kd_3 rfl 3 (lt_b rfl) (hg (Cond.fieldLink RX7 62 "SlabWalk$Tokens" "kind" "I") m261) (fun _ h9 => h9) rfl rfl dX7_passName_4 ?_
  refine lv_sipush (v := 200) hx hb dX7_passName_7 (by decide) ?_
  refine lv_icmp_ne (tgt := 19) hx hb dX7_passName_10 rfl (fun c_1 => ?_) (fun c_1 => ?_)
  · have c_1 : (G.1 3 3).toInt ≠ 200 := xI_ne rfl rfl c_1
    refine lv_aload_n hx hb dX7_passName_19 rfl (lv_at hl 0 rfl) ?_
    refine S_getR (n := 3) (C := RX7) (T := TX7) (N := 10) hx hb hg iX7 hown hK hW kd_5 rfl 0 (lt_b rfl) (hg (Cond.fieldLink RX7 26 "SlabWalk$Reader" "tokens" "LSlabWalk$Tokens;") m311) (fun _ h9 => h9) rfl dX7_passName_20 ?_
    refine ic_2 hx hb dX7_passName_23 ?_
    refine S_calli (va_runV (As := [.int 2]) (rest := []) ⟨hx, hb, hml, hown, hts⟩ (k_tRefuse l D k A a z G 2 ⟨by decide, by decide⟩) (cwV 1 hts (gd_V hgd m778 m779 m780 m120 m781) rfl rfl rfl hd_X9_refuse ⟨Nat.le_of_ble_eq_true rfl, Nat.le_of_ble_eq_true rfl⟩) (pre_W hW hB_G hK hZ hS kd_3 rfl) rfl rfl hl.1 rfl (lv_room (Nat.le_of_ble_eq_true rfl)) dX7_passName_24 ⟨Nat.le_of_ble_eq_true rfl, Nat.le_of_ble_eq_true rfl⟩) hS (fun r_2 G_3 H locs hpo hW hS => ?_)
    have hX_6 : P_tRefuse 2 G r_2 G_3 := hpo
    obtain ⟨hB_G_3, hq_4, f_7, -⟩ := hpo
    have hF := hF.call9 hq_4 rfl rfl
    exact W.zret (v := r_2) hx hb hr (nar_z (by omega) (by omega)) (fun t ht _ => ⟨⟨r_2, G_3, rfl, (P_rName_36_mk ⟨hB_G_3, hF, ⟨by omega, by omega⟩, (Or.inr ⟨c_1, ⟨r_2, G_3, hX_6, ⟨rfl, rfl⟩⟩⟩)⟩), wd_t ht hW⟩, hS.F ht⟩) hS.2.2 dX7_passName_27
  · have c_1 : (G.1 3 3).toInt = 200 := xI_eq rfl rfl c_1
    refine lv_iload_n hx hb dX7_passName_13 rfl (lv_at hl 2 rfl) ?_
    refine lv_aload_n hx hb dX7_passName_14 rfl (lv_at hl 1 rfl) ?_
    refine S_alen (v := 6) hx hb hK hW kd_36 2 rfl rfl dX7_passName_15 ?_
    refine lv_icmp_lt (tgt := 28) hx hb dX7_passName_16 rfl (fun c_8 => ?_) (fun c_8 => ?_)
    · have c_8 : p0.toInt < 6 := xI_lt rfl rfl c_8
      refine ic_0 hx hb dX7_passName_28 ?_
      refine lv_istore_n (lv' := [(3, .int 0), (0, .ref (a 5)), (1, .ref (a 36)), (2, .int p0)]) hx hb dX7_passName_29 rfl hl (lt_b rfl) rfl (fun ls hl => ?_)
      have qc_15 : (0 : Int32).toInt = 0 := rfl
      refine loop_N (Inv := fun n H locs ls => ∃ (G_9 : GS) (x_13 : Int32), (n : Int) = 5 - x_13.toInt ∧ (0 ≤ x_13.toInt ∧ x_13.toInt ≤ 5) ∧ Rc (St_k_rName_36_1 p0 G) (0, G) (x_13, G_9) ∧ Wd D k A a G_9 H ∧ Bd G_9 ∧ Fr [36] [(3, 2), (3, 3), (3, 4), (3, 5), (3, 6), (3, 7), (3, 8)] G G_9 ∧ Fr [] [] G G_9 ∧ va_S A s.heap H locs ∧ lv_has ls 4 [(3, .int x_13), (0, .ref (a 5)), (1, .ref (a 36)), (2, .int p0)]) (fun n_12 H locs ls ih_11 hI => ?_) (5 - 0 : Int).toNat ⟨G, 0, (Int.toNat_of_nonneg ((by first | (clear ha_p0 c_1 c_8; omega) | omega))), ⟨(by first | (clear ha_p0 c_1 c_8; omega) | omega), (by first | (clear ha_p0 c_1 c_8; omega) | omega)⟩, Rc.rf, hW, hB_G, hF, Fr.rf, hS, lv_sub hl [0, 1, 2, 3] rfl⟩
      obtain ⟨G_9, x_13, hn_17, f_16, hX_14, hW, hB_G_9, hF, hq_10, hS, hl⟩ := hI
      refine lv_iload_n hx hb dX7_passName_30 rfl (lv_at hl 0 rfl) ?_
      refine lv_iload_n hx hb dX7_passName_31 rfl (lv_at hl 3 rfl) ?_
      refine lv_icmp_ge (tgt := 64) hx hb dX7_passName_32 rfl (fun c_18 => ?_) (fun c_18 => ?_)
      · have c_18 : p0.toInt ≤ x_13.toInt := xI_le rfl rfl c_18
        refine lv_aload_n hx hb dX7_passName_64 rfl (lv_at hl 2 rfl) ?_
        refine lv_iload_n hx hb dX7_passName_65 rfl (lv_at hl 3 rfl) ?_
        refine lv_aload_n hx hb dX7_passName_66 rfl (lv_at hl 1 rfl) ?_
        refine S_getR (n := 3) (C := RX7) (T := TX7) (N := 10) hx hb hg iX7 hown hK hW kd_5 rfl 0 (lt_b rfl) (hg (Cond.fieldLink RX7 26 "SlabWalk$Reader" "tokens" "LSlabWalk$Tokens;") m311) (fun _ h9 => h9) rfl dX7_passName_67 ?_
        obtain ⟨y_19, ey_19⟩ : ∃ q, G_9.2.1 3 6 = q := ⟨_, rfl⟩
        refine S_getL (v := y_19) (C := RX9) (T := TX9) (N := 9) hx hb hg iX9 hown hK hW kd_3 rfl 6 (lt_b rfl) (hg (Cond.fieldLink RX7 92 "SlabWalk$Tokens" "word" "J") m268) (fun _ h9 => h9) rfl ey_19 dX7_passName_70 ?_
        refine S_last hx hb hK hW hS kd_36 (vin (by omega) (by omega)) dX7_passName_73 (fun G_20 H locs eG_20 hW hS => ?_)
        have hB_G_20 : Bd G_20 := hB_G_9.putl eG_20
        have hF := hF.putl eG_20 (Or.inl (by decide))
        refine lv_aload_n hx hb dX7_passName_74 rfl (lv_at hl 1 rfl) ?_
        refine S_getR (n := 3) (C := RX7) (T := TX7) (N := 10) hx hb hg iX7 hown hK hW kd_5 rfl 0 (lt_b rfl) (hg (Cond.fieldLink RX7 26 "SlabWalk$Reader" "tokens" "LSlabWalk$Tokens;") m311) (fun _ h9 => h9) rfl dX7_passName_75 ?_
        refine S_calli (va_runV (As := []) (rest := []) ⟨hx, hb, hml, hown, hts⟩ (k_tAdvance l D k A a z G_20  ) (cwV 0 hts (gd_V hgd m777 m639 m640 m120 m641) rfl rfl rfl hd_X9_advance ⟨Nat.le_of_ble_eq_true rfl, Nat.le_of_ble_eq_true rfl⟩) (pre_W hW hB_G_20 hK hZ hS kd_3 rfl) rfl rfl hl.1 rfl (lv_room (Nat.le_of_ble_eq_true rfl)) dX7_passName_78 ⟨Nat.le_of_ble_eq_true rfl, Nat.le_of_ble_eq_true rfl⟩) hS (fun r_21 G_22 H locs hpo hW hS => ?_)
        have hX_25 : P_tAdvance G_20 r_21 G_22 := hpo
        obtain ⟨hB_G_22, hq_23, f_26, -⟩ := hpo
        have hF := hF.call9 hq_23 rfl rfl
        exact W.zret (v := r_21) hx hb hr (nar_z ((by first | (clear ha_p0 c_1 c_8 hn_17 f_16 c_18; omega) | omega)) ((by first | (clear ha_p0 c_1 c_8 hn_17 f_16 c_18; omega) | omega))) (fun t ht _ => ⟨⟨r_21, G_22, rfl, (P_rName_36_mk ⟨hB_G_22, hF, ⟨(by first | (clear ha_p0 c_1 c_8 hn_17 f_16 c_18; omega) | omega), (by first | (clear ha_p0 c_1 c_8 hn_17 f_16 c_18; omega) | omega)⟩, (Or.inl ⟨c_1, (Or.inl ⟨c_8, ⟨x_13, G_9, hX_14, f_16, hB_G_9, hq_10, (Or.inl ⟨c_18, ⟨y_19, ey_19.symm.trans ((hq_10.l9 3 6 rfl rfl)), ⟨G_20, hB_G_20, (Fr.putl (rs := [36]) (fs := []) Fr.rf eG_20 (Or.inl (by decide))), rl_ast eG_20, ⟨r_21, G_22, hX_25, ⟨rfl, rfl⟩⟩⟩⟩⟩)⟩⟩)⟩)⟩), wd_t ht hW⟩, hS.F ht⟩) hS.2.2 dX7_passName_81
      · have c_18 : x_13.toInt < p0.toInt := xI_nle rfl rfl c_18
        refine lv_aload_n hx hb dX7_passName_35 rfl (lv_at hl 2 rfl) ?_
        refine lv_iload_n hx hb dX7_passName_36 rfl (lv_at hl 0 rfl) ?_
        refine S_lald hx hb hK hW kd_36 (vin (by omega) (by omega)) dX7_passName_37 (fun y_27 ey_27 => ?_)
        refine lv_aload_n hx hb dX7_passName_38 rfl (lv_at hl 1 rfl) ?_
        refine S_getR (n := 3) (C := RX7) (T := TX7) (N := 10) hx hb hg iX7 hown hK hW kd_5 rfl 0 (lt_b rfl) (hg (Cond.fieldLink RX7 26 "SlabWalk$Reader" "tokens" "LSlabWalk$Tokens;") m311) (fun _ h9 => h9) rfl dX7_passName_39 ?_
        obtain ⟨y_28, ey_28⟩ : ∃ q, G_9.2.1 3 6 = q := ⟨_, rfl⟩
        refine S_getL (v := y_28) (C := RX9) (T := TX9) (N := 9) hx hb hg iX9 hown hK hW kd_3 rfl 6 (lt_b rfl) (hg (Cond.fieldLink RX7 92 "SlabWalk$Tokens" "word" "J") m268) (fun _ h9 => h9) rfl ey_28 dX7_passName_42 ?_
        refine W.lcmp hx hb dX7_passName_45 ?_
        refine lv_topi (fun y_29 ey_29 => ?_)
        have ty_29 := lcmp_rng ey_29
        refine lv_if_ne (tgt := 58) hx hb dX7_passName_46 rfl (fun c_30 => ?_) (fun c_30 => ?_)
        · have c_30 : y_29.toInt ≠ 0 := xI_ne rfl rfl c_30
          obtain ⟨y_31, ey_31⟩ : ∃ q, q = x_13 + 1 := ⟨_, rfl⟩
          have ty_31 : y_31.toInt = x_13.toInt + 1 := xI_add rfl rfl ey_31 ((by first | (clear c_1 hn_17 c_30; omega) | omega)) ((by first | (clear c_1 hn_17 c_30; omega) | omega))
          refine lv_iinc (v := y_31) (lv' := [(3, .int y_31), (0, .ref (a 5)), (1, .ref (a 36)), (2, .int p0)]) hx hb dX7_passName_58 hl (k := 0) rfl (by rw [ey_31]; rfl) (lt_b rfl) rfl (fun ls hl => ?_)
          refine lv_goto (tgt := 30) hx hb dX7_passName_61 rfl ?_
          exact ih_11 (5 - y_31.toInt : Int).toNat (by omega) _ _ _ ⟨G_9, y_31, (Int.toNat_of_nonneg ((by first | (clear c_1 hn_17 c_30; omega) | omega))), ⟨(by first | (clear c_1 hn_17 c_30; omega) | omega), (by first | (clear c_1 hn_17 c_30; omega) | omega)⟩, (hX_14.st (St_k_rName_36_1_mk ⟨x_13, G_9, y_31, G_9, rfl, rfl, f_16, hB_G_9, ⟨c_18, ⟨y_27, ey_27, ⟨y_28, ey_28.symm.trans ((hq_10.l9 3 6 rfl rfl)), ⟨y_29, ey_29, ⟨c_30, ⟨y_31, ty_31, ⟨rfl, rfl⟩⟩⟩⟩⟩⟩⟩⟩)), hW, hB_G_9, hF, (Fr.call9 (rs := []) (fs := []) Fr.rf hq_10 rfl rfl), hS, lv_sub hl [0, 1, 2, 3] rfl⟩
        · have c_30 : y_29.toInt = 0 := xI_eq rfl rfl c_30
          refine lv_aload_n hx hb dX7_passName_49 rfl (lv_at hl 1 rfl) ?_
          refine S_getR (n := 3) (C := RX7) (T := TX7) (N := 10) hx hb hg iX7 hown hK hW kd_5 rfl 0 (lt_b rfl) (hg (Cond.fieldLink RX7 26 "SlabWalk$Reader" "tokens" "LSlabWalk$Tokens;") m311) (fun _ h9 => h9) rfl dX7_passName_50 ?_
          refine ic_3 hx hb dX7_passName_53 ?_
          refine S_calli (va_runV (As := [.int 3]) (rest := []) ⟨hx, hb, hml, hown, hts⟩ (k_tRefuse l D k A a z G_9 3 ⟨by decide, by decide⟩) (cwV 1 hts (gd_V hgd m778 m779 m780 m120 m781) rfl rfl rfl hd_X9_refuse ⟨Nat.le_of_ble_eq_true rfl, Nat.le_of_ble_eq_true rfl⟩) (pre_W hW hB_G_9 hK hZ hS kd_3 rfl) rfl rfl hl.1 rfl (lv_room (Nat.le_of_ble_eq_true rfl)) dX7_passName_54 ⟨Nat.le_of_ble_eq_true rfl, Nat.le_of_ble_eq_true rfl⟩) hS (fun r_32 G_33 H locs hpo hW hS => ?_)
          have hX_36 : P_tRefuse 3 G_9 r_32 G_33 := hpo
          obtain ⟨hB_G_33, hq_34, f_37, -⟩ := hpo
          have hF := hF.call9 hq_34 rfl rfl
          exact W.zret (v := r_32) hx hb hr (nar_z ((by first | (clear ha_p0 c_1 c_8 hn_17 f_16 c_18 c_30; omega) | omega)) ((by first | (clear ha_p0 c_1 c_8 hn_17 f_16 c_18 c_30; omega) | omega))) (fun t ht _ => ⟨⟨r_32, G_33, rfl, (P_rName_36_mk ⟨hB_G_33, hF, ⟨(by first | (clear ha_p0 c_1 c_8 hn_17 f_16 c_18 c_30; omega) | omega), (by first | (clear ha_p0 c_1 c_8 hn_17 f_16 c_18 c_30; omega) | omega)⟩, (Or.inl ⟨c_1, (Or.inl ⟨c_8, ⟨x_13, G_9, hX_14, f_16, hB_G_9, hq_10, (Or.inr ⟨c_18, ⟨y_27, ey_27, ⟨y_28, ey_28.symm.trans ((hq_10.l9 3 6 rfl rfl)), ⟨y_29, ey_29, ⟨c_30, ⟨r_32, G_33, hX_36, ⟨rfl, rfl⟩⟩⟩⟩⟩⟩⟩)⟩⟩)⟩)⟩), wd_t ht hW⟩, hS.F ht⟩) hS.2.2 dX7_passName_57
    · have c_8 : 6 ≤ p0.toInt := xI_nlt rfl rfl c_8
      refine lv_aload_n hx hb dX7_passName_19 rfl (lv_at hl 0 rfl) ?_
      refine S_getR (n := 3) (C := RX7) (T := TX7) (N := 10) hx hb hg iX7 hown hK hW kd_5 rfl 0 (lt_b rfl) (hg (Cond.fieldLink RX7 26 "SlabWalk$Reader" "tokens" "LSlabWalk$Tokens;") m311) (fun _ h9 => h9) rfl dX7_passName_20 ?_
      refine ic_2 hx hb dX7_passName_23 ?_
      refine S_calli (va_runV (As := [.int 2]) (rest := []) ⟨hx, hb, hml, hown, hts⟩ (k_tRefuse l D k A a z G 2 ⟨by decide, by decide⟩) (cwV 1 hts (gd_V hgd m778 m779 m780 m120 m781) rfl rfl rfl hd_X9_refuse ⟨Nat.le_of_ble_eq_true rfl, Nat.le_of_ble_eq_true rfl⟩) (pre_W hW hB_G hK hZ hS kd_3 rfl) rfl rfl hl.1 rfl (lv_room (Nat.le_of_ble_eq_true rfl)) dX7_passName_24 ⟨Nat.le_of_ble_eq_true rfl, Nat.le_of_ble_eq_true rfl⟩) hS (fun r_38 G_39 H locs hpo hW hS => ?_)
      have hX_42 : P_tRefuse 2 G r_38 G_39 := hpo
      obtain ⟨hB_G_39, hq_40, f_43, -⟩ := hpo
      have hF := hF.call9 hq_40 rfl rfl
      exact W.zret (v := r_38) hx hb hr (nar_z ((by first | (clear ha_p0 c_1 c_8; omega) | omega)) ((by first | (clear ha_p0 c_1 c_8; omega) | omega))) (fun t ht _ => ⟨⟨r_38, G_39, rfl, (P_rName_36_mk ⟨hB_G_39, hF, ⟨(by first | (clear ha_p0 c_1 c_8; omega) | omega), (by first | (clear ha_p0 c_1 c_8; omega) | omega)⟩, (Or.inl ⟨c_1, (Or.inr ⟨c_8, ⟨r_38, G_39, hX_42, ⟨rfl, rfl⟩⟩⟩)⟩)⟩), wd_t ht hW⟩, hS.F ht⟩) hS.2.2 dX7_passName_27

set_option maxHeartbeats 4000000 in
set_option maxRecDepth 100000 in
theorem k_rIsNum (l : Launch) (D : va_G) (k : KT) (A : Nat → Prop) (a : Nat → Nat) (z : SK) (G : GS) (p0 : Int32) (p1 : Int32)  : Met l yX7_isNumber (WS yX7_isNumber cX7_isNumber 3 (some .boolean)) ({ frames := 1, cells := 0, slots := 0, locals := 21 }) (va_Pc [.ref (a 5), .int p0, .int p1] (cW D k A a z G)) (va_Qi (fun (r : Int32) (G1 : GS) => P_rIsNum p0 p1 G r G1) (fun (G1 : GS) t => Wd D k A a G1 t.heap) A) 0 0 A := by
  refine Met.ofW (cc := cX7_isNumber) (maxL := 3) (ret := (some .boolean)) (by decide) rfl ?_
  intro p e s m args below meth c s₁ B hml hv
  obtain ⟨rfl, hW, hB_G, hK, hZ⟩ := hv
  have hx := B.exec
  have hb := B.bytes
  have hr := B.returns
  have hts := atoms_spec (ws := WS yX7_isNumber cX7_isNumber 3 (some .boolean)) B.pre
  have hgd : ∀ w ∈ gd, w ∈ WS yX7_isNumber cX7_isNumber 3 (some .boolean) := fun w h => List.mem_cons_of_mem _ h
  have hg : ∀ w ∈ gd, w.before _ s = true := fun w h => hts w (hgd w h)
  have hown : s.vm.findClass RX7 = some m.cls := findClass_of_methodNamed B.named
  have hS : va_S A s.heap s.heap [] := va_S.rf
  have hF : Fr [] [(3, 7), (3, 8), (5, 9)] G G := Fr.rf
  have hl := lv_entry ([.ref (a 5), .int p0, .int p1]) (n := 3) (Nat.le_of_ble_eq_true rfl)
  rw [lg_entry_eq]
  generalize (lg_sl ([.ref (a 5), .int p0, .int p1]) ++ List.replicate (3 - (lg_sl ([.ref (a 5), .int p0, .int p1])).length) Slot.unset).toArray = ls at hl ⊢
  have hl : lv_has ls 3 [(0, .ref (a 5)), (1, .int p0), (2, .int p1)] := hl
  refine lv_aload_n hx hb dX7_isNumber_0 rfl (lv_at hl 0 rfl) ?_
  refine S_getR (n := 3) (C := RX7) (T := TX7) (N := 10) hx hb hg iX7 hown hK hW kd_5 rfl 0 (lt_b rfl) (hg (Cond.fieldLink RX7 26 "SlabWalk$Reader" "tokens" "LSlabWalk$Tokens;") m311) (fun _ h9 => h9) rfl dX7_isNumber_1 ?_
  refine S_getI (v := (G.1 3 3)) (C := RX9) (T := TX9) (N := 9) hx hb hg iX9 hown hK hW kd_3 rfl 3 (lt_b rfl) (hg (Cond.fieldLink RX7 62 "SlabWalk$Tokens" "kind" "I") m261) (fun _ h9 => h9) rfl rfl dX7_isNumber_4 ?_
  refine lv_sipush (v := 201) hx hb dX7_isNumber_7 (by decide) ?_
  refine lv_icmp_eq (tgt := 22) hx hb dX7_isNumber_10 rfl (fun c_1 => ?_) (fun c_1 => ?_)
  · have c_1 : (G.1 3 3).toInt = 201 := xI_eq rfl rfl c_1
    refine lv_aload_n hx hb dX7_isNumber_22 rfl (lv_at hl 0 rfl) ?_
    refine S_getR (n := 3) (C := RX7) (T := TX7) (N := 10) hx hb hg iX7 hown hK hW kd_5 rfl 0 (lt_b rfl) (hg (Cond.fieldLink RX7 26 "SlabWalk$Reader" "tokens" "LSlabWalk$Tokens;") m311) (fun _ h9 => h9) rfl dX7_isNumber_23 ?_
    refine S_getI (v := (G.1 3 5)) (C := RX9) (T := TX9) (N := 9) hx hb hg iX9 hown hK hW kd_3 rfl 5 (lt_b rfl) (hg (Cond.fieldLink RX7 96 "SlabWalk$Tokens" "number" "I") m265) (fun _ h9 => h9) rfl rfl dX7_isNumber_26 ?_
    refine lv_iload_n hx hb dX7_isNumber_29 rfl (lv_at hl 1 rfl) ?_
    refine lv_icmp_lt (tgt := 44) hx hb dX7_isNumber_30 rfl (fun c_2 => ?_) (fun c_2 => ?_)
    · have c_2 : (G.1 3 5).toInt < p0.toInt := xI_lt rfl rfl c_2
      refine lv_aload_n hx hb dX7_isNumber_44 rfl (lv_at hl 0 rfl) ?_
      refine S_getR (n := 3) (C := RX7) (T := TX7) (N := 10) hx hb hg iX7 hown hK hW kd_5 rfl 0 (lt_b rfl) (hg (Cond.fieldLink RX7 26 "SlabWalk$Reader" "tokens" "LSlabWalk$Tokens;") m311) (fun _ h9 => h9) rfl dX7_isNumber_45 ?_
      refine ic_4 hx hb dX7_isNumber_48 ?_
      refine S_calli (va_runV (As := [.int 4]) (rest := []) ⟨hx, hb, hml, hown, hts⟩ (k_tRefuse l D k A a z G 4 ⟨by decide, by decide⟩) (cwV 1 hts (gd_V hgd m778 m779 m780 m120 m781) rfl rfl rfl hd_X9_refuse ⟨Nat.le_of_ble_eq_true rfl, Nat.le_of_ble_eq_true rfl⟩) (pre_W hW hB_G hK hZ hS kd_3 rfl) rfl rfl hl.1 rfl (lv_room (Nat.le_of_ble_eq_true rfl)) dX7_isNumber_49 ⟨Nat.le_of_ble_eq_true rfl, Nat.le_of_ble_eq_true rfl⟩) hS (fun r_3 G_4 H locs hpo hW hS => ?_)
      have hX_7 : P_tRefuse 4 G r_3 G_4 := hpo
      obtain ⟨hB_G_4, hq_5, f_8, -⟩ := hpo
      have hF := hF.call9 hq_5 rfl rfl
      have g_9 : (G_4.1 5 9).toInt = (G.1 5 9).toInt := (congrArg Int32.toInt (show G_4.1 5 9 = (G.1 5 9) from (hq_5.i9 5 9 rfl rfl)))
      exact W.zret (v := r_3) hx hb hr (nar_z ((by first | (clear c_1 c_2 g_9; omega) | omega)) ((by first | (clear c_1 c_2 g_9; omega) | omega))) (fun t ht _ => ⟨⟨r_3, G_4, rfl, (P_rIsNum_mk ⟨hB_G_4, hF, ⟨(by first | (clear c_1 c_2 g_9; omega) | omega), (by first | (clear c_1 c_2 g_9; omega) | omega)⟩, ((by first | exact (fun h9 => ⟨(by omega), (by omega)⟩) | omega)), (Or.inl ⟨c_1, (Or.inl ⟨c_2, ⟨r_3, G_4, hX_7, ⟨rfl, rfl⟩⟩⟩)⟩)⟩), wd_t ht hW⟩, hS.F ht⟩) hS.2.2 dX7_isNumber_52
    · have c_2 : p0.toInt ≤ (G.1 3 5).toInt := xI_nlt rfl rfl c_2
      refine lv_aload_n hx hb dX7_isNumber_33 rfl (lv_at hl 0 rfl) ?_
      refine S_getR (n := 3) (C := RX7) (T := TX7) (N := 10) hx hb hg iX7 hown hK hW kd_5 rfl 0 (lt_b rfl) (hg (Cond.fieldLink RX7 26 "SlabWalk$Reader" "tokens" "LSlabWalk$Tokens;") m311) (fun _ h9 => h9) rfl dX7_isNumber_34 ?_
      refine S_getI (v := (G.1 3 5)) (C := RX9) (T := TX9) (N := 9) hx hb hg iX9 hown hK hW kd_3 rfl 5 (lt_b rfl) (hg (Cond.fieldLink RX7 96 "SlabWalk$Tokens" "number" "I") m265) (fun _ h9 => h9) rfl rfl dX7_isNumber_37 ?_
      refine lv_iload_n hx hb dX7_isNumber_40 rfl (lv_at hl 2 rfl) ?_
      refine lv_icmp_le (tgt := 53) hx hb dX7_isNumber_41 rfl (fun c_10 => ?_) (fun c_10 => ?_)
      · have c_10 : (G.1 3 5).toInt ≤ p1.toInt := xI_le rfl rfl c_10
        refine lv_aload_n hx hb dX7_isNumber_53 rfl (lv_at hl 0 rfl) ?_
        refine lv_aload_n hx hb dX7_isNumber_54 rfl (lv_at hl 0 rfl) ?_
        refine S_getR (n := 3) (C := RX7) (T := TX7) (N := 10) hx hb hg iX7 hown hK hW kd_5 rfl 0 (lt_b rfl) (hg (Cond.fieldLink RX7 26 "SlabWalk$Reader" "tokens" "LSlabWalk$Tokens;") m311) (fun _ h9 => h9) rfl dX7_isNumber_55 ?_
        refine S_getI (v := (G.1 3 5)) (C := RX9) (T := TX9) (N := 9) hx hb hg iX9 hown hK hW kd_3 rfl 5 (lt_b rfl) (hg (Cond.fieldLink RX7 96 "SlabWalk$Tokens" "number" "I") m265) (fun _ h9 => h9) rfl rfl dX7_isNumber_58 ?_
        refine S_putI (ty := .int) (C := RX7) (T := TX7) (N := 10) hx hb hg iX7 tyX7 tyX7_ok nmX7 hown hK hW hS kd_5 rfl 9 (lt_b rfl) (hg (Cond.fieldLink RX7 99 "SlabWalk$Reader" "number" "I") m321) (fun _ h9 => h9) rfl (by decide +kernel) rfl rfl rfl dX7_isNumber_61 (fun G_11 H locs eG_11 hW hS => ?_)
        have hB_G_11 : Bd G_11 := hB_G.put (lo := (-2147483648)) (hi := 2147483647) eG_11 rfl rfl rfl (tI_rng _).1 (tI_rng _).2 (hB_G.2.put eG_11 rfl)
        have hF := hF.put eG_11 (Or.inr (by decide))
        refine ic_1 hx hb dX7_isNumber_64 ?_
        have g_12 : (G_11.1 5 9).toInt = (G.1 3 5).toInt := (congrArg Int32.toInt (show G_11.1 5 9 = (G.1 3 5) from (gp_eq eG_11)))
        exact W.zret (v := 1) hx hb hr (by decide) (fun t ht _ => ⟨⟨1, G_11, rfl, (P_rIsNum_mk ⟨hB_G_11, hF, ⟨by decide, by decide⟩, (by have hq : (1 : Int32).toInt = 1 := rfl; (try dsimp only); omega), (Or.inl ⟨c_1, (Or.inr ⟨c_2, (Or.inl ⟨c_10, ⟨rfl, (Fr.put (rs := []) (fs := [(5, 9)]) Fr.rf eG_11 (Or.inr (by decide))), (gp_eq eG_11)⟩⟩)⟩)⟩)⟩), wd_t ht hW⟩, hS.F ht⟩) hS.2.2 dX7_isNumber_65
      · have c_10 : p1.toInt < (G.1 3 5).toInt := xI_nle rfl rfl c_10
        refine lv_aload_n hx hb dX7_isNumber_44 rfl (lv_at hl 0 rfl) ?_
        refine S_getR (n := 3) (C := RX7) (T := TX7) (N := 10) hx hb hg iX7 hown hK hW kd_5 rfl 0 (lt_b rfl) (hg (Cond.fieldLink RX7 26 "SlabWalk$Reader" "tokens" "LSlabWalk$Tokens;") m311) (fun _ h9 => h9) rfl dX7_isNumber_45 ?_
        refine ic_4 hx hb dX7_isNumber_48 ?_
        refine S_calli (va_runV (As := [.int 4]) (rest := []) ⟨hx, hb, hml, hown, hts⟩ (k_tRefuse l D k A a z G 4 ⟨by decide, by decide⟩) (cwV 1 hts (gd_V hgd m778 m779 m780 m120 m781) rfl rfl rfl hd_X9_refuse ⟨Nat.le_of_ble_eq_true rfl, Nat.le_of_ble_eq_true rfl⟩) (pre_W hW hB_G hK hZ hS kd_3 rfl) rfl rfl hl.1 rfl (lv_room (Nat.le_of_ble_eq_true rfl)) dX7_isNumber_49 ⟨Nat.le_of_ble_eq_true rfl, Nat.le_of_ble_eq_true rfl⟩) hS (fun r_13 G_14 H locs hpo hW hS => ?_)
        have hX_17 : P_tRefuse 4 G r_13 G_14 := hpo
        obtain ⟨hB_G_14, hq_15, f_18, -⟩ := hpo
        have hF := hF.call9 hq_15 rfl rfl
        have g_19 : (G_14.1 5 9).toInt = (G.1 5 9).toInt := (congrArg Int32.toInt (show G_14.1 5 9 = (G.1 5 9) from (hq_15.i9 5 9 rfl rfl)))
        exact W.zret (v := r_13) hx hb hr (nar_z ((by first | (clear c_1 c_2 c_10 g_19; omega) | omega)) ((by first | (clear c_1 c_2 c_10 g_19; omega) | omega))) (fun t ht _ => ⟨⟨r_13, G_14, rfl, (P_rIsNum_mk ⟨hB_G_14, hF, ⟨(by first | (clear c_1 c_2 c_10 g_19; omega) | omega), (by first | (clear c_1 c_2 c_10 g_19; omega) | omega)⟩, ((by first | exact (fun h9 => ⟨(by omega), (by omega)⟩) | omega)), (Or.inl ⟨c_1, (Or.inr ⟨c_2, (Or.inr ⟨c_10, ⟨r_13, G_14, hX_17, ⟨rfl, rfl⟩⟩⟩)⟩)⟩)⟩), wd_t ht hW⟩, hS.F ht⟩) hS.2.2 dX7_isNumber_52
  · have c_1 : (G.1 3 3).toInt ≠ 201 := xI_ne rfl rfl c_1
    refine lv_aload_n hx hb dX7_isNumber_13 rfl (lv_at hl 0 rfl) ?_
    refine S_getR (n := 3) (C := RX7) (T := TX7) (N := 10) hx hb hg iX7 hown hK hW kd_5 rfl 0 (lt_b rfl) (hg (Cond.fieldLink RX7 26 "SlabWalk$Reader" "tokens" "LSlabWalk$Tokens;") m311) (fun _ h9 => h9) rfl dX7_isNumber_14 ?_
    refine ic_2 hx hb dX7_isNumber_17 ?_
    refine S_calli (va_runV (As := [.int 2]) (rest := []) ⟨hx, hb, hml, hown, hts⟩ (k_tRefuse l D k A a z G 2 ⟨by decide, by decide⟩) (cwV 1 hts (gd_V hgd m778 m779 m780 m120 m781) rfl rfl rfl hd_X9_refuse ⟨Nat.le_of_ble_eq_true rfl, Nat.le_of_ble_eq_true rfl⟩) (pre_W hW hB_G hK hZ hS kd_3 rfl) rfl rfl hl.1 rfl (lv_room (Nat.le_of_ble_eq_true rfl)) dX7_isNumber_18 ⟨Nat.le_of_ble_eq_true rfl, Nat.le_of_ble_eq_true rfl⟩) hS (fun r_20 G_21 H locs hpo hW hS => ?_)
    have hX_24 : P_tRefuse 2 G r_20 G_21 := hpo
    obtain ⟨hB_G_21, hq_22, f_25, -⟩ := hpo
    have hF := hF.call9 hq_22 rfl rfl
    have g_26 : (G_21.1 5 9).toInt = (G.1 5 9).toInt := (congrArg Int32.toInt (show G_21.1 5 9 = (G.1 5 9) from (hq_22.i9 5 9 rfl rfl)))
    exact W.zret (v := r_20) hx hb hr (nar_z (by omega) (by omega)) (fun t ht _ => ⟨⟨r_20, G_21, rfl, (P_rIsNum_mk ⟨hB_G_21, hF, ⟨by omega, by omega⟩, ((by first | exact (fun h9 => ⟨(by omega), (by omega)⟩) | omega)), (Or.inr ⟨c_1, ⟨r_20, G_21, hX_24, ⟨rfl, rfl⟩⟩⟩)⟩), wd_t ht hW⟩, hS.F ht⟩) hS.2.2 dX7_isNumber_21

set_option maxHeartbeats 4000000 in
set_option maxRecDepth 100000 in
theorem k_rNum (l : Launch) (D : va_G) (k : KT) (A : Nat → Prop) (a : Nat → Nat) (z : SK) (G : GS) (p0 : Int32) (p1 : Int32)  : Met l yX7_passNumber (WS yX7_passNumber cX7_passNumber 3 (some .boolean)) ({ frames := 7, cells := 0, slots := 0, locals := 148 }) (va_Pc [.ref (a 5), .int p0, .int p1] (cW D k A a z G)) (va_Qi (fun (r : Int32) (G1 : GS) => P_rNum p0 p1 G r G1) (fun (G1 : GS) t => Wd D k A a G1 t.heap) A) 0 0 A := by
  refine Met.ofW (cc := cX7_passNumber) (maxL := 3) (ret := (some .boolean)) (by decide) rfl ?_
  intro p e s m args below meth c s₁ B hml hv
  obtain ⟨rfl, hW, hB_G, hK, hZ⟩ := hv
  have hx := B.exec
  have hb := B.bytes
  have hr := B.returns
  have hts := atoms_spec (ws := WS yX7_passNumber cX7_passNumber 3 (some .boolean)) B.pre
  have hgd : ∀ w ∈ gd, w ∈ WS yX7_passNumber cX7_passNumber 3 (some .boolean) := fun w h => List.mem_cons_of_mem _ h
  have hg : ∀ w ∈ gd, w.before _ s = true := fun w h => hts w (hgd w h)
  have hown : s.vm.findClass RX7 = some m.cls := findClass_of_methodNamed B.named
  have hS : va_S A s.heap s.heap [] := va_S.rf
  have hF : Fr [] [(3, 2), (3, 3), (3, 4), (3, 5), (3, 6), (3, 7), (3, 8), (5, 9)] G G := Fr.rf
  have hl := lv_entry ([.ref (a 5), .int p0, .int p1]) (n := 3) (Nat.le_of_ble_eq_true rfl)
  rw [lg_entry_eq]
  generalize (lg_sl ([.ref (a 5), .int p0, .int p1]) ++ List.replicate (3 - (lg_sl ([.ref (a 5), .int p0, .int p1])).length) Slot.unset).toArray = ls at hl ⊢
  have hl : lv_has ls 3 [(0, .ref (a 5)), (1, .int p0), (2, .int p1)] := hl
  refine lv_aload_n hx hb dX7_passNumber_0 rfl (lv_at hl 0 rfl) ?_
  refine lv_iload_n hx hb dX7_passNumber_1 rfl (lv_at hl 1 rfl) ?_
  refine lv_iload_n hx hb dX7_passNumber_2 rfl (lv_at hl 2 rfl) ?_
  refine S_calli (va_runV (As := [.int p0, .int p1]) (rest := []) ⟨hx, hb, hml, hown, hts⟩ (k_rIsNum l D k A a z G p0 p1 ) (cwV 2 hts (gd_V hgd m795 m797 m12 m119 m798) rfl rfl rfl hd_X7_isNumber ⟨Nat.le_of_ble_eq_true rfl, Nat.le_of_ble_eq_true rfl⟩) (pre_W hW hB_G hK hZ hS kd_5 rfl) rfl rfl hl.1 rfl (lv_room (Nat.le_of_ble_eq_true rfl)) dX7_passNumber_3 ⟨Nat.le_of_ble_eq_true rfl, Nat.le_of_ble_eq_true rfl⟩) hS (fun r_1 G_2 H locs hpo hW hS => ?_)
  have hX_5 : P_rIsNum p0 p1 G r_1 G_2 := hpo
  obtain ⟨hB_G_2, hq_3, f_6, hp_4, -⟩ := hpo
  have hF := hF.call9 hq_3 rfl rfl
  refine lv_if_eq (tgt := 23) hx hb dX7_passNumber_6 rfl (fun c_7 => ?_) (fun c_7 => ?_)
  · have c_7 : r_1.toInt = 0 := xI_eq rfl rfl c_7
    refine ic_0 hx hb dX7_passNumber_23 ?_
    exact W.zret (v := 0) hx hb hr (by decide) (fun t ht _ => ⟨⟨0, G_2, rfl, (P_rNum_mk ⟨hB_G_2, hF, ⟨by decide, by decide⟩, (by have hq : (0 : Int32).toInt = 0 := rfl; (try dsimp only); omega), ⟨r_1, G_2, hX_5, (Or.inl ⟨c_7, ⟨rfl, rfl⟩⟩)⟩⟩), wd_t ht hW⟩, hS.F ht⟩) hS.2.2 dX7_passNumber_24
  · have c_7 : r_1.toInt ≠ 0 := xI_ne rfl rfl c_7
    refine lv_aload_n hx hb dX7_passNumber_9 rfl (lv_at hl 0 rfl) ?_
    refine S_getR (n := 3) (C := RX7) (T := TX7) (N := 10) hx hb hg iX7 hown hK hW kd_5 rfl 0 (lt_b rfl) (hg (Cond.fieldLink RX7 26 "SlabWalk$Reader" "tokens" "LSlabWalk$Tokens;") m311) (fun _ h9 => h9) rfl dX7_passNumber_10 ?_
    refine S_calli (va_runV (As := []) (rest := []) ⟨hx, hb, hml, hown, hts⟩ (k_tAdvance l D k A a z G_2  ) (cwV 0 hts (gd_V hgd m777 m639 m640 m120 m641) rfl rfl rfl hd_X9_advance ⟨Nat.le_of_ble_eq_true rfl, Nat.le_of_ble_eq_true rfl⟩) (pre_W hW hB_G_2 hK hZ hS kd_3 rfl) rfl rfl hl.1 rfl (lv_room (Nat.le_of_ble_eq_true rfl)) dX7_passNumber_13 ⟨Nat.le_of_ble_eq_true rfl, Nat.le_of_ble_eq_true rfl⟩) hS (fun r_8 G_9 H locs hpo hW hS => ?_)
    have hX_12 : P_tAdvance G_2 r_8 G_9 := hpo
    obtain ⟨hB_G_9, hq_10, f_13, -⟩ := hpo
    have hF := hF.call9 hq_10 rfl rfl
    refine lv_if_eq (tgt := 23) hx hb dX7_passNumber_16 rfl (fun c_14 => ?_) (fun c_14 => ?_)
    · have c_14 : r_8.toInt = 0 := xI_eq rfl rfl c_14
      exfalso; first | (clear f_6 hp_4 c_7; omega) | omega
    · have c_14 : r_8.toInt ≠ 0 := xI_ne rfl rfl c_14
      refine ic_1 hx hb dX7_passNumber_19 ?_
      refine lv_goto (tgt := 24) hx hb dX7_passNumber_20 rfl ?_
      have g_15 : (G_9.1 5 9).toInt = (G_2.1 5 9).toInt := (congrArg Int32.toInt (show G_9.1 5 9 = (G_2.1 5 9) from (hq_10.i9 5 9 rfl rfl)))
      exact W.zret (v := 1) hx hb hr (by decide) (fun t ht _ => ⟨⟨1, G_9, rfl, (P_rNum_mk ⟨hB_G_9, hF, ⟨by decide, by decide⟩, (by have hq : (1 : Int32).toInt = 1 := rfl; (try dsimp only); omega), ⟨r_1, G_2, hX_5, (Or.inr ⟨c_7, ⟨r_8, G_9, hX_12, ⟨rfl, rfl⟩⟩⟩)⟩⟩), wd_t ht hW⟩, hS.F ht⟩) hS.2.2 dX7_passNumber_24
