theorem m143 : Cond.methodLink RX11 1 objectInit ∈ gd := gdc_1_1 11 rfl gw_methodLink
theorem m144 : Cond.instanceMethod objectInit ∈ gd := gdc_1_1 12 rfl gw_instanceMethod
theorem m145 : Cond.code objectInit ⟨#[0xb1]⟩ 1 none ∈ gd := gdc_1_1 13 rfl gw_code
theorem m146 : Cond.classLink RX11 7 RX6 ∈ gd := gdc_1_1 14 rfl gw_classLink
theorem m147 : Cond.instantiable RX6 17 ∈ gd := gdc_1_1 15 rfl gw_instantiable
theorem m148 : Cond.methodLink RX11 9 yX6_init ∈ gd := gdc_1_2 0 rfl gw_methodLink
theorem m149 : Cond.instanceMethod yX6_init ∈ gd := gdc_1_2 1 rfl gw_instanceMethod
theorem m150 : Cond.code yX6_init cX6_init 1 none ∈ gd := gdc_1_2 2 rfl gw_code
theorem m151 : Cond.methodLink RX6 3 objectInit ∈ gd := gdc_1_2 3 rfl gw_methodLink
theorem m152 : Cond.methodLink RX6 39 yX6_empty ∈ gd := gdc_1_2 4 rfl gw_methodLink
theorem m166 : Cond.fieldLink RX6 21 "SlabWalk$Paving" "least" "[I" ∈ gd := gdc_1_3 2 rfl gw_fieldLink
theorem m170 : Cond.fieldLink RX6 24 "SlabWalk$Paving" "most" "[I" ∈ gd := gdc_1_3 6 rfl gw_fieldLink
theorem m174 : Cond.fieldLink RX6 27 "SlabWalk$Paving" "leap" "[I" ∈ gd := gdc_1_3 10 rfl gw_fieldLink
theorem m183 : Cond.fieldLink RX6 36 "SlabWalk$Paving" "codeEnd" "[I" ∈ gd := gdc_1_4 3 rfl gw_fieldLink
theorem m245 : Cond.arrayClass .int ∈ gd := gdc_1_8 1 rfl rfl
theorem m246 : Cond.classLink RX11 23 RX7 ∈ gd := gdc_1_8 2 rfl gw_classLink
theorem m247 : Cond.instantiable RX7 10 ∈ gd := gdc_1_8 3 rfl gw_instantiable
theorem m248 : Cond.methodLink RX11 25 yX7_init ∈ gd := gdc_1_8 4 rfl gw_methodLink
theorem m249 : Cond.instanceMethod yX7_init ∈ gd := gdc_1_8 5 rfl gw_instanceMethod
theorem m250 : Cond.code yX7_init cX7_init 3 none ∈ gd := gdc_1_8 6 rfl gw_code
theorem m251 : Cond.methodLink RX7 3 objectInit ∈ gd := gdc_1_8 7 rfl gw_methodLink
theorem m252 : Cond.classLink RX7 21 RX9 ∈ gd := gdc_1_8 8 rfl gw_classLink
theorem m253 : Cond.instantiable RX9 9 ∈ gd := gdc_1_8 9 rfl gw_instantiable
theorem m254 : Cond.methodLink RX7 23 yX9_init ∈ gd := gdc_1_8 10 rfl gw_methodLink
theorem m255 : Cond.instanceMethod yX9_init ∈ gd := gdc_1_8 11 rfl gw_instanceMethod
theorem m256 : Cond.code yX9_init cX9_init 2 none ∈ gd := gdc_1_8 12 rfl gw_code
theorem m257 : Cond.methodLink RX9 3 objectInit ∈ gd := gdc_1_8 13 rfl gw_methodLink
theorem m293 : Cond.arrayClass .byte ∈ gd := gdc_1_11 1 rfl rfl
theorem m294 : Cond.arrayClass .long ∈ gd := gdc_1_11 2 rfl rfl
theorem m295 : Cond.classLink RX7 30 RX2 ∈ gd := gdc_1_11 3 rfl gw_classLink
theorem m296 : Cond.instantiable RX2 3 ∈ gd := gdc_1_11 4 rfl gw_instantiable
theorem m297 : Cond.methodLink RX7 32 yX2_init ∈ gd := gdc_1_11 5 rfl gw_methodLink
theorem m298 : Cond.instanceMethod yX2_init ∈ gd := gdc_1_11 6 rfl gw_instanceMethod
theorem m299 : Cond.code yX2_init cX2_init 3 none ∈ gd := gdc_1_11 7 rfl gw_code
theorem m300 : Cond.methodLink RX2 3 objectInit ∈ gd := gdc_1_11 8 rfl gw_methodLink
theorem m343 : Cond.classLink RX11 32 RX3 ∈ gd := gdc_1_14 3 rfl gw_classLink
theorem m344 : Cond.instantiable RX3 5 ∈ gd := gdc_1_14 4 rfl gw_instantiable
theorem m345 : Cond.methodLink RX11 34 yX3_init ∈ gd := gdc_1_14 5 rfl gw_methodLink
theorem m346 : Cond.instanceMethod yX3_init ∈ gd := gdc_1_14 6 rfl gw_instanceMethod
theorem m347 : Cond.code yX3_init cX3_init 2 none ∈ gd := gdc_1_14 7 rfl gw_code
theorem m348 : Cond.methodLink RX3 3 objectInit ∈ gd := gdc_1_14 8 rfl gw_methodLink
theorem m365 : Cond.classLink RX11 41 RX0 ∈ gd := gdc_2_0 9 rfl gw_classLink
theorem m366 : Cond.instantiable RX0 8 ∈ gd := gdc_2_0 10 rfl gw_instantiable
theorem m368 : Cond.instanceMethod yX0_init ∈ gd := gdc_2_0 12 rfl gw_instanceMethod
theorem m369 : Cond.code yX0_init cX0_init 1 none ∈ gd := gdc_2_0 13 rfl gw_code
theorem m370 : Cond.methodLink RX0 3 objectInit ∈ gd := gdc_2_0 14 rfl gw_methodLink
theorem m412 : Cond.arrayClass .boolean ∈ gd := gdc_2_3 8 rfl rfl
theorem m413 : Cond.classLink RX11 48 RX10 ∈ gd := gdc_2_3 9 rfl gw_classLink
theorem m414 : Cond.instantiable RX10 5 ∈ gd := gdc_2_3 10 rfl gw_instantiable
theorem m416 : Cond.instanceMethod yX10_init ∈ gd := gdc_2_3 12 rfl gw_instanceMethod
theorem m417 : Cond.code yX10_init cX10_init 1 none ∈ gd := gdc_2_3 13 rfl gw_code
theorem m418 : Cond.methodLink RX10 3 objectInit ∈ gd := gdc_2_3 14 rfl gw_methodLink
theorem m419 : Cond.classLink RX10 11 "[[I" ∈ gd := gdc_2_3 15 rfl gw_classLink
theorem m421 : Cond.classLink RX10 16 RX4 ∈ gd := gdc_2_4 1 rfl gw_classLink
theorem m422 : Cond.instantiable RX4 4 ∈ gd := gdc_2_4 2 rfl gw_instantiable
theorem m424 : Cond.instanceMethod yX4_init ∈ gd := gdc_2_4 4 rfl gw_instanceMethod
theorem m425 : Cond.code yX4_init cX4_init 1 none ∈ gd := gdc_2_4 5 rfl gw_code
theorem m426 : Cond.methodLink RX4 3 objectInit ∈ gd := gdc_2_4 6 rfl gw_methodLink
theorem m458 : Cond.classLink RX11 55 RX5 ∈ gd := gdc_2_6 6 rfl gw_classLink
theorem m459 : Cond.instantiable RX5 7 ∈ gd := gdc_2_6 7 rfl gw_instantiable
theorem m461 : Cond.instanceMethod yX5_init ∈ gd := gdc_2_6 9 rfl gw_instanceMethod
theorem m462 : Cond.code yX5_init cX5_init 1 none ∈ gd := gdc_2_6 10 rfl gw_code
theorem m463 : Cond.methodLink RX5 3 objectInit ∈ gd := gdc_2_6 11 rfl gw_methodLink
theorem m486 : Cond.classLink RX11 62 RX1 ∈ gd := gdc_2_8 2 rfl gw_classLink
theorem m487 : Cond.instantiable RX1 6 ∈ gd := gdc_2_8 3 rfl gw_instantiable
theorem m489 : Cond.instanceMethod yX1_init ∈ gd := gdc_2_8 5 rfl gw_instanceMethod
theorem m490 : Cond.code yX1_init cX1_init 1 none ∈ gd := gdc_2_8 6 rfl gw_code
theorem m491 : Cond.methodLink RX1 3 objectInit ∈ gd := gdc_2_8 7 rfl gw_methodLink
theorem m514 : Cond.classLink RX11 69 RX8 ∈ gd := gdc_2_9 14 rfl gw_classLink
theorem m515 : Cond.instantiable RX8 7 ∈ gd := gdc_2_9 15 rfl gw_instantiable
theorem m517 : Cond.instanceMethod yX8_init ∈ gd := gdc_2_10 1 rfl gw_instanceMethod
theorem m518 : Cond.code yX8_init cX8_init 1 none ∈ gd := gdc_2_10 2 rfl gw_code
theorem m519 : Cond.methodLink RX8 3 objectInit ∈ gd := gdc_2_10 3 rfl gw_methodLink
theorem m1313 : Cond.methodLink RX12 1 objectInit ∈ gd := gdc_5_14 13 rfl gw_methodLink
noncomputable def rbX0_init_0 : List (Nat × List Nat) := [(0, [42]), (1, [183, 0, 3]), (4, [42]), (5, [17, 1, 144]), (8, [188, 4]), (10, [181, 0, 9]), (13, [177])]
theorem rcX0_init_0 : dgo (lb cX0_init) 0 rbX0_init_0 = true := by decide +kernel
theorem dX0_init_0 : decode cX0_init 0 = .ok (.aload_n 0, 1) := dk_42 (dw rcX0_init_0 0 rfl)
theorem dX0_init_1 : decode cX0_init 1 = .ok (.invokespecial 3, 3) := dk_183 (dw rcX0_init_0 1 rfl) rfl
theorem dX0_init_4 : decode cX0_init 4 = .ok (.aload_n 0, 1) := dk_42 (dw rcX0_init_0 2 rfl)
theorem dX0_init_5 : decode cX0_init 5 = .ok (.sipush 400, 3) := dk_17 (dw rcX0_init_0 3 rfl) rfl
theorem dX0_init_8 : decode cX0_init 8 = .ok (.newarray .boolean, 2) := dk_188_4 (dw rcX0_init_0 4 rfl)
theorem dX0_init_10 : decode cX0_init 10 = .ok (.putfield 9, 3) := dk_181 (dw rcX0_init_0 5 rfl) rfl
theorem dX0_init_13 : decode cX0_init 13 = .ok (.return_, 1) := dk_177 (dw rcX0_init_0 6 rfl)
theorem dX10_init_9 : decode cX10_init 9 = .ok (.multianewarray 11 2, 4) := dq_of (by decide +kernel)
noncomputable def rbX10_init_0 : List (Nat × List Nat) := [(0, [42]), (1, [183, 0, 3]), (4, [42]), (5, [7]), (6, [17, 1, 146]), (13, [181, 0, 13]), (16, [42]), (17, [187, 0, 16]), (20, [89]), (21, [183, 0, 18]), (24, [181, 0, 19]), (27, [42]), (28, [187, 0, 16]), (31, [89]), (32, [183, 0, 18]), (35, [181, 0, 23]), (38, [42]), (39, [16, 64]), (41, [188, 10]), (43, [181, 0, 26]), (46, [42]), (47, [16, 64]), (49, [188, 4]), (51, [181, 0, 30])]
theorem rcX10_init_0 : dgo (lb cX10_init) 0 rbX10_init_0 = true := by decide +kernel
theorem dX10_init_0 : decode cX10_init 0 = .ok (.aload_n 0, 1) := dk_42 (dw rcX10_init_0 0 rfl)
theorem dX10_init_1 : decode cX10_init 1 = .ok (.invokespecial 3, 3) := dk_183 (dw rcX10_init_0 1 rfl) rfl
theorem dX10_init_4 : decode cX10_init 4 = .ok (.aload_n 0, 1) := dk_42 (dw rcX10_init_0 2 rfl)
theorem dX10_init_5 : decode cX10_init 5 = .ok (.iconst 4, 1) := dk_7 (dw rcX10_init_0 3 rfl)
theorem dX10_init_6 : decode cX10_init 6 = .ok (.sipush 402, 3) := dk_17 (dw rcX10_init_0 4 rfl) rfl
theorem dX10_init_13 : decode cX10_init 13 = .ok (.putfield 13, 3) := dk_181 (dw rcX10_init_0 5 rfl) rfl
theorem dX10_init_16 : decode cX10_init 16 = .ok (.aload_n 0, 1) := dk_42 (dw rcX10_init_0 6 rfl)
theorem dX10_init_17 : decode cX10_init 17 = .ok (.new 16, 3) := dk_187 (dw rcX10_init_0 7 rfl) rfl
theorem dX10_init_20 : decode cX10_init 20 = .ok (.dup, 1) := dk_89 (dw rcX10_init_0 8 rfl)
theorem dX10_init_21 : decode cX10_init 21 = .ok (.invokespecial 18, 3) := dk_183 (dw rcX10_init_0 9 rfl) rfl
theorem dX10_init_24 : decode cX10_init 24 = .ok (.putfield 19, 3) := dk_181 (dw rcX10_init_0 10 rfl) rfl
theorem dX10_init_27 : decode cX10_init 27 = .ok (.aload_n 0, 1) := dk_42 (dw rcX10_init_0 11 rfl)
theorem dX10_init_28 : decode cX10_init 28 = .ok (.new 16, 3) := dk_187 (dw rcX10_init_0 12 rfl) rfl
theorem dX10_init_31 : decode cX10_init 31 = .ok (.dup, 1) := dk_89 (dw rcX10_init_0 13 rfl)
theorem dX10_init_32 : decode cX10_init 32 = .ok (.invokespecial 18, 3) := dk_183 (dw rcX10_init_0 14 rfl) rfl
theorem dX10_init_35 : decode cX10_init 35 = .ok (.putfield 23, 3) := dk_181 (dw rcX10_init_0 15 rfl) rfl
theorem dX10_init_38 : decode cX10_init 38 = .ok (.aload_n 0, 1) := dk_42 (dw rcX10_init_0 16 rfl)
theorem dX10_init_39 : decode cX10_init 39 = .ok (.bipush 64, 2) := dk_16 (dw rcX10_init_0 17 rfl) rfl
theorem dX10_init_41 : decode cX10_init 41 = .ok (.newarray .int, 2) := dk_188_10 (dw rcX10_init_0 18 rfl)
theorem dX10_init_43 : decode cX10_init 43 = .ok (.putfield 26, 3) := dk_181 (dw rcX10_init_0 19 rfl) rfl
theorem dX10_init_46 : decode cX10_init 46 = .ok (.aload_n 0, 1) := dk_42 (dw rcX10_init_0 20 rfl)
theorem dX10_init_47 : decode cX10_init 47 = .ok (.bipush 64, 2) := dk_16 (dw rcX10_init_0 21 rfl) rfl
theorem dX10_init_49 : decode cX10_init 49 = .ok (.newarray .boolean, 2) := dk_188_4 (dw rcX10_init_0 22 rfl)
theorem dX10_init_51 : decode cX10_init 51 = .ok (.putfield 30, 3) := dk_181 (dw rcX10_init_0 23 rfl) rfl
theorem dX10_init_54 : decode cX10_init 54 = .ok (.return_, 1) := dq_of (by decide +kernel)
noncomputable def rbX11_init_0 : List (Nat × List Nat) := [(0, [42]), (1, [183, 0, 1]), (4, [42]), (5, [187, 0, 7]), (8, [89]), (9, [183, 0, 9]), (12, [181, 0, 10]), (15, [42]), (16, [187, 0, 7]), (19, [89]), (20, [183, 0, 9]), (23, [181, 0, 16]), (26, [42]), (27, [17, 6, 64]), (30, [188, 8]), (32, [181, 0, 19]), (35, [42]), (36, [187, 0, 23]), (39, [89]), (40, [42]), (41, [180, 0, 19]), (44, [42]), (45, [180, 0, 16]), (48, [183, 0, 25])]
theorem rcX11_init_0 : dgo (lb cX11_init) 0 rbX11_init_0 = true := by decide +kernel
theorem dX11_init_0 : decode cX11_init 0 = .ok (.aload_n 0, 1) := dk_42 (dw rcX11_init_0 0 rfl)
theorem dX11_init_1 : decode cX11_init 1 = .ok (.invokespecial 1, 3) := dk_183 (dw rcX11_init_0 1 rfl) rfl
theorem dX11_init_4 : decode cX11_init 4 = .ok (.aload_n 0, 1) := dk_42 (dw rcX11_init_0 2 rfl)
theorem dX11_init_5 : decode cX11_init 5 = .ok (.new 7, 3) := dk_187 (dw rcX11_init_0 3 rfl) rfl
theorem dX11_init_8 : decode cX11_init 8 = .ok (.dup, 1) := dk_89 (dw rcX11_init_0 4 rfl)
theorem dX11_init_9 : decode cX11_init 9 = .ok (.invokespecial 9, 3) := dk_183 (dw rcX11_init_0 5 rfl) rfl
theorem dX11_init_12 : decode cX11_init 12 = .ok (.putfield 10, 3) := dk_181 (dw rcX11_init_0 6 rfl) rfl
theorem dX11_init_15 : decode cX11_init 15 = .ok (.aload_n 0, 1) := dk_42 (dw rcX11_init_0 7 rfl)
theorem dX11_init_16 : decode cX11_init 16 = .ok (.new 7, 3) := dk_187 (dw rcX11_init_0 8 rfl) rfl
theorem dX11_init_19 : decode cX11_init 19 = .ok (.dup, 1) := dk_89 (dw rcX11_init_0 9 rfl)
theorem dX11_init_20 : decode cX11_init 20 = .ok (.invokespecial 9, 3) := dk_183 (dw rcX11_init_0 10 rfl) rfl
theorem dX11_init_23 : decode cX11_init 23 = .ok (.putfield 16, 3) := dk_181 (dw rcX11_init_0 11 rfl) rfl
theorem dX11_init_26 : decode cX11_init 26 = .ok (.aload_n 0, 1) := dk_42 (dw rcX11_init_0 12 rfl)
theorem dX11_init_27 : decode cX11_init 27 = .ok (.sipush 1600, 3) := dk_17 (dw rcX11_init_0 13 rfl) rfl
theorem dX11_init_30 : decode cX11_init 30 = .ok (.newarray .byte, 2) := dk_188_8 (dw rcX11_init_0 14 rfl)
theorem dX11_init_32 : decode cX11_init 32 = .ok (.putfield 19, 3) := dk_181 (dw rcX11_init_0 15 rfl) rfl
theorem dX11_init_35 : decode cX11_init 35 = .ok (.aload_n 0, 1) := dk_42 (dw rcX11_init_0 16 rfl)
theorem dX11_init_36 : decode cX11_init 36 = .ok (.new 23, 3) := dk_187 (dw rcX11_init_0 17 rfl) rfl
theorem dX11_init_39 : decode cX11_init 39 = .ok (.dup, 1) := dk_89 (dw rcX11_init_0 18 rfl)
theorem dX11_init_40 : decode cX11_init 40 = .ok (.aload_n 0, 1) := dk_42 (dw rcX11_init_0 19 rfl)
theorem dX11_init_41 : decode cX11_init 41 = .ok (.getfield 19, 3) := dk_180 (dw rcX11_init_0 20 rfl) rfl
theorem dX11_init_44 : decode cX11_init 44 = .ok (.aload_n 0, 1) := dk_42 (dw rcX11_init_0 21 rfl)
theorem dX11_init_45 : decode cX11_init 45 = .ok (.getfield 16, 3) := dk_180 (dw rcX11_init_0 22 rfl) rfl
theorem dX11_init_48 : decode cX11_init 48 = .ok (.invokespecial 25, 3) := dk_183 (dw rcX11_init_0 23 rfl) rfl
noncomputable def rbX11_init_51 : List (Nat × List Nat) := [(51, [181, 0, 28]), (54, [42]), (55, [187, 0, 32]), (58, [89]), (59, [42]), (60, [180, 0, 10]), (63, [183, 0, 34]), (66, [181, 0, 37]), (69, [42]), (70, [187, 0, 41]), (73, [89]), (74, [183, 0, 43]), (77, [181, 0, 44]), (80, [42]), (81, [187, 0, 48]), (84, [89]), (85, [183, 0, 50]), (88, [181, 0, 51]), (91, [42]), (92, [187, 0, 55]), (95, [89]), (96, [183, 0, 57]), (99, [181, 0, 58]), (102, [42])]
theorem rcX11_init_51 : dgo (lb cX11_init) 0 rbX11_init_51 = true := by decide +kernel
theorem dX11_init_51 : decode cX11_init 51 = .ok (.putfield 28, 3) := dk_181 (dw rcX11_init_51 0 rfl) rfl
theorem dX11_init_54 : decode cX11_init 54 = .ok (.aload_n 0, 1) := dk_42 (dw rcX11_init_51 1 rfl)
theorem dX11_init_55 : decode cX11_init 55 = .ok (.new 32, 3) := dk_187 (dw rcX11_init_51 2 rfl) rfl
theorem dX11_init_58 : decode cX11_init 58 = .ok (.dup, 1) := dk_89 (dw rcX11_init_51 3 rfl)
theorem dX11_init_59 : decode cX11_init 59 = .ok (.aload_n 0, 1) := dk_42 (dw rcX11_init_51 4 rfl)
theorem dX11_init_60 : decode cX11_init 60 = .ok (.getfield 10, 3) := dk_180 (dw rcX11_init_51 5 rfl) rfl
theorem dX11_init_63 : decode cX11_init 63 = .ok (.invokespecial 34, 3) := dk_183 (dw rcX11_init_51 6 rfl) rfl
theorem dX11_init_66 : decode cX11_init 66 = .ok (.putfield 37, 3) := dk_181 (dw rcX11_init_51 7 rfl) rfl
theorem dX11_init_69 : decode cX11_init 69 = .ok (.aload_n 0, 1) := dk_42 (dw rcX11_init_51 8 rfl)
theorem dX11_init_70 : decode cX11_init 70 = .ok (.new 41, 3) := dk_187 (dw rcX11_init_51 9 rfl) rfl
theorem dX11_init_73 : decode cX11_init 73 = .ok (.dup, 1) := dk_89 (dw rcX11_init_51 10 rfl)
theorem dX11_init_74 : decode cX11_init 74 = .ok (.invokespecial 43, 3) := dk_183 (dw rcX11_init_51 11 rfl) rfl
theorem dX11_init_77 : decode cX11_init 77 = .ok (.putfield 44, 3) := dk_181 (dw rcX11_init_51 12 rfl) rfl
theorem dX11_init_80 : decode cX11_init 80 = .ok (.aload_n 0, 1) := dk_42 (dw rcX11_init_51 13 rfl)
theorem dX11_init_81 : decode cX11_init 81 = .ok (.new 48, 3) := dk_187 (dw rcX11_init_51 14 rfl) rfl
theorem dX11_init_84 : decode cX11_init 84 = .ok (.dup, 1) := dk_89 (dw rcX11_init_51 15 rfl)
theorem dX11_init_85 : decode cX11_init 85 = .ok (.invokespecial 50, 3) := dk_183 (dw rcX11_init_51 16 rfl) rfl
theorem dX11_init_88 : decode cX11_init 88 = .ok (.putfield 51, 3) := dk_181 (dw rcX11_init_51 17 rfl) rfl
theorem dX11_init_91 : decode cX11_init 91 = .ok (.aload_n 0, 1) := dk_42 (dw rcX11_init_51 18 rfl)
theorem dX11_init_92 : decode cX11_init 92 = .ok (.new 55, 3) := dk_187 (dw rcX11_init_51 19 rfl) rfl
theorem dX11_init_95 : decode cX11_init 95 = .ok (.dup, 1) := dk_89 (dw rcX11_init_51 20 rfl)
theorem dX11_init_96 : decode cX11_init 96 = .ok (.invokespecial 57, 3) := dk_183 (dw rcX11_init_51 21 rfl) rfl
theorem dX11_init_99 : decode cX11_init 99 = .ok (.putfield 58, 3) := dk_181 (dw rcX11_init_51 22 rfl) rfl
theorem dX11_init_102 : decode cX11_init 102 = .ok (.aload_n 0, 1) := dk_42 (dw rcX11_init_51 23 rfl)
noncomputable def rbX11_init_103 : List (Nat × List Nat) := [(103, [187, 0, 62]), (106, [89]), (107, [183, 0, 64]), (110, [181, 0, 65]), (113, [42]), (114, [187, 0, 69]), (117, [89]), (118, [183, 0, 71]), (121, [181, 0, 72]), (124, [42]), (125, [17, 1, 144]), (128, [188, 10]), (130, [181, 0, 76]), (133, [42]), (134, [182, 0, 80]), (137, [177])]
theorem rcX11_init_103 : dgo (lb cX11_init) 0 rbX11_init_103 = true := by decide +kernel
theorem dX11_init_103 : decode cX11_init 103 = .ok (.new 62, 3) := dk_187 (dw rcX11_init_103 0 rfl) rfl
theorem dX11_init_106 : decode cX11_init 106 = .ok (.dup, 1) := dk_89 (dw rcX11_init_103 1 rfl)
theorem dX11_init_107 : decode cX11_init 107 = .ok (.invokespecial 64, 3) := dk_183 (dw rcX11_init_103 2 rfl) rfl
theorem dX11_init_110 : decode cX11_init 110 = .ok (.putfield 65, 3) := dk_181 (dw rcX11_init_103 3 rfl) rfl
theorem dX11_init_113 : decode cX11_init 113 = .ok (.aload_n 0, 1) := dk_42 (dw rcX11_init_103 4 rfl)
theorem dX11_init_114 : decode cX11_init 114 = .ok (.new 69, 3) := dk_187 (dw rcX11_init_103 5 rfl) rfl
theorem dX11_init_117 : decode cX11_init 117 = .ok (.dup, 1) := dk_89 (dw rcX11_init_103 6 rfl)
theorem dX11_init_118 : decode cX11_init 118 = .ok (.invokespecial 71, 3) := dk_183 (dw rcX11_init_103 7 rfl) rfl
theorem dX11_init_121 : decode cX11_init 121 = .ok (.putfield 72, 3) := dk_181 (dw rcX11_init_103 8 rfl) rfl
theorem dX11_init_124 : decode cX11_init 124 = .ok (.aload_n 0, 1) := dk_42 (dw rcX11_init_103 9 rfl)
theorem dX11_init_125 : decode cX11_init 125 = .ok (.sipush 400, 3) := dk_17 (dw rcX11_init_103 10 rfl) rfl
theorem dX11_init_128 : decode cX11_init 128 = .ok (.newarray .int, 2) := dk_188_10 (dw rcX11_init_103 11 rfl)
theorem dX11_init_130 : decode cX11_init 130 = .ok (.putfield 76, 3) := dk_181 (dw rcX11_init_103 12 rfl) rfl
theorem dX11_init_133 : decode cX11_init 133 = .ok (.aload_n 0, 1) := dk_42 (dw rcX11_init_103 13 rfl)
theorem dX11_init_134 : decode cX11_init 134 = .ok (.invokevirtual 80, 3) := dk_182 (dw rcX11_init_103 14 rfl) rfl
theorem dX11_init_137 : decode cX11_init 137 = .ok (.return_, 1) := dk_177 (dw rcX11_init_103 15 rfl)
noncomputable def rbX12_init_0 : List (Nat × List Nat) := [(0, [42]), (1, [183, 0, 1]), (4, [42]), (5, [17, 6, 64]), (8, [188, 10]), (10, [181, 0, 7]), (13, [42]), (14, [2]), (15, [181, 0, 13]), (18, [42]), (19, [16, 16]), (21, [188, 11]), (23, [181, 0, 17]), (26, [42]), (27, [17, 7, 128]), (30, [188, 10]), (32, [181, 0, 21]), (35, [42]), (36, [17, 7, 128]), (39, [188, 10]), (41, [181, 0, 24]), (44, [42]), (45, [16, 6]), (47, [188, 10])]
theorem rcX12_init_0 : dgo (lb cX12_init) 0 rbX12_init_0 = true := by decide +kernel
theorem dX12_init_0 : decode cX12_init 0 = .ok (.aload_n 0, 1) := dk_42 (dw rcX12_init_0 0 rfl)
theorem dX12_init_1 : decode cX12_init 1 = .ok (.invokespecial 1, 3) := dk_183 (dw rcX12_init_0 1 rfl) rfl
theorem dX12_init_4 : decode cX12_init 4 = .ok (.aload_n 0, 1) := dk_42 (dw rcX12_init_0 2 rfl)
theorem dX12_init_5 : decode cX12_init 5 = .ok (.sipush 1600, 3) := dk_17 (dw rcX12_init_0 3 rfl) rfl
theorem dX12_init_8 : decode cX12_init 8 = .ok (.newarray .int, 2) := dk_188_10 (dw rcX12_init_0 4 rfl)
theorem dX12_init_10 : decode cX12_init 10 = .ok (.putfield 7, 3) := dk_181 (dw rcX12_init_0 5 rfl) rfl
theorem dX12_init_13 : decode cX12_init 13 = .ok (.aload_n 0, 1) := dk_42 (dw rcX12_init_0 6 rfl)
theorem dX12_init_14 : decode cX12_init 14 = .ok (.iconst (-1), 1) := dk_2 (dw rcX12_init_0 7 rfl)
theorem dX12_init_15 : decode cX12_init 15 = .ok (.putfield 13, 3) := dk_181 (dw rcX12_init_0 8 rfl) rfl
theorem dX12_init_18 : decode cX12_init 18 = .ok (.aload_n 0, 1) := dk_42 (dw rcX12_init_0 9 rfl)
theorem dX12_init_19 : decode cX12_init 19 = .ok (.bipush 16, 2) := dk_16 (dw rcX12_init_0 10 rfl) rfl
theorem dX12_init_21 : decode cX12_init 21 = .ok (.newarray .long, 2) := dk_188_11 (dw rcX12_init_0 11 rfl)
theorem dX12_init_23 : decode cX12_init 23 = .ok (.putfield 17, 3) := dk_181 (dw rcX12_init_0 12 rfl) rfl
theorem dX12_init_26 : decode cX12_init 26 = .ok (.aload_n 0, 1) := dk_42 (dw rcX12_init_0 13 rfl)
theorem dX12_init_27 : decode cX12_init 27 = .ok (.sipush 1920, 3) := dk_17 (dw rcX12_init_0 14 rfl) rfl
theorem dX12_init_30 : decode cX12_init 30 = .ok (.newarray .int, 2) := dk_188_10 (dw rcX12_init_0 15 rfl)
theorem dX12_init_32 : decode cX12_init 32 = .ok (.putfield 21, 3) := dk_181 (dw rcX12_init_0 16 rfl) rfl
theorem dX12_init_35 : decode cX12_init 35 = .ok (.aload_n 0, 1) := dk_42 (dw rcX12_init_0 17 rfl)
theorem dX12_init_36 : decode cX12_init 36 = .ok (.sipush 1920, 3) := dk_17 (dw rcX12_init_0 18 rfl) rfl
theorem dX12_init_39 : decode cX12_init 39 = .ok (.newarray .int, 2) := dk_188_10 (dw rcX12_init_0 19 rfl)
theorem dX12_init_41 : decode cX12_init 41 = .ok (.putfield 24, 3) := dk_181 (dw rcX12_init_0 20 rfl) rfl
theorem dX12_init_44 : decode cX12_init 44 = .ok (.aload_n 0, 1) := dk_42 (dw rcX12_init_0 21 rfl)
theorem dX12_init_45 : decode cX12_init 45 = .ok (.bipush 6, 2) := dk_16 (dw rcX12_init_0 22 rfl) rfl
theorem dX12_init_47 : decode cX12_init 47 = .ok (.newarray .int, 2) := dk_188_10 (dw rcX12_init_0 23 rfl)
noncomputable def rbX12_init_49 : List (Nat × List Nat) := [(49, [181, 0, 27]), (52, [42]), (53, [17, 7, 128]), (56, [188, 10]), (58, [181, 0, 30]), (61, [42]), (62, [17, 7, 128]), (65, [188, 10]), (67, [181, 0, 33]), (70, [42]), (71, [16, 6]), (73, [188, 10]), (75, [181, 0, 36]), (78, [42]), (79, [17, 0, 160]), (82, [188, 10]), (84, [181, 0, 39]), (87, [42]), (88, [16, 64]), (90, [188, 10]), (92, [181, 0, 42]), (95, [42]), (96, [17, 4, 176]), (99, [188, 10])]
theorem rcX12_init_49 : dgo (lb cX12_init) 0 rbX12_init_49 = true := by decide +kernel
theorem dX12_init_49 : decode cX12_init 49 = .ok (.putfield 27, 3) := dk_181 (dw rcX12_init_49 0 rfl) rfl
theorem dX12_init_52 : decode cX12_init 52 = .ok (.aload_n 0, 1) := dk_42 (dw rcX12_init_49 1 rfl)
theorem dX12_init_53 : decode cX12_init 53 = .ok (.sipush 1920, 3) := dk_17 (dw rcX12_init_49 2 rfl) rfl
theorem dX12_init_56 : decode cX12_init 56 = .ok (.newarray .int, 2) := dk_188_10 (dw rcX12_init_49 3 rfl)
theorem dX12_init_58 : decode cX12_init 58 = .ok (.putfield 30, 3) := dk_181 (dw rcX12_init_49 4 rfl) rfl
theorem dX12_init_61 : decode cX12_init 61 = .ok (.aload_n 0, 1) := dk_42 (dw rcX12_init_49 5 rfl)
theorem dX12_init_62 : decode cX12_init 62 = .ok (.sipush 1920, 3) := dk_17 (dw rcX12_init_49 6 rfl) rfl
theorem dX12_init_65 : decode cX12_init 65 = .ok (.newarray .int, 2) := dk_188_10 (dw rcX12_init_49 7 rfl)
theorem dX12_init_67 : decode cX12_init 67 = .ok (.putfield 33, 3) := dk_181 (dw rcX12_init_49 8 rfl) rfl
theorem dX12_init_70 : decode cX12_init 70 = .ok (.aload_n 0, 1) := dk_42 (dw rcX12_init_49 9 rfl)
theorem dX12_init_71 : decode cX12_init 71 = .ok (.bipush 6, 2) := dk_16 (dw rcX12_init_49 10 rfl) rfl
theorem dX12_init_73 : decode cX12_init 73 = .ok (.newarray .int, 2) := dk_188_10 (dw rcX12_init_49 11 rfl)
theorem dX12_init_75 : decode cX12_init 75 = .ok (.putfield 36, 3) := dk_181 (dw rcX12_init_49 12 rfl) rfl
theorem dX12_init_78 : decode cX12_init 78 = .ok (.aload_n 0, 1) := dk_42 (dw rcX12_init_49 13 rfl)
theorem dX12_init_79 : decode cX12_init 79 = .ok (.sipush 160, 3) := dk_17 (dw rcX12_init_49 14 rfl) rfl
theorem dX12_init_82 : decode cX12_init 82 = .ok (.newarray .int, 2) := dk_188_10 (dw rcX12_init_49 15 rfl)
theorem dX12_init_84 : decode cX12_init 84 = .ok (.putfield 39, 3) := dk_181 (dw rcX12_init_49 16 rfl) rfl
theorem dX12_init_87 : decode cX12_init 87 = .ok (.aload_n 0, 1) := dk_42 (dw rcX12_init_49 17 rfl)
theorem dX12_init_88 : decode cX12_init 88 = .ok (.bipush 64, 2) := dk_16 (dw rcX12_init_49 18 rfl) rfl
theorem dX12_init_90 : decode cX12_init 90 = .ok (.newarray .int, 2) := dk_188_10 (dw rcX12_init_49 19 rfl)
theorem dX12_init_92 : decode cX12_init 92 = .ok (.putfield 42, 3) := dk_181 (dw rcX12_init_49 20 rfl) rfl
theorem dX12_init_95 : decode cX12_init 95 = .ok (.aload_n 0, 1) := dk_42 (dw rcX12_init_49 21 rfl)
theorem dX12_init_96 : decode cX12_init 96 = .ok (.sipush 1200, 3) := dk_17 (dw rcX12_init_49 22 rfl) rfl
theorem dX12_init_99 : decode cX12_init 99 = .ok (.newarray .int, 2) := dk_188_10 (dw rcX12_init_49 23 rfl)
noncomputable def rbX12_init_101 : List (Nat × List Nat) := [(101, [181, 0, 45]), (104, [42]), (105, [17, 4, 176]), (108, [188, 10]), (110, [181, 0, 48]), (113, [42]), (114, [17, 4, 176]), (117, [188, 10]), (119, [181, 0, 51]), (122, [42]), (123, [17, 4, 176]), (126, [188, 10]), (128, [181, 0, 54]), (131, [42]), (132, [6]), (133, [188, 10]), (135, [181, 0, 57]), (138, [42]), (139, [7]), (140, [188, 10]), (142, [181, 0, 60]), (145, [42]), (146, [7]), (147, [188, 10])]
theorem rcX12_init_101 : dgo (lb cX12_init) 0 rbX12_init_101 = true := by decide +kernel
theorem dX12_init_101 : decode cX12_init 101 = .ok (.putfield 45, 3) := dk_181 (dw rcX12_init_101 0 rfl) rfl
theorem dX12_init_104 : decode cX12_init 104 = .ok (.aload_n 0, 1) := dk_42 (dw rcX12_init_101 1 rfl)
theorem dX12_init_105 : decode cX12_init 105 = .ok (.sipush 1200, 3) := dk_17 (dw rcX12_init_101 2 rfl) rfl
theorem dX12_init_108 : decode cX12_init 108 = .ok (.newarray .int, 2) := dk_188_10 (dw rcX12_init_101 3 rfl)
theorem dX12_init_110 : decode cX12_init 110 = .ok (.putfield 48, 3) := dk_181 (dw rcX12_init_101 4 rfl) rfl
theorem dX12_init_113 : decode cX12_init 113 = .ok (.aload_n 0, 1) := dk_42 (dw rcX12_init_101 5 rfl)
theorem dX12_init_114 : decode cX12_init 114 = .ok (.sipush 1200, 3) := dk_17 (dw rcX12_init_101 6 rfl) rfl
theorem dX12_init_117 : decode cX12_init 117 = .ok (.newarray .int, 2) := dk_188_10 (dw rcX12_init_101 7 rfl)
theorem dX12_init_119 : decode cX12_init 119 = .ok (.putfield 51, 3) := dk_181 (dw rcX12_init_101 8 rfl) rfl
theorem dX12_init_122 : decode cX12_init 122 = .ok (.aload_n 0, 1) := dk_42 (dw rcX12_init_101 9 rfl)
theorem dX12_init_123 : decode cX12_init 123 = .ok (.sipush 1200, 3) := dk_17 (dw rcX12_init_101 10 rfl) rfl
theorem dX12_init_126 : decode cX12_init 126 = .ok (.newarray .int, 2) := dk_188_10 (dw rcX12_init_101 11 rfl)
theorem dX12_init_128 : decode cX12_init 128 = .ok (.putfield 54, 3) := dk_181 (dw rcX12_init_101 12 rfl) rfl
theorem dX12_init_131 : decode cX12_init 131 = .ok (.aload_n 0, 1) := dk_42 (dw rcX12_init_101 13 rfl)
theorem dX12_init_132 : decode cX12_init 132 = .ok (.iconst 3, 1) := dk_6 (dw rcX12_init_101 14 rfl)
theorem dX12_init_133 : decode cX12_init 133 = .ok (.newarray .int, 2) := dk_188_10 (dw rcX12_init_101 15 rfl)
theorem dX12_init_135 : decode cX12_init 135 = .ok (.putfield 57, 3) := dk_181 (dw rcX12_init_101 16 rfl) rfl
theorem dX12_init_138 : decode cX12_init 138 = .ok (.aload_n 0, 1) := dk_42 (dw rcX12_init_101 17 rfl)
theorem dX12_init_139 : decode cX12_init 139 = .ok (.iconst 4, 1) := dk_7 (dw rcX12_init_101 18 rfl)
theorem dX12_init_140 : decode cX12_init 140 = .ok (.newarray .int, 2) := dk_188_10 (dw rcX12_init_101 19 rfl)
theorem dX12_init_142 : decode cX12_init 142 = .ok (.putfield 60, 3) := dk_181 (dw rcX12_init_101 20 rfl) rfl
theorem dX12_init_145 : decode cX12_init 145 = .ok (.aload_n 0, 1) := dk_42 (dw rcX12_init_101 21 rfl)
theorem dX12_init_146 : decode cX12_init 146 = .ok (.iconst 4, 1) := dk_7 (dw rcX12_init_101 22 rfl)
theorem dX12_init_147 : decode cX12_init 147 = .ok (.newarray .int, 2) := dk_188_10 (dw rcX12_init_101 23 rfl)
noncomputable def rbX12_init_149 : List (Nat × List Nat) := [(149, [181, 0, 63]), (152, [42]), (153, [7]), (154, [188, 10]), (156, [181, 0, 66]), (159, [42]), (160, [7]), (161, [188, 10]), (163, [181, 0, 69]), (166, [42]), (167, [6]), (168, [188, 10]), (170, [181, 0, 72]), (173, [42]), (174, [17, 4, 176]), (177, [188, 10]), (179, [181, 0, 75]), (182, [42]), (183, [17, 4, 176]), (186, [188, 10]), (188, [181, 0, 78]), (191, [42]), (192, [17, 4, 176]), (195, [188, 10])]
theorem rcX12_init_149 : dgo (lb cX12_init) 0 rbX12_init_149 = true := by decide +kernel
theorem dX12_init_149 : decode cX12_init 149 = .ok (.putfield 63, 3) := dk_181 (dw rcX12_init_149 0 rfl) rfl
theorem dX12_init_152 : decode cX12_init 152 = .ok (.aload_n 0, 1) := dk_42 (dw rcX12_init_149 1 rfl)
theorem dX12_init_153 : decode cX12_init 153 = .ok (.iconst 4, 1) := dk_7 (dw rcX12_init_149 2 rfl)
theorem dX12_init_154 : decode cX12_init 154 = .ok (.newarray .int, 2) := dk_188_10 (dw rcX12_init_149 3 rfl)
theorem dX12_init_156 : decode cX12_init 156 = .ok (.putfield 66, 3) := dk_181 (dw rcX12_init_149 4 rfl) rfl
theorem dX12_init_159 : decode cX12_init 159 = .ok (.aload_n 0, 1) := dk_42 (dw rcX12_init_149 5 rfl)
theorem dX12_init_160 : decode cX12_init 160 = .ok (.iconst 4, 1) := dk_7 (dw rcX12_init_149 6 rfl)
theorem dX12_init_161 : decode cX12_init 161 = .ok (.newarray .int, 2) := dk_188_10 (dw rcX12_init_149 7 rfl)
theorem dX12_init_163 : decode cX12_init 163 = .ok (.putfield 69, 3) := dk_181 (dw rcX12_init_149 8 rfl) rfl
theorem dX12_init_166 : decode cX12_init 166 = .ok (.aload_n 0, 1) := dk_42 (dw rcX12_init_149 9 rfl)
theorem dX12_init_167 : decode cX12_init 167 = .ok (.iconst 3, 1) := dk_6 (dw rcX12_init_149 10 rfl)
theorem dX12_init_168 : decode cX12_init 168 = .ok (.newarray .int, 2) := dk_188_10 (dw rcX12_init_149 11 rfl)
theorem dX12_init_170 : decode cX12_init 170 = .ok (.putfield 72, 3) := dk_181 (dw rcX12_init_149 12 rfl) rfl
theorem dX12_init_173 : decode cX12_init 173 = .ok (.aload_n 0, 1) := dk_42 (dw rcX12_init_149 13 rfl)
theorem dX12_init_174 : decode cX12_init 174 = .ok (.sipush 1200, 3) := dk_17 (dw rcX12_init_149 14 rfl) rfl
theorem dX12_init_177 : decode cX12_init 177 = .ok (.newarray .int, 2) := dk_188_10 (dw rcX12_init_149 15 rfl)
theorem dX12_init_179 : decode cX12_init 179 = .ok (.putfield 75, 3) := dk_181 (dw rcX12_init_149 16 rfl) rfl
theorem dX12_init_182 : decode cX12_init 182 = .ok (.aload_n 0, 1) := dk_42 (dw rcX12_init_149 17 rfl)
theorem dX12_init_183 : decode cX12_init 183 = .ok (.sipush 1200, 3) := dk_17 (dw rcX12_init_149 18 rfl) rfl
theorem dX12_init_186 : decode cX12_init 186 = .ok (.newarray .int, 2) := dk_188_10 (dw rcX12_init_149 19 rfl)
theorem dX12_init_188 : decode cX12_init 188 = .ok (.putfield 78, 3) := dk_181 (dw rcX12_init_149 20 rfl) rfl
theorem dX12_init_191 : decode cX12_init 191 = .ok (.aload_n 0, 1) := dk_42 (dw rcX12_init_149 21 rfl)
theorem dX12_init_192 : decode cX12_init 192 = .ok (.sipush 1200, 3) := dk_17 (dw rcX12_init_149 22 rfl) rfl
theorem dX12_init_195 : decode cX12_init 195 = .ok (.newarray .int, 2) := dk_188_10 (dw rcX12_init_149 23 rfl)
noncomputable def rbX12_init_197 : List (Nat × List Nat) := [(197, [181, 0, 81]), (200, [42]), (201, [17, 4, 176]), (204, [188, 10]), (206, [181, 0, 84]), (209, [42]), (210, [6]), (211, [188, 10]), (213, [181, 0, 87]), (216, [42]), (217, [7]), (218, [188, 10]), (220, [181, 0, 90]), (223, [42]), (224, [7]), (225, [188, 10]), (227, [181, 0, 93]), (230, [42]), (231, [7]), (232, [188, 10]), (234, [181, 0, 96]), (237, [42]), (238, [7]), (239, [188, 10])]
theorem rcX12_init_197 : dgo (lb cX12_init) 0 rbX12_init_197 = true := by decide +kernel
theorem dX12_init_197 : decode cX12_init 197 = .ok (.putfield 81, 3) := dk_181 (dw rcX12_init_197 0 rfl) rfl
theorem dX12_init_200 : decode cX12_init 200 = .ok (.aload_n 0, 1) := dk_42 (dw rcX12_init_197 1 rfl)
theorem dX12_init_201 : decode cX12_init 201 = .ok (.sipush 1200, 3) := dk_17 (dw rcX12_init_197 2 rfl) rfl
theorem dX12_init_204 : decode cX12_init 204 = .ok (.newarray .int, 2) := dk_188_10 (dw rcX12_init_197 3 rfl)
theorem dX12_init_206 : decode cX12_init 206 = .ok (.putfield 84, 3) := dk_181 (dw rcX12_init_197 4 rfl) rfl
theorem dX12_init_209 : decode cX12_init 209 = .ok (.aload_n 0, 1) := dk_42 (dw rcX12_init_197 5 rfl)
theorem dX12_init_210 : decode cX12_init 210 = .ok (.iconst 3, 1) := dk_6 (dw rcX12_init_197 6 rfl)
theorem dX12_init_211 : decode cX12_init 211 = .ok (.newarray .int, 2) := dk_188_10 (dw rcX12_init_197 7 rfl)
theorem dX12_init_213 : decode cX12_init 213 = .ok (.putfield 87, 3) := dk_181 (dw rcX12_init_197 8 rfl) rfl
theorem dX12_init_216 : decode cX12_init 216 = .ok (.aload_n 0, 1) := dk_42 (dw rcX12_init_197 9 rfl)
theorem dX12_init_217 : decode cX12_init 217 = .ok (.iconst 4, 1) := dk_7 (dw rcX12_init_197 10 rfl)
theorem dX12_init_218 : decode cX12_init 218 = .ok (.newarray .int, 2) := dk_188_10 (dw rcX12_init_197 11 rfl)
theorem dX12_init_220 : decode cX12_init 220 = .ok (.putfield 90, 3) := dk_181 (dw rcX12_init_197 12 rfl) rfl
theorem dX12_init_223 : decode cX12_init 223 = .ok (.aload_n 0, 1) := dk_42 (dw rcX12_init_197 13 rfl)
theorem dX12_init_224 : decode cX12_init 224 = .ok (.iconst 4, 1) := dk_7 (dw rcX12_init_197 14 rfl)
theorem dX12_init_225 : decode cX12_init 225 = .ok (.newarray .int, 2) := dk_188_10 (dw rcX12_init_197 15 rfl)
theorem dX12_init_227 : decode cX12_init 227 = .ok (.putfield 93, 3) := dk_181 (dw rcX12_init_197 16 rfl) rfl
theorem dX12_init_230 : decode cX12_init 230 = .ok (.aload_n 0, 1) := dk_42 (dw rcX12_init_197 17 rfl)
theorem dX12_init_231 : decode cX12_init 231 = .ok (.iconst 4, 1) := dk_7 (dw rcX12_init_197 18 rfl)
theorem dX12_init_232 : decode cX12_init 232 = .ok (.newarray .int, 2) := dk_188_10 (dw rcX12_init_197 19 rfl)
theorem dX12_init_234 : decode cX12_init 234 = .ok (.putfield 96, 3) := dk_181 (dw rcX12_init_197 20 rfl) rfl
theorem dX12_init_237 : decode cX12_init 237 = .ok (.aload_n 0, 1) := dk_42 (dw rcX12_init_197 21 rfl)
theorem dX12_init_238 : decode cX12_init 238 = .ok (.iconst 4, 1) := dk_7 (dw rcX12_init_197 22 rfl)
theorem dX12_init_239 : decode cX12_init 239 = .ok (.newarray .int, 2) := dk_188_10 (dw rcX12_init_197 23 rfl)
noncomputable def rbX12_init_241 : List (Nat × List Nat) := [(241, [181, 0, 99]), (244, [42]), (245, [6]), (246, [188, 10]), (248, [181, 0, 102]), (251, [42]), (252, [16, 30]), (254, [181, 0, 105]), (257, [42]), (258, [16, 10]), (260, [181, 0, 108]), (263, [42]), (264, [17, 1, 144]), (267, [188, 4]), (269, [181, 0, 111]), (272, [42]), (273, [17, 2, 0]), (276, [188, 4]), (278, [181, 0, 115]), (281, [42]), (282, [17, 9, 96]), (285, [188, 10]), (287, [181, 0, 118]), (290, [42])]
theorem rcX12_init_241 : dgo (lb cX12_init) 0 rbX12_init_241 = true := by decide +kernel
theorem dX12_init_241 : decode cX12_init 241 = .ok (.putfield 99, 3) := dk_181 (dw rcX12_init_241 0 rfl) rfl
theorem dX12_init_244 : decode cX12_init 244 = .ok (.aload_n 0, 1) := dk_42 (dw rcX12_init_241 1 rfl)
theorem dX12_init_245 : decode cX12_init 245 = .ok (.iconst 3, 1) := dk_6 (dw rcX12_init_241 2 rfl)
theorem dX12_init_246 : decode cX12_init 246 = .ok (.newarray .int, 2) := dk_188_10 (dw rcX12_init_241 3 rfl)
theorem dX12_init_248 : decode cX12_init 248 = .ok (.putfield 102, 3) := dk_181 (dw rcX12_init_241 4 rfl) rfl
theorem dX12_init_251 : decode cX12_init 251 = .ok (.aload_n 0, 1) := dk_42 (dw rcX12_init_241 5 rfl)
theorem dX12_init_252 : decode cX12_init 252 = .ok (.bipush 30, 2) := dk_16 (dw rcX12_init_241 6 rfl) rfl
theorem dX12_init_254 : decode cX12_init 254 = .ok (.putfield 105, 3) := dk_181 (dw rcX12_init_241 7 rfl) rfl
theorem dX12_init_257 : decode cX12_init 257 = .ok (.aload_n 0, 1) := dk_42 (dw rcX12_init_241 8 rfl)
theorem dX12_init_258 : decode cX12_init 258 = .ok (.bipush 10, 2) := dk_16 (dw rcX12_init_241 9 rfl) rfl
theorem dX12_init_260 : decode cX12_init 260 = .ok (.putfield 108, 3) := dk_181 (dw rcX12_init_241 10 rfl) rfl
theorem dX12_init_263 : decode cX12_init 263 = .ok (.aload_n 0, 1) := dk_42 (dw rcX12_init_241 11 rfl)
theorem dX12_init_264 : decode cX12_init 264 = .ok (.sipush 400, 3) := dk_17 (dw rcX12_init_241 12 rfl) rfl
theorem dX12_init_267 : decode cX12_init 267 = .ok (.newarray .boolean, 2) := dk_188_4 (dw rcX12_init_241 13 rfl)
theorem dX12_init_269 : decode cX12_init 269 = .ok (.putfield 111, 3) := dk_181 (dw rcX12_init_241 14 rfl) rfl
theorem dX12_init_272 : decode cX12_init 272 = .ok (.aload_n 0, 1) := dk_42 (dw rcX12_init_241 15 rfl)
theorem dX12_init_273 : decode cX12_init 273 = .ok (.sipush 512, 3) := dk_17 (dw rcX12_init_241 16 rfl) rfl
theorem dX12_init_276 : decode cX12_init 276 = .ok (.newarray .boolean, 2) := dk_188_4 (dw rcX12_init_241 17 rfl)
theorem dX12_init_278 : decode cX12_init 278 = .ok (.putfield 115, 3) := dk_181 (dw rcX12_init_241 18 rfl) rfl
theorem dX12_init_281 : decode cX12_init 281 = .ok (.aload_n 0, 1) := dk_42 (dw rcX12_init_241 19 rfl)
theorem dX12_init_282 : decode cX12_init 282 = .ok (.sipush 2400, 3) := dk_17 (dw rcX12_init_241 20 rfl) rfl
theorem dX12_init_285 : decode cX12_init 285 = .ok (.newarray .int, 2) := dk_188_10 (dw rcX12_init_241 21 rfl)
theorem dX12_init_287 : decode cX12_init 287 = .ok (.putfield 118, 3) := dk_181 (dw rcX12_init_241 22 rfl) rfl
theorem dX12_init_290 : decode cX12_init 290 = .ok (.aload_n 0, 1) := dk_42 (dw rcX12_init_241 23 rfl)
noncomputable def rbX12_init_291 : List (Nat × List Nat) := [(291, [17, 1, 144]), (294, [188, 10]), (296, [181, 0, 121]), (299, [42]), (300, [17, 4, 0]), (303, [188, 11]), (305, [181, 0, 124]), (308, [42]), (309, [17, 4, 0]), (312, [188, 11]), (314, [181, 0, 127]), (317, [42]), (318, [17, 2, 0]), (321, [188, 4]), (323, [181, 0, 130]), (326, [42]), (327, [17, 4, 0]), (330, [188, 10]), (332, [181, 0, 133]), (335, [42]), (336, [17, 4, 0]), (339, [188, 10]), (341, [181, 0, 136]), (344, [42])]
theorem rcX12_init_291 : dgo (lb cX12_init) 0 rbX12_init_291 = true := by decide +kernel
theorem dX12_init_291 : decode cX12_init 291 = .ok (.sipush 400, 3) := dk_17 (dw rcX12_init_291 0 rfl) rfl
theorem dX12_init_294 : decode cX12_init 294 = .ok (.newarray .int, 2) := dk_188_10 (dw rcX12_init_291 1 rfl)
theorem dX12_init_296 : decode cX12_init 296 = .ok (.putfield 121, 3) := dk_181 (dw rcX12_init_291 2 rfl) rfl
theorem dX12_init_299 : decode cX12_init 299 = .ok (.aload_n 0, 1) := dk_42 (dw rcX12_init_291 3 rfl)
theorem dX12_init_300 : decode cX12_init 300 = .ok (.sipush 1024, 3) := dk_17 (dw rcX12_init_291 4 rfl) rfl
theorem dX12_init_303 : decode cX12_init 303 = .ok (.newarray .long, 2) := dk_188_11 (dw rcX12_init_291 5 rfl)
theorem dX12_init_305 : decode cX12_init 305 = .ok (.putfield 124, 3) := dk_181 (dw rcX12_init_291 6 rfl) rfl
theorem dX12_init_308 : decode cX12_init 308 = .ok (.aload_n 0, 1) := dk_42 (dw rcX12_init_291 7 rfl)
theorem dX12_init_309 : decode cX12_init 309 = .ok (.sipush 1024, 3) := dk_17 (dw rcX12_init_291 8 rfl) rfl
theorem dX12_init_312 : decode cX12_init 312 = .ok (.newarray .long, 2) := dk_188_11 (dw rcX12_init_291 9 rfl)
theorem dX12_init_314 : decode cX12_init 314 = .ok (.putfield 127, 3) := dk_181 (dw rcX12_init_291 10 rfl) rfl
theorem dX12_init_317 : decode cX12_init 317 = .ok (.aload_n 0, 1) := dk_42 (dw rcX12_init_291 11 rfl)
theorem dX12_init_318 : decode cX12_init 318 = .ok (.sipush 512, 3) := dk_17 (dw rcX12_init_291 12 rfl) rfl
theorem dX12_init_321 : decode cX12_init 321 = .ok (.newarray .boolean, 2) := dk_188_4 (dw rcX12_init_291 13 rfl)
theorem dX12_init_323 : decode cX12_init 323 = .ok (.putfield 130, 3) := dk_181 (dw rcX12_init_291 14 rfl) rfl
theorem dX12_init_326 : decode cX12_init 326 = .ok (.aload_n 0, 1) := dk_42 (dw rcX12_init_291 15 rfl)
theorem dX12_init_327 : decode cX12_init 327 = .ok (.sipush 1024, 3) := dk_17 (dw rcX12_init_291 16 rfl) rfl
theorem dX12_init_330 : decode cX12_init 330 = .ok (.newarray .int, 2) := dk_188_10 (dw rcX12_init_291 17 rfl)
theorem dX12_init_332 : decode cX12_init 332 = .ok (.putfield 133, 3) := dk_181 (dw rcX12_init_291 18 rfl) rfl
theorem dX12_init_335 : decode cX12_init 335 = .ok (.aload_n 0, 1) := dk_42 (dw rcX12_init_291 19 rfl)
theorem dX12_init_336 : decode cX12_init 336 = .ok (.sipush 1024, 3) := dk_17 (dw rcX12_init_291 20 rfl) rfl
theorem dX12_init_339 : decode cX12_init 339 = .ok (.newarray .int, 2) := dk_188_10 (dw rcX12_init_291 21 rfl)
theorem dX12_init_341 : decode cX12_init 341 = .ok (.putfield 136, 3) := dk_181 (dw rcX12_init_291 22 rfl) rfl
theorem dX12_init_344 : decode cX12_init 344 = .ok (.aload_n 0, 1) := dk_42 (dw rcX12_init_291 23 rfl)
noncomputable def rbX12_init_345 : List (Nat × List Nat) := [(345, [17, 16, 0]), (348, [188, 11]), (350, [181, 0, 139]), (353, [42]), (354, [16, 64]), (356, [188, 4]), (358, [181, 0, 142]), (361, [42]), (362, [16, 64]), (364, [188, 4]), (366, [181, 0, 145]), (369, [42]), (370, [16, 64]), (372, [188, 10]), (374, [181, 0, 148]), (377, [42]), (378, [16, 16]), (380, [188, 10]), (382, [181, 0, 151]), (385, [42]), (386, [17, 2, 128]), (389, [188, 10]), (391, [181, 0, 154]), (394, [42])]
theorem rcX12_init_345 : dgo (lb cX12_init) 0 rbX12_init_345 = true := by decide +kernel
theorem dX12_init_345 : decode cX12_init 345 = .ok (.sipush 4096, 3) := dk_17 (dw rcX12_init_345 0 rfl) rfl
theorem dX12_init_348 : decode cX12_init 348 = .ok (.newarray .long, 2) := dk_188_11 (dw rcX12_init_345 1 rfl)
theorem dX12_init_350 : decode cX12_init 350 = .ok (.putfield 139, 3) := dk_181 (dw rcX12_init_345 2 rfl) rfl
theorem dX12_init_353 : decode cX12_init 353 = .ok (.aload_n 0, 1) := dk_42 (dw rcX12_init_345 3 rfl)
theorem dX12_init_354 : decode cX12_init 354 = .ok (.bipush 64, 2) := dk_16 (dw rcX12_init_345 4 rfl) rfl
theorem dX12_init_356 : decode cX12_init 356 = .ok (.newarray .boolean, 2) := dk_188_4 (dw rcX12_init_345 5 rfl)
theorem dX12_init_358 : decode cX12_init 358 = .ok (.putfield 142, 3) := dk_181 (dw rcX12_init_345 6 rfl) rfl
theorem dX12_init_361 : decode cX12_init 361 = .ok (.aload_n 0, 1) := dk_42 (dw rcX12_init_345 7 rfl)
theorem dX12_init_362 : decode cX12_init 362 = .ok (.bipush 64, 2) := dk_16 (dw rcX12_init_345 8 rfl) rfl
theorem dX12_init_364 : decode cX12_init 364 = .ok (.newarray .boolean, 2) := dk_188_4 (dw rcX12_init_345 9 rfl)
theorem dX12_init_366 : decode cX12_init 366 = .ok (.putfield 145, 3) := dk_181 (dw rcX12_init_345 10 rfl) rfl
theorem dX12_init_369 : decode cX12_init 369 = .ok (.aload_n 0, 1) := dk_42 (dw rcX12_init_345 11 rfl)
theorem dX12_init_370 : decode cX12_init 370 = .ok (.bipush 64, 2) := dk_16 (dw rcX12_init_345 12 rfl) rfl
theorem dX12_init_372 : decode cX12_init 372 = .ok (.newarray .int, 2) := dk_188_10 (dw rcX12_init_345 13 rfl)
theorem dX12_init_374 : decode cX12_init 374 = .ok (.putfield 148, 3) := dk_181 (dw rcX12_init_345 14 rfl) rfl
theorem dX12_init_377 : decode cX12_init 377 = .ok (.aload_n 0, 1) := dk_42 (dw rcX12_init_345 15 rfl)
theorem dX12_init_378 : decode cX12_init 378 = .ok (.bipush 16, 2) := dk_16 (dw rcX12_init_345 16 rfl) rfl
theorem dX12_init_380 : decode cX12_init 380 = .ok (.newarray .int, 2) := dk_188_10 (dw rcX12_init_345 17 rfl)
theorem dX12_init_382 : decode cX12_init 382 = .ok (.putfield 151, 3) := dk_181 (dw rcX12_init_345 18 rfl) rfl
theorem dX12_init_385 : decode cX12_init 385 = .ok (.aload_n 0, 1) := dk_42 (dw rcX12_init_345 19 rfl)
theorem dX12_init_386 : decode cX12_init 386 = .ok (.sipush 640, 3) := dk_17 (dw rcX12_init_345 20 rfl) rfl
theorem dX12_init_389 : decode cX12_init 389 = .ok (.newarray .int, 2) := dk_188_10 (dw rcX12_init_345 21 rfl)
theorem dX12_init_391 : decode cX12_init 391 = .ok (.putfield 154, 3) := dk_181 (dw rcX12_init_345 22 rfl) rfl
theorem dX12_init_394 : decode cX12_init 394 = .ok (.aload_n 0, 1) := dk_42 (dw rcX12_init_345 23 rfl)
noncomputable def rbX12_init_395 : List (Nat × List Nat) := [(395, [16, 20]), (397, [188, 10]), (399, [181, 0, 157]), (402, [42]), (403, [16, 20]), (405, [188, 10]), (407, [181, 0, 160]), (410, [42]), (411, [16, 20]), (413, [188, 10]), (415, [181, 0, 163]), (418, [42]), (419, [16, 20]), (421, [188, 10]), (423, [181, 0, 166]), (426, [42]), (427, [16, 20]), (429, [188, 10]), (431, [181, 0, 169]), (434, [42]), (435, [6]), (436, [188, 4]), (438, [181, 0, 172]), (441, [42])]
theorem rcX12_init_395 : dgo (lb cX12_init) 0 rbX12_init_395 = true := by decide +kernel
theorem dX12_init_395 : decode cX12_init 395 = .ok (.bipush 20, 2) := dk_16 (dw rcX12_init_395 0 rfl) rfl
theorem dX12_init_397 : decode cX12_init 397 = .ok (.newarray .int, 2) := dk_188_10 (dw rcX12_init_395 1 rfl)
theorem dX12_init_399 : decode cX12_init 399 = .ok (.putfield 157, 3) := dk_181 (dw rcX12_init_395 2 rfl) rfl
theorem dX12_init_402 : decode cX12_init 402 = .ok (.aload_n 0, 1) := dk_42 (dw rcX12_init_395 3 rfl)
theorem dX12_init_403 : decode cX12_init 403 = .ok (.bipush 20, 2) := dk_16 (dw rcX12_init_395 4 rfl) rfl
theorem dX12_init_405 : decode cX12_init 405 = .ok (.newarray .int, 2) := dk_188_10 (dw rcX12_init_395 5 rfl)
theorem dX12_init_407 : decode cX12_init 407 = .ok (.putfield 160, 3) := dk_181 (dw rcX12_init_395 6 rfl) rfl
theorem dX12_init_410 : decode cX12_init 410 = .ok (.aload_n 0, 1) := dk_42 (dw rcX12_init_395 7 rfl)
theorem dX12_init_411 : decode cX12_init 411 = .ok (.bipush 20, 2) := dk_16 (dw rcX12_init_395 8 rfl) rfl
theorem dX12_init_413 : decode cX12_init 413 = .ok (.newarray .int, 2) := dk_188_10 (dw rcX12_init_395 9 rfl)
theorem dX12_init_415 : decode cX12_init 415 = .ok (.putfield 163, 3) := dk_181 (dw rcX12_init_395 10 rfl) rfl
theorem dX12_init_418 : decode cX12_init 418 = .ok (.aload_n 0, 1) := dk_42 (dw rcX12_init_395 11 rfl)
theorem dX12_init_419 : decode cX12_init 419 = .ok (.bipush 20, 2) := dk_16 (dw rcX12_init_395 12 rfl) rfl
theorem dX12_init_421 : decode cX12_init 421 = .ok (.newarray .int, 2) := dk_188_10 (dw rcX12_init_395 13 rfl)
theorem dX12_init_423 : decode cX12_init 423 = .ok (.putfield 166, 3) := dk_181 (dw rcX12_init_395 14 rfl) rfl
theorem dX12_init_426 : decode cX12_init 426 = .ok (.aload_n 0, 1) := dk_42 (dw rcX12_init_395 15 rfl)
theorem dX12_init_427 : decode cX12_init 427 = .ok (.bipush 20, 2) := dk_16 (dw rcX12_init_395 16 rfl) rfl
theorem dX12_init_429 : decode cX12_init 429 = .ok (.newarray .int, 2) := dk_188_10 (dw rcX12_init_395 17 rfl)
theorem dX12_init_431 : decode cX12_init 431 = .ok (.putfield 169, 3) := dk_181 (dw rcX12_init_395 18 rfl) rfl
theorem dX12_init_434 : decode cX12_init 434 = .ok (.aload_n 0, 1) := dk_42 (dw rcX12_init_395 19 rfl)
theorem dX12_init_435 : decode cX12_init 435 = .ok (.iconst 3, 1) := dk_6 (dw rcX12_init_395 20 rfl)
theorem dX12_init_436 : decode cX12_init 436 = .ok (.newarray .boolean, 2) := dk_188_4 (dw rcX12_init_395 21 rfl)
theorem dX12_init_438 : decode cX12_init 438 = .ok (.putfield 172, 3) := dk_181 (dw rcX12_init_395 22 rfl) rfl
theorem dX12_init_441 : decode cX12_init 441 = .ok (.aload_n 0, 1) := dk_42 (dw rcX12_init_395 23 rfl)
noncomputable def rbX12_init_442 : List (Nat × List Nat) := [(442, [16, 48]), (444, [188, 10]), (446, [181, 0, 175]), (449, [42]), (450, [180, 0, 151]), (453, [3]), (454, [2]), (455, [79]), (456, [42]), (457, [180, 0, 102]), (460, [4]), (461, [4]), (462, [79]), (463, [177])]
theorem rcX12_init_442 : dgo (lb cX12_init) 0 rbX12_init_442 = true := by decide +kernel
theorem dX12_init_442 : decode cX12_init 442 = .ok (.bipush 48, 2) := dk_16 (dw rcX12_init_442 0 rfl) rfl
theorem dX12_init_444 : decode cX12_init 444 = .ok (.newarray .int, 2) := dk_188_10 (dw rcX12_init_442 1 rfl)
theorem dX12_init_446 : decode cX12_init 446 = .ok (.putfield 175, 3) := dk_181 (dw rcX12_init_442 2 rfl) rfl
theorem dX12_init_449 : decode cX12_init 449 = .ok (.aload_n 0, 1) := dk_42 (dw rcX12_init_442 3 rfl)
theorem dX12_init_450 : decode cX12_init 450 = .ok (.getfield 151, 3) := dk_180 (dw rcX12_init_442 4 rfl) rfl
theorem dX12_init_453 : decode cX12_init 453 = .ok (.iconst 0, 1) := dk_3 (dw rcX12_init_442 5 rfl)
theorem dX12_init_454 : decode cX12_init 454 = .ok (.iconst (-1), 1) := dk_2 (dw rcX12_init_442 6 rfl)
theorem dX12_init_455 : decode cX12_init 455 = .ok (.iastore, 1) := dk_79 (dw rcX12_init_442 7 rfl)
theorem dX12_init_456 : decode cX12_init 456 = .ok (.aload_n 0, 1) := dk_42 (dw rcX12_init_442 8 rfl)
theorem dX12_init_457 : decode cX12_init 457 = .ok (.getfield 102, 3) := dk_180 (dw rcX12_init_442 9 rfl) rfl
theorem dX12_init_460 : decode cX12_init 460 = .ok (.iconst 1, 1) := dk_4 (dw rcX12_init_442 10 rfl)
theorem dX12_init_461 : decode cX12_init 461 = .ok (.iconst 1, 1) := dk_4 (dw rcX12_init_442 11 rfl)
theorem dX12_init_462 : decode cX12_init 462 = .ok (.iastore, 1) := dk_79 (dw rcX12_init_442 12 rfl)
theorem dX12_init_463 : decode cX12_init 463 = .ok (.return_, 1) := dk_177 (dw rcX12_init_442 13 rfl)
noncomputable def rbX1_init_0 : List (Nat × List Nat) := [(0, [42]), (1, [183, 0, 3]), (4, [42]), (5, [16, 10]), (7, [188, 10]), (9, [181, 0, 11]), (12, [42]), (13, [17, 1, 154]), (16, [188, 10]), (18, [181, 0, 15]), (21, [42]), (22, [16, 30]), (24, [188, 10]), (26, [181, 0, 18]), (29, [177])]
theorem rcX1_init_0 : dgo (lb cX1_init) 0 rbX1_init_0 = true := by decide +kernel
theorem dX1_init_0 : decode cX1_init 0 = .ok (.aload_n 0, 1) := dk_42 (dw rcX1_init_0 0 rfl)
theorem dX1_init_1 : decode cX1_init 1 = .ok (.invokespecial 3, 3) := dk_183 (dw rcX1_init_0 1 rfl) rfl
theorem dX1_init_4 : decode cX1_init 4 = .ok (.aload_n 0, 1) := dk_42 (dw rcX1_init_0 2 rfl)
theorem dX1_init_5 : decode cX1_init 5 = .ok (.bipush 10, 2) := dk_16 (dw rcX1_init_0 3 rfl) rfl
theorem dX1_init_7 : decode cX1_init 7 = .ok (.newarray .int, 2) := dk_188_10 (dw rcX1_init_0 4 rfl)
theorem dX1_init_9 : decode cX1_init 9 = .ok (.putfield 11, 3) := dk_181 (dw rcX1_init_0 5 rfl) rfl
theorem dX1_init_12 : decode cX1_init 12 = .ok (.aload_n 0, 1) := dk_42 (dw rcX1_init_0 6 rfl)
theorem dX1_init_13 : decode cX1_init 13 = .ok (.sipush 410, 3) := dk_17 (dw rcX1_init_0 7 rfl) rfl
theorem dX1_init_16 : decode cX1_init 16 = .ok (.newarray .int, 2) := dk_188_10 (dw rcX1_init_0 8 rfl)
theorem dX1_init_18 : decode cX1_init 18 = .ok (.putfield 15, 3) := dk_181 (dw rcX1_init_0 9 rfl) rfl
theorem dX1_init_21 : decode cX1_init 21 = .ok (.aload_n 0, 1) := dk_42 (dw rcX1_init_0 10 rfl)
theorem dX1_init_22 : decode cX1_init 22 = .ok (.bipush 30, 2) := dk_16 (dw rcX1_init_0 11 rfl) rfl
theorem dX1_init_24 : decode cX1_init 24 = .ok (.newarray .int, 2) := dk_188_10 (dw rcX1_init_0 12 rfl)
theorem dX1_init_26 : decode cX1_init 26 = .ok (.putfield 18, 3) := dk_181 (dw rcX1_init_0 13 rfl) rfl
theorem dX1_init_29 : decode cX1_init 29 = .ok (.return_, 1) := dk_177 (dw rcX1_init_0 14 rfl)
noncomputable def rbX2_init_0 : List (Nat × List Nat) := [(0, [42]), (1, [183, 0, 3]), (4, [42]), (5, [43]), (6, [181, 0, 9]), (9, [42]), (10, [44]), (11, [181, 0, 15]), (14, [177])]
theorem rcX2_init_0 : dgo (lb cX2_init) 0 rbX2_init_0 = true := by decide +kernel
theorem dX2_init_0 : decode cX2_init 0 = .ok (.aload_n 0, 1) := dk_42 (dw rcX2_init_0 0 rfl)
theorem dX2_init_1 : decode cX2_init 1 = .ok (.invokespecial 3, 3) := dk_183 (dw rcX2_init_0 1 rfl) rfl
theorem dX2_init_4 : decode cX2_init 4 = .ok (.aload_n 0, 1) := dk_42 (dw rcX2_init_0 2 rfl)
theorem dX2_init_5 : decode cX2_init 5 = .ok (.aload_n 1, 1) := dk_43 (dw rcX2_init_0 3 rfl)
theorem dX2_init_6 : decode cX2_init 6 = .ok (.putfield 9, 3) := dk_181 (dw rcX2_init_0 4 rfl) rfl
theorem dX2_init_9 : decode cX2_init 9 = .ok (.aload_n 0, 1) := dk_42 (dw rcX2_init_0 5 rfl)
theorem dX2_init_10 : decode cX2_init 10 = .ok (.aload_n 2, 1) := dk_44 (dw rcX2_init_0 6 rfl)
theorem dX2_init_11 : decode cX2_init 11 = .ok (.putfield 15, 3) := dk_181 (dw rcX2_init_0 7 rfl) rfl
theorem dX2_init_14 : decode cX2_init 14 = .ok (.return_, 1) := dk_177 (dw rcX2_init_0 8 rfl)
noncomputable def rbX3_init_0 : List (Nat × List Nat) := [(0, [42]), (1, [183, 0, 3]), (4, [42]), (5, [17, 4, 176]), (8, [188, 10]), (10, [181, 0, 9]), (13, [42]), (14, [6]), (15, [188, 10]), (17, [181, 0, 15]), (20, [42]), (21, [16, 100]), (23, [188, 10]), (25, [181, 0, 18]), (28, [42]), (29, [43]), (30, [181, 0, 21]), (33, [177])]
theorem rcX3_init_0 : dgo (lb cX3_init) 0 rbX3_init_0 = true := by decide +kernel
theorem dX3_init_0 : decode cX3_init 0 = .ok (.aload_n 0, 1) := dk_42 (dw rcX3_init_0 0 rfl)
theorem dX3_init_1 : decode cX3_init 1 = .ok (.invokespecial 3, 3) := dk_183 (dw rcX3_init_0 1 rfl) rfl
theorem dX3_init_4 : decode cX3_init 4 = .ok (.aload_n 0, 1) := dk_42 (dw rcX3_init_0 2 rfl)
theorem dX3_init_5 : decode cX3_init 5 = .ok (.sipush 1200, 3) := dk_17 (dw rcX3_init_0 3 rfl) rfl
theorem dX3_init_8 : decode cX3_init 8 = .ok (.newarray .int, 2) := dk_188_10 (dw rcX3_init_0 4 rfl)
theorem dX3_init_10 : decode cX3_init 10 = .ok (.putfield 9, 3) := dk_181 (dw rcX3_init_0 5 rfl) rfl
theorem dX3_init_13 : decode cX3_init 13 = .ok (.aload_n 0, 1) := dk_42 (dw rcX3_init_0 6 rfl)
theorem dX3_init_14 : decode cX3_init 14 = .ok (.iconst 3, 1) := dk_6 (dw rcX3_init_0 7 rfl)
theorem dX3_init_15 : decode cX3_init 15 = .ok (.newarray .int, 2) := dk_188_10 (dw rcX3_init_0 8 rfl)
theorem dX3_init_17 : decode cX3_init 17 = .ok (.putfield 15, 3) := dk_181 (dw rcX3_init_0 9 rfl) rfl
theorem dX3_init_20 : decode cX3_init 20 = .ok (.aload_n 0, 1) := dk_42 (dw rcX3_init_0 10 rfl)
theorem dX3_init_21 : decode cX3_init 21 = .ok (.bipush 100, 2) := dk_16 (dw rcX3_init_0 11 rfl) rfl
theorem dX3_init_23 : decode cX3_init 23 = .ok (.newarray .int, 2) := dk_188_10 (dw rcX3_init_0 12 rfl)
theorem dX3_init_25 : decode cX3_init 25 = .ok (.putfield 18, 3) := dk_181 (dw rcX3_init_0 13 rfl) rfl
theorem dX3_init_28 : decode cX3_init 28 = .ok (.aload_n 0, 1) := dk_42 (dw rcX3_init_0 14 rfl)
theorem dX3_init_29 : decode cX3_init 29 = .ok (.aload_n 1, 1) := dk_43 (dw rcX3_init_0 15 rfl)
theorem dX3_init_30 : decode cX3_init 30 = .ok (.putfield 21, 3) := dk_181 (dw rcX3_init_0 16 rfl) rfl
theorem dX3_init_33 : decode cX3_init 33 = .ok (.return_, 1) := dk_177 (dw rcX3_init_0 17 rfl)
noncomputable def rbX4_init_0 : List (Nat × List Nat) := [(0, [42]), (1, [183, 0, 3]), (4, [42]), (5, [17, 1, 144]), (8, [188, 10]), (10, [181, 0, 9]), (13, [42]), (14, [17, 1, 144]), (17, [188, 10]), (19, [181, 0, 15]), (22, [177])]
theorem rcX4_init_0 : dgo (lb cX4_init) 0 rbX4_init_0 = true := by decide +kernel
theorem dX4_init_0 : decode cX4_init 0 = .ok (.aload_n 0, 1) := dk_42 (dw rcX4_init_0 0 rfl)
theorem dX4_init_1 : decode cX4_init 1 = .ok (.invokespecial 3, 3) := dk_183 (dw rcX4_init_0 1 rfl) rfl
theorem dX4_init_4 : decode cX4_init 4 = .ok (.aload_n 0, 1) := dk_42 (dw rcX4_init_0 2 rfl)
theorem dX4_init_5 : decode cX4_init 5 = .ok (.sipush 400, 3) := dk_17 (dw rcX4_init_0 3 rfl) rfl
theorem dX4_init_8 : decode cX4_init 8 = .ok (.newarray .int, 2) := dk_188_10 (dw rcX4_init_0 4 rfl)
theorem dX4_init_10 : decode cX4_init 10 = .ok (.putfield 9, 3) := dk_181 (dw rcX4_init_0 5 rfl) rfl
theorem dX4_init_13 : decode cX4_init 13 = .ok (.aload_n 0, 1) := dk_42 (dw rcX4_init_0 6 rfl)
theorem dX4_init_14 : decode cX4_init 14 = .ok (.sipush 400, 3) := dk_17 (dw rcX4_init_0 7 rfl) rfl
theorem dX4_init_17 : decode cX4_init 17 = .ok (.newarray .int, 2) := dk_188_10 (dw rcX4_init_0 8 rfl)
theorem dX4_init_19 : decode cX4_init 19 = .ok (.putfield 15, 3) := dk_181 (dw rcX4_init_0 9 rfl) rfl
theorem dX4_init_22 : decode cX4_init 22 = .ok (.return_, 1) := dk_177 (dw rcX4_init_0 10 rfl)
noncomputable def rbX5_init_0 : List (Nat × List Nat) := [(0, [42]), (1, [183, 0, 3]), (4, [42]), (5, [17, 1, 148]), (8, [188, 11]), (10, [181, 0, 11]), (13, [42]), (14, [17, 1, 148]), (17, [188, 11]), (19, [181, 0, 15]), (22, [42]), (23, [17, 1, 148]), (26, [188, 11]), (28, [181, 0, 18]), (31, [42]), (32, [17, 1, 148]), (35, [188, 11]), (37, [181, 0, 21]), (40, [42]), (41, [17, 1, 148]), (44, [188, 11]), (46, [181, 0, 24]), (49, [42]), (50, [17, 1, 148])]
theorem rcX5_init_0 : dgo (lb cX5_init) 0 rbX5_init_0 = true := by decide +kernel
theorem dX5_init_0 : decode cX5_init 0 = .ok (.aload_n 0, 1) := dk_42 (dw rcX5_init_0 0 rfl)
theorem dX5_init_1 : decode cX5_init 1 = .ok (.invokespecial 3, 3) := dk_183 (dw rcX5_init_0 1 rfl) rfl
theorem dX5_init_4 : decode cX5_init 4 = .ok (.aload_n 0, 1) := dk_42 (dw rcX5_init_0 2 rfl)
theorem dX5_init_5 : decode cX5_init 5 = .ok (.sipush 404, 3) := dk_17 (dw rcX5_init_0 3 rfl) rfl
theorem dX5_init_8 : decode cX5_init 8 = .ok (.newarray .long, 2) := dk_188_11 (dw rcX5_init_0 4 rfl)
theorem dX5_init_10 : decode cX5_init 10 = .ok (.putfield 11, 3) := dk_181 (dw rcX5_init_0 5 rfl) rfl
theorem dX5_init_13 : decode cX5_init 13 = .ok (.aload_n 0, 1) := dk_42 (dw rcX5_init_0 6 rfl)
theorem dX5_init_14 : decode cX5_init 14 = .ok (.sipush 404, 3) := dk_17 (dw rcX5_init_0 7 rfl) rfl
theorem dX5_init_17 : decode cX5_init 17 = .ok (.newarray .long, 2) := dk_188_11 (dw rcX5_init_0 8 rfl)
theorem dX5_init_19 : decode cX5_init 19 = .ok (.putfield 15, 3) := dk_181 (dw rcX5_init_0 9 rfl) rfl
theorem dX5_init_22 : decode cX5_init 22 = .ok (.aload_n 0, 1) := dk_42 (dw rcX5_init_0 10 rfl)
theorem dX5_init_23 : decode cX5_init 23 = .ok (.sipush 404, 3) := dk_17 (dw rcX5_init_0 11 rfl) rfl
theorem dX5_init_26 : decode cX5_init 26 = .ok (.newarray .long, 2) := dk_188_11 (dw rcX5_init_0 12 rfl)
theorem dX5_init_28 : decode cX5_init 28 = .ok (.putfield 18, 3) := dk_181 (dw rcX5_init_0 13 rfl) rfl
theorem dX5_init_31 : decode cX5_init 31 = .ok (.aload_n 0, 1) := dk_42 (dw rcX5_init_0 14 rfl)
theorem dX5_init_32 : decode cX5_init 32 = .ok (.sipush 404, 3) := dk_17 (dw rcX5_init_0 15 rfl) rfl
theorem dX5_init_35 : decode cX5_init 35 = .ok (.newarray .long, 2) := dk_188_11 (dw rcX5_init_0 16 rfl)
theorem dX5_init_37 : decode cX5_init 37 = .ok (.putfield 21, 3) := dk_181 (dw rcX5_init_0 17 rfl) rfl
theorem dX5_init_40 : decode cX5_init 40 = .ok (.aload_n 0, 1) := dk_42 (dw rcX5_init_0 18 rfl)
theorem dX5_init_41 : decode cX5_init 41 = .ok (.sipush 404, 3) := dk_17 (dw rcX5_init_0 19 rfl) rfl
theorem dX5_init_44 : decode cX5_init 44 = .ok (.newarray .long, 2) := dk_188_11 (dw rcX5_init_0 20 rfl)
theorem dX5_init_46 : decode cX5_init 46 = .ok (.putfield 24, 3) := dk_181 (dw rcX5_init_0 21 rfl) rfl
theorem dX5_init_49 : decode cX5_init 49 = .ok (.aload_n 0, 1) := dk_42 (dw rcX5_init_0 22 rfl)
theorem dX5_init_50 : decode cX5_init 50 = .ok (.sipush 404, 3) := dk_17 (dw rcX5_init_0 23 rfl) rfl
noncomputable def rbX5_init_53 : List (Nat × List Nat) := [(53, [188, 11]), (55, [181, 0, 27]), (58, [177])]
theorem rcX5_init_53 : dgo (lb cX5_init) 0 rbX5_init_53 = true := by decide +kernel
theorem dX5_init_53 : decode cX5_init 53 = .ok (.newarray .long, 2) := dk_188_11 (dw rcX5_init_53 0 rfl)
theorem dX5_init_55 : decode cX5_init 55 = .ok (.putfield 27, 3) := dk_181 (dw rcX5_init_53 1 rfl) rfl
theorem dX5_init_58 : decode cX5_init 58 = .ok (.return_, 1) := dk_177 (dw rcX5_init_53 2 rfl)
noncomputable def rbX6_init_0 : List (Nat × List Nat) := [(0, [42]), (1, [183, 0, 3]), (4, [42]), (5, [6]), (6, [188, 10]), (8, [181, 0, 9]), (11, [42]), (12, [17, 4, 176]), (15, [188, 10]), (17, [181, 0, 15]), (20, [42]), (21, [7]), (22, [188, 10]), (24, [181, 0, 18]), (27, [42]), (28, [7]), (29, [188, 10]), (31, [181, 0, 21]), (34, [42]), (35, [7]), (36, [188, 10]), (38, [181, 0, 24]), (41, [42]), (42, [7])]
theorem rcX6_init_0 : dgo (lb cX6_init) 0 rbX6_init_0 = true := by decide +kernel
theorem dX6_init_0 : decode cX6_init 0 = .ok (.aload_n 0, 1) := dk_42 (dw rcX6_init_0 0 rfl)
theorem dX6_init_1 : decode cX6_init 1 = .ok (.invokespecial 3, 3) := dk_183 (dw rcX6_init_0 1 rfl) rfl
theorem dX6_init_4 : decode cX6_init 4 = .ok (.aload_n 0, 1) := dk_42 (dw rcX6_init_0 2 rfl)
theorem dX6_init_5 : decode cX6_init 5 = .ok (.iconst 3, 1) := dk_6 (dw rcX6_init_0 3 rfl)
theorem dX6_init_6 : decode cX6_init 6 = .ok (.newarray .int, 2) := dk_188_10 (dw rcX6_init_0 4 rfl)
theorem dX6_init_8 : decode cX6_init 8 = .ok (.putfield 9, 3) := dk_181 (dw rcX6_init_0 5 rfl) rfl
theorem dX6_init_11 : decode cX6_init 11 = .ok (.aload_n 0, 1) := dk_42 (dw rcX6_init_0 6 rfl)
theorem dX6_init_12 : decode cX6_init 12 = .ok (.sipush 1200, 3) := dk_17 (dw rcX6_init_0 7 rfl) rfl
theorem dX6_init_15 : decode cX6_init 15 = .ok (.newarray .int, 2) := dk_188_10 (dw rcX6_init_0 8 rfl)
theorem dX6_init_17 : decode cX6_init 17 = .ok (.putfield 15, 3) := dk_181 (dw rcX6_init_0 9 rfl) rfl
theorem dX6_init_20 : decode cX6_init 20 = .ok (.aload_n 0, 1) := dk_42 (dw rcX6_init_0 10 rfl)
theorem dX6_init_21 : decode cX6_init 21 = .ok (.iconst 4, 1) := dk_7 (dw rcX6_init_0 11 rfl)
theorem dX6_init_22 : decode cX6_init 22 = .ok (.newarray .int, 2) := dk_188_10 (dw rcX6_init_0 12 rfl)
theorem dX6_init_24 : decode cX6_init 24 = .ok (.putfield 18, 3) := dk_181 (dw rcX6_init_0 13 rfl) rfl
theorem dX6_init_27 : decode cX6_init 27 = .ok (.aload_n 0, 1) := dk_42 (dw rcX6_init_0 14 rfl)
theorem dX6_init_28 : decode cX6_init 28 = .ok (.iconst 4, 1) := dk_7 (dw rcX6_init_0 15 rfl)
theorem dX6_init_29 : decode cX6_init 29 = .ok (.newarray .int, 2) := dk_188_10 (dw rcX6_init_0 16 rfl)
theorem dX6_init_31 : decode cX6_init 31 = .ok (.putfield 21, 3) := dk_181 (dw rcX6_init_0 17 rfl) rfl
theorem dX6_init_34 : decode cX6_init 34 = .ok (.aload_n 0, 1) := dk_42 (dw rcX6_init_0 18 rfl)
theorem dX6_init_35 : decode cX6_init 35 = .ok (.iconst 4, 1) := dk_7 (dw rcX6_init_0 19 rfl)
theorem dX6_init_36 : decode cX6_init 36 = .ok (.newarray .int, 2) := dk_188_10 (dw rcX6_init_0 20 rfl)
theorem dX6_init_38 : decode cX6_init 38 = .ok (.putfield 24, 3) := dk_181 (dw rcX6_init_0 21 rfl) rfl
theorem dX6_init_41 : decode cX6_init 41 = .ok (.aload_n 0, 1) := dk_42 (dw rcX6_init_0 22 rfl)
theorem dX6_init_42 : decode cX6_init 42 = .ok (.iconst 4, 1) := dk_7 (dw rcX6_init_0 23 rfl)
noncomputable def rbX6_init_43 : List (Nat × List Nat) := [(43, [188, 10]), (45, [181, 0, 27]), (48, [42]), (49, [6]), (50, [188, 10]), (52, [181, 0, 30]), (55, [42]), (56, [17, 2, 68]), (59, [188, 10]), (61, [181, 0, 33]), (64, [42]), (65, [16, 7]), (67, [188, 10]), (69, [181, 0, 36]), (72, [42]), (73, [182, 0, 39]), (76, [177])]
theorem rcX6_init_43 : dgo (lb cX6_init) 0 rbX6_init_43 = true := by decide +kernel
theorem dX6_init_43 : decode cX6_init 43 = .ok (.newarray .int, 2) := dk_188_10 (dw rcX6_init_43 0 rfl)
theorem dX6_init_45 : decode cX6_init 45 = .ok (.putfield 27, 3) := dk_181 (dw rcX6_init_43 1 rfl) rfl
theorem dX6_init_48 : decode cX6_init 48 = .ok (.aload_n 0, 1) := dk_42 (dw rcX6_init_43 2 rfl)
theorem dX6_init_49 : decode cX6_init 49 = .ok (.iconst 3, 1) := dk_6 (dw rcX6_init_43 3 rfl)
theorem dX6_init_50 : decode cX6_init 50 = .ok (.newarray .int, 2) := dk_188_10 (dw rcX6_init_43 4 rfl)
theorem dX6_init_52 : decode cX6_init 52 = .ok (.putfield 30, 3) := dk_181 (dw rcX6_init_43 5 rfl) rfl
theorem dX6_init_55 : decode cX6_init 55 = .ok (.aload_n 0, 1) := dk_42 (dw rcX6_init_43 6 rfl)
theorem dX6_init_56 : decode cX6_init 56 = .ok (.sipush 580, 3) := dk_17 (dw rcX6_init_43 7 rfl) rfl
theorem dX6_init_59 : decode cX6_init 59 = .ok (.newarray .int, 2) := dk_188_10 (dw rcX6_init_43 8 rfl)
theorem dX6_init_61 : decode cX6_init 61 = .ok (.putfield 33, 3) := dk_181 (dw rcX6_init_43 9 rfl) rfl
theorem dX6_init_64 : decode cX6_init 64 = .ok (.aload_n 0, 1) := dk_42 (dw rcX6_init_43 10 rfl)
theorem dX6_init_65 : decode cX6_init 65 = .ok (.bipush 7, 2) := dk_16 (dw rcX6_init_43 11 rfl) rfl
theorem dX6_init_67 : decode cX6_init 67 = .ok (.newarray .int, 2) := dk_188_10 (dw rcX6_init_43 12 rfl)
theorem dX6_init_69 : decode cX6_init 69 = .ok (.putfield 36, 3) := dk_181 (dw rcX6_init_43 13 rfl) rfl
theorem dX6_init_72 : decode cX6_init 72 = .ok (.aload_n 0, 1) := dk_42 (dw rcX6_init_43 14 rfl)
theorem dX6_init_73 : decode cX6_init 73 = .ok (.invokevirtual 39, 3) := dk_182 (dw rcX6_init_43 15 rfl) rfl
theorem dX6_init_76 : decode cX6_init 76 = .ok (.return_, 1) := dk_177 (dw rcX6_init_43 16 rfl)
noncomputable def rbX7_init_0 : List (Nat × List Nat) := [(0, [42]), (1, [183, 0, 3]), (4, [42]), (5, [6]), (6, [188, 11]), (8, [181, 0, 9]), (11, [42]), (12, [7]), (13, [188, 11]), (15, [181, 0, 15]), (18, [42]), (19, [16, 6]), (21, [188, 11]), (23, [181, 0, 18]), (26, [42]), (27, [187, 0, 21]), (30, [89]), (31, [43]), (32, [183, 0, 23]), (35, [181, 0, 26]), (38, [42]), (39, [187, 0, 30]), (42, [89]), (43, [42])]
theorem rcX7_init_0 : dgo (lb cX7_init) 0 rbX7_init_0 = true := by decide +kernel
theorem dX7_init_0 : decode cX7_init 0 = .ok (.aload_n 0, 1) := dk_42 (dw rcX7_init_0 0 rfl)
theorem dX7_init_1 : decode cX7_init 1 = .ok (.invokespecial 3, 3) := dk_183 (dw rcX7_init_0 1 rfl) rfl
theorem dX7_init_4 : decode cX7_init 4 = .ok (.aload_n 0, 1) := dk_42 (dw rcX7_init_0 2 rfl)
theorem dX7_init_5 : decode cX7_init 5 = .ok (.iconst 3, 1) := dk_6 (dw rcX7_init_0 3 rfl)
theorem dX7_init_6 : decode cX7_init 6 = .ok (.newarray .long, 2) := dk_188_11 (dw rcX7_init_0 4 rfl)
theorem dX7_init_8 : decode cX7_init 8 = .ok (.putfield 9, 3) := dk_181 (dw rcX7_init_0 5 rfl) rfl
theorem dX7_init_11 : decode cX7_init 11 = .ok (.aload_n 0, 1) := dk_42 (dw rcX7_init_0 6 rfl)
theorem dX7_init_12 : decode cX7_init 12 = .ok (.iconst 4, 1) := dk_7 (dw rcX7_init_0 7 rfl)
theorem dX7_init_13 : decode cX7_init 13 = .ok (.newarray .long, 2) := dk_188_11 (dw rcX7_init_0 8 rfl)
theorem dX7_init_15 : decode cX7_init 15 = .ok (.putfield 15, 3) := dk_181 (dw rcX7_init_0 9 rfl) rfl
theorem dX7_init_18 : decode cX7_init 18 = .ok (.aload_n 0, 1) := dk_42 (dw rcX7_init_0 10 rfl)
theorem dX7_init_19 : decode cX7_init 19 = .ok (.bipush 6, 2) := dk_16 (dw rcX7_init_0 11 rfl) rfl
theorem dX7_init_21 : decode cX7_init 21 = .ok (.newarray .long, 2) := dk_188_11 (dw rcX7_init_0 12 rfl)
theorem dX7_init_23 : decode cX7_init 23 = .ok (.putfield 18, 3) := dk_181 (dw rcX7_init_0 13 rfl) rfl
theorem dX7_init_26 : decode cX7_init 26 = .ok (.aload_n 0, 1) := dk_42 (dw rcX7_init_0 14 rfl)
theorem dX7_init_27 : decode cX7_init 27 = .ok (.new 21, 3) := dk_187 (dw rcX7_init_0 15 rfl) rfl
theorem dX7_init_30 : decode cX7_init 30 = .ok (.dup, 1) := dk_89 (dw rcX7_init_0 16 rfl)
theorem dX7_init_31 : decode cX7_init 31 = .ok (.aload_n 1, 1) := dk_43 (dw rcX7_init_0 17 rfl)
theorem dX7_init_32 : decode cX7_init 32 = .ok (.invokespecial 23, 3) := dk_183 (dw rcX7_init_0 18 rfl) rfl
theorem dX7_init_35 : decode cX7_init 35 = .ok (.putfield 26, 3) := dk_181 (dw rcX7_init_0 19 rfl) rfl
theorem dX7_init_38 : decode cX7_init 38 = .ok (.aload_n 0, 1) := dk_42 (dw rcX7_init_0 20 rfl)
theorem dX7_init_39 : decode cX7_init 39 = .ok (.new 30, 3) := dk_187 (dw rcX7_init_0 21 rfl) rfl
theorem dX7_init_42 : decode cX7_init 42 = .ok (.dup, 1) := dk_89 (dw rcX7_init_0 22 rfl)
theorem dX7_init_43 : decode cX7_init 43 = .ok (.aload_n 0, 1) := dk_42 (dw rcX7_init_0 23 rfl)
noncomputable def rbX7_init_44 : List (Nat × List Nat) := [(44, [180, 0, 26]), (47, [44]), (48, [183, 0, 32]), (51, [181, 0, 35]), (54, [42]), (55, [44]), (56, [181, 0, 39]), (59, [177])]
theorem rcX7_init_44 : dgo (lb cX7_init) 0 rbX7_init_44 = true := by decide +kernel
theorem dX7_init_44 : decode cX7_init 44 = .ok (.getfield 26, 3) := dk_180 (dw rcX7_init_44 0 rfl) rfl
theorem dX7_init_47 : decode cX7_init 47 = .ok (.aload_n 2, 1) := dk_44 (dw rcX7_init_44 1 rfl)
theorem dX7_init_48 : decode cX7_init 48 = .ok (.invokespecial 32, 3) := dk_183 (dw rcX7_init_44 2 rfl) rfl
theorem dX7_init_51 : decode cX7_init 51 = .ok (.putfield 35, 3) := dk_181 (dw rcX7_init_44 3 rfl) rfl
theorem dX7_init_54 : decode cX7_init 54 = .ok (.aload_n 0, 1) := dk_42 (dw rcX7_init_44 4 rfl)
theorem dX7_init_55 : decode cX7_init 55 = .ok (.aload_n 2, 1) := dk_44 (dw rcX7_init_44 5 rfl)
theorem dX7_init_56 : decode cX7_init 56 = .ok (.putfield 39, 3) := dk_181 (dw rcX7_init_44 6 rfl) rfl
theorem dX7_init_59 : decode cX7_init 59 = .ok (.return_, 1) := dk_177 (dw rcX7_init_44 7 rfl)
noncomputable def rbX8_init_0 : List (Nat × List Nat) := [(0, [42]), (1, [183, 0, 3]), (4, [42]), (5, [16, 20]), (7, [188, 10]), (9, [181, 0, 11]), (12, [42]), (13, [16, 20]), (15, [188, 10]), (17, [181, 0, 15]), (20, [42]), (21, [16, 20]), (23, [188, 10]), (25, [181, 0, 18]), (28, [42]), (29, [16, 20]), (31, [188, 10]), (33, [181, 0, 21]), (36, [42]), (37, [16, 20]), (39, [188, 10]), (41, [181, 0, 24]), (44, [177])]
theorem rcX8_init_0 : dgo (lb cX8_init) 0 rbX8_init_0 = true := by decide +kernel
theorem dX8_init_0 : decode cX8_init 0 = .ok (.aload_n 0, 1) := dk_42 (dw rcX8_init_0 0 rfl)
theorem dX8_init_1 : decode cX8_init 1 = .ok (.invokespecial 3, 3) := dk_183 (dw rcX8_init_0 1 rfl) rfl
theorem dX8_init_4 : decode cX8_init 4 = .ok (.aload_n 0, 1) := dk_42 (dw rcX8_init_0 2 rfl)
theorem dX8_init_5 : decode cX8_init 5 = .ok (.bipush 20, 2) := dk_16 (dw rcX8_init_0 3 rfl) rfl
theorem dX8_init_7 : decode cX8_init 7 = .ok (.newarray .int, 2) := dk_188_10 (dw rcX8_init_0 4 rfl)
theorem dX8_init_9 : decode cX8_init 9 = .ok (.putfield 11, 3) := dk_181 (dw rcX8_init_0 5 rfl) rfl
theorem dX8_init_12 : decode cX8_init 12 = .ok (.aload_n 0, 1) := dk_42 (dw rcX8_init_0 6 rfl)
theorem dX8_init_13 : decode cX8_init 13 = .ok (.bipush 20, 2) := dk_16 (dw rcX8_init_0 7 rfl) rfl
theorem dX8_init_15 : decode cX8_init 15 = .ok (.newarray .int, 2) := dk_188_10 (dw rcX8_init_0 8 rfl)
theorem dX8_init_17 : decode cX8_init 17 = .ok (.putfield 15, 3) := dk_181 (dw rcX8_init_0 9 rfl) rfl
theorem dX8_init_20 : decode cX8_init 20 = .ok (.aload_n 0, 1) := dk_42 (dw rcX8_init_0 10 rfl)
theorem dX8_init_21 : decode cX8_init 21 = .ok (.bipush 20, 2) := dk_16 (dw rcX8_init_0 11 rfl) rfl
theorem dX8_init_23 : decode cX8_init 23 = .ok (.newarray .int, 2) := dk_188_10 (dw rcX8_init_0 12 rfl)
theorem dX8_init_25 : decode cX8_init 25 = .ok (.putfield 18, 3) := dk_181 (dw rcX8_init_0 13 rfl) rfl
theorem dX8_init_28 : decode cX8_init 28 = .ok (.aload_n 0, 1) := dk_42 (dw rcX8_init_0 14 rfl)
theorem dX8_init_29 : decode cX8_init 29 = .ok (.bipush 20, 2) := dk_16 (dw rcX8_init_0 15 rfl) rfl
theorem dX8_init_31 : decode cX8_init 31 = .ok (.newarray .int, 2) := dk_188_10 (dw rcX8_init_0 16 rfl)
theorem dX8_init_33 : decode cX8_init 33 = .ok (.putfield 21, 3) := dk_181 (dw rcX8_init_0 17 rfl) rfl
theorem dX8_init_36 : decode cX8_init 36 = .ok (.aload_n 0, 1) := dk_42 (dw rcX8_init_0 18 rfl)
theorem dX8_init_37 : decode cX8_init 37 = .ok (.bipush 20, 2) := dk_16 (dw rcX8_init_0 19 rfl) rfl
theorem dX8_init_39 : decode cX8_init 39 = .ok (.newarray .int, 2) := dk_188_10 (dw rcX8_init_0 20 rfl)
theorem dX8_init_41 : decode cX8_init 41 = .ok (.putfield 24, 3) := dk_181 (dw rcX8_init_0 21 rfl) rfl
theorem dX8_init_44 : decode cX8_init 44 = .ok (.return_, 1) := dk_177 (dw rcX8_init_0 22 rfl)
noncomputable def rbX9_init_0 : List (Nat × List Nat) := [(0, [42]), (1, [183, 0, 3]), (4, [42]), (5, [2]), (6, [181, 0, 9]), (9, [42]), (10, [43]), (11, [181, 0, 15]), (14, [177])]
theorem rcX9_init_0 : dgo (lb cX9_init) 0 rbX9_init_0 = true := by decide +kernel
theorem dX9_init_0 : decode cX9_init 0 = .ok (.aload_n 0, 1) := dk_42 (dw rcX9_init_0 0 rfl)
theorem dX9_init_1 : decode cX9_init 1 = .ok (.invokespecial 3, 3) := dk_183 (dw rcX9_init_0 1 rfl) rfl
theorem dX9_init_4 : decode cX9_init 4 = .ok (.aload_n 0, 1) := dk_42 (dw rcX9_init_0 2 rfl)
theorem dX9_init_5 : decode cX9_init 5 = .ok (.iconst (-1), 1) := dk_2 (dw rcX9_init_0 3 rfl)
theorem dX9_init_6 : decode cX9_init 6 = .ok (.putfield 9, 3) := dk_181 (dw rcX9_init_0 4 rfl) rfl
theorem dX9_init_9 : decode cX9_init 9 = .ok (.aload_n 0, 1) := dk_42 (dw rcX9_init_0 5 rfl)
theorem dX9_init_10 : decode cX9_init 10 = .ok (.aload_n 1, 1) := dk_43 (dw rcX9_init_0 6 rfl)
theorem dX9_init_11 : decode cX9_init 11 = .ok (.putfield 15, 3) := dk_181 (dw rcX9_init_0 7 rfl) rfl
theorem dX9_init_14 : decode cX9_init 14 = .ok (.return_, 1) := dk_177 (dw rcX9_init_0 8 rfl)
abbrev vi0_ : Value := .int 0
abbrev vl0_ : Value := .long 0
abbrev vnl_ : Value := .null
abbrev vrf_ (a : Nat) : Value := .ref a
abbrev vaz_ (a : Nat) (c : ClassId) (n : Nat) : Nat × va_E := (a, .inl (c, n, .inl (fun _ => 0)))
abbrev vazl_ (a : Nat) (c : ClassId) (n : Nat) : Nat × va_E := (a, .inl (c, n, .inr (.inl (fun _ => 0))))
def cQ (D : va_G) (k : KT) (ws : va_W) (sz : Nat) (U : State) : Prop := U.heap.size = sz ∧ va_P D classes ws U.heap ∧ cK D k U ∧ va_D (fun _ => True) ws
theorem cQ_blind {D : va_G} {k : KT} {ws : va_W} {sz : Nat} {av : List Value} : FrameBlind (va_Pc av (cQ D k ws sz)) := fun a U g mk q => by
  obtain ⟨q0, q1, qP, ⟨qK, qX⟩, qD⟩ := q
  exact ⟨q0, q1, qP, ⟨va_K.moved (u := U) (U := U.calling g mk a) (Vm.Alike.refl U.vm) qK, qX.calling⟩, qD⟩
theorem cQ_S {D : va_G} {k : KT} {ws : va_W} {A : Nat → Prop} {As : List Value} {s : State} {H : Heap} (hP : va_P D classes ws H) (hK : cK D k s) (hD : va_D A ws) : PreS s H (va_Pc As (cQ D k ws H.size)) As :=
  ⟨cQ_blind, fun U hU hW => ⟨rfl, by rw [hU], by rw [hU]; exact hP, hK.warm hW, hD.weaken (fun _ _ _ _ => trivial)⟩⟩
theorem cQ_V {D : va_G} {k : KT} {ws : va_W} {A : Nat → Prop} {As : List Value} {s : State} {H : Heap} {b q0 ci : Nat} {q : vw_C} {fs : List Value} (hP : va_P D classes ws H) (hK : cK D k s) (hD : va_D A ws) (hc : classes[ci]? = some q) (he : ws[q0]? = some (b, .inr (ci, fs))) : PreV s H q.1 b (va_Pc (.ref b :: As) (cQ D k ws H.size)) As :=
  ⟨cQ_blind, va_recv hK.1 hP hc he, fun U hU hW => ⟨rfl, by rw [hU], by rw [hU]; exact hP, hK.warm hW, hD.weaken (fun _ _ _ _ => trivial)⟩⟩
