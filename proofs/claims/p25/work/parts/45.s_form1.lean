theorem m16 : Cond.selects RX2 yX2_passEither yX2_passEither ∈ gd := gds_2 0 rfl
theorem m17 : Cond.selects RX2 yX2_passBoth yX2_passBoth ∈ gd := gds_2 1 rfl
theorem m18 : Cond.selects RX2 yX2_passOne yX2_passOne ∈ gd := gds_2 2 rfl
theorem m19 : Cond.selects RX2 yX2_passRelation yX2_passRelation ∈ gd := gds_2 3 rfl
theorem m20 : Cond.selects RX2 yX2_passSum yX2_passSum ∈ gd := gds_2 4 rfl
theorem m21 : Cond.selects RX2 yX2_passTerm yX2_passTerm ∈ gd := gds_2 5 rfl
theorem m22 : Cond.selects RX2 yX2_passUnit yX2_passUnit ∈ gd := gds_2 6 rfl
theorem m23 : Cond.selects RX2 yX2_passBracket yX2_passBracket ∈ gd := gds_2 7 rfl
theorem m121 : Cond.initialized RX2 ∈ gd := gdc_1_0 5 rfl gw_initialized
theorem m197 : Cond.fieldLink RX2 66 "SlabWalk$Paving" "units" "I" ∈ gd := gdc_1_5 1 rfl gw_fieldLink
theorem m263 : Cond.fieldLink RX2 30 "SlabWalk$Tokens" "kind" "I" ∈ gd := gdc_1_9 3 rfl gw_fieldLink
theorem m267 : Cond.fieldLink RX2 70 "SlabWalk$Tokens" "number" "I" ∈ gd := gdc_1_9 7 rfl gw_fieldLink
theorem m301 : Cond.fieldLink RX2 9 "SlabWalk$Formulas" "tokens" "LSlabWalk$Tokens;" ∈ gd := gdc_1_11 9 rfl gw_fieldLink
theorem m302 : Cond.fieldLink RX2 15 "SlabWalk$Formulas" "paving" "LSlabWalk$Paving;" ∈ gd := gdc_1_11 10 rfl gw_fieldLink
theorem m303 : Cond.fieldLink RX2 19 "SlabWalk$Formulas" "units" "I" ∈ gd := gdc_1_11 11 rfl gw_fieldLink
theorem m821 : Cond.methodLink RX2 23 yX2_passEither ∈ gd := gdc_3_14 1 rfl gw_methodLink
theorem m823 : Cond.instanceMethod yX2_passEither ∈ gd := gdc_3_14 3 rfl gw_instanceMethod
theorem m824 : Cond.code yX2_passEither cX2_passEither 3 (some .boolean) ∈ gd := gdc_3_14 4 rfl gw_code
theorem m825 : Cond.methodLink RX2 27 yX2_passBoth ∈ gd := gdc_3_14 5 rfl gw_methodLink
theorem m827 : Cond.instanceMethod yX2_passBoth ∈ gd := gdc_3_14 7 rfl gw_instanceMethod
theorem m828 : Cond.code yX2_passBoth cX2_passBoth 3 (some .boolean) ∈ gd := gdc_3_14 8 rfl gw_code
theorem m829 : Cond.methodLink RX2 45 yX2_passOne ∈ gd := gdc_3_14 9 rfl gw_methodLink
theorem m831 : Cond.instanceMethod yX2_passOne ∈ gd := gdc_3_14 11 rfl gw_instanceMethod
theorem m832 : Cond.code yX2_passOne cX2_passOne 2 (some .boolean) ∈ gd := gdc_3_14 12 rfl gw_code
theorem m833 : Cond.methodLink RX2 48 yX2_passRelation ∈ gd := gdc_3_14 13 rfl gw_methodLink
theorem m835 : Cond.instanceMethod yX2_passRelation ∈ gd := gdc_3_14 15 rfl gw_instanceMethod
theorem m836 : Cond.code yX2_passRelation cX2_passRelation 3 (some .boolean) ∈ gd := gdc_4_0 0 rfl gw_code
theorem m837 : Cond.methodLink RX2 54 yX2_passSum ∈ gd := gdc_4_0 1 rfl gw_methodLink
theorem m839 : Cond.instanceMethod yX2_passSum ∈ gd := gdc_4_0 3 rfl gw_instanceMethod
theorem m840 : Cond.code yX2_passSum cX2_passSum 4 (some .boolean) ∈ gd := gdc_4_0 4 rfl gw_code
theorem m841 : Cond.methodLink RX2 57 yX2_passTerm ∈ gd := gdc_4_0 5 rfl gw_methodLink
theorem m843 : Cond.instanceMethod yX2_passTerm ∈ gd := gdc_4_0 7 rfl gw_instanceMethod
theorem m844 : Cond.code yX2_passTerm cX2_passTerm 4 (some .boolean) ∈ gd := gdc_4_0 8 rfl gw_code
theorem m845 : Cond.methodLink RX2 60 yX2_passUnit ∈ gd := gdc_4_0 9 rfl gw_methodLink
theorem m847 : Cond.instanceMethod yX2_passUnit ∈ gd := gdc_4_0 11 rfl gw_instanceMethod
theorem m848 : Cond.code yX2_passUnit cX2_passUnit 2 (some .boolean) ∈ gd := gdc_4_0 12 rfl gw_code
theorem m849 : Cond.methodLink RX2 51 yX9_refuse ∈ gd := gdc_4_0 13 rfl gw_methodLink
theorem m850 : Cond.methodLink RX2 67 yX2_passBracket ∈ gd := gdc_4_0 14 rfl gw_methodLink
theorem m852 : Cond.instanceMethod yX2_passBracket ∈ gd := gdc_4_1 0 rfl gw_instanceMethod
theorem m853 : Cond.code yX2_passBracket cX2_passBracket 2 (some .boolean) ∈ gd := gdc_4_1 1 rfl gw_code
theorem m854 : Cond.methodLink RX2 35 yX9_advance ∈ gd := gdc_4_1 2 rfl gw_methodLink
theorem m855 : Cond.methodLink RX2 39 yX6_emit ∈ gd := gdc_4_1 3 rfl gw_methodLink
theorem m856 : Cond.instanceMethod yX6_emit ∈ gd := gdc_4_1 4 rfl gw_instanceMethod
theorem m857 : Cond.selects RX6 yX6_emit yX6_emit ∈ gd := gdc_4_1 5 rfl gw_selects
theorem m858 : Cond.code yX6_emit cX6_emit 3 none ∈ gd := gdc_4_1 6 rfl gw_code
theorem m859 : Cond.methodLink RX2 63 yX2_isTimes ∈ gd := gdc_4_1 7 rfl gw_methodLink
theorem m860 : Cond.static yX2_isTimes ∈ gd := gdc_4_1 8 rfl gw_static
theorem m861 : Cond.code yX2_isTimes cX2_isTimes 1 (some .boolean) ∈ gd := gdc_4_1 9 rfl gw_code
noncomputable def rbX2_passBoth_0 : List (Nat × List Nat) := [(0, [42]), (1, [27]), (2, [182, 0, 45]), (5, [154, 0, 5]), (8, [3]), (9, [172]), (10, [3]), (11, [61]), (12, [28]), (13, [17, 6, 64]), (16, [162, 0, 51]), (19, [42]), (20, [180, 0, 9]), (23, [180, 0, 30]), (26, [17, 0, 145]), (29, [160, 0, 38]), (32, [42]), (33, [180, 0, 9]), (36, [182, 0, 35]), (39, [87]), (40, [42]), (41, [27]), (42, [182, 0, 45]), (45, [154, 0, 5])]
theorem rcX2_passBoth_0 : dgo (lb cX2_passBoth) 0 rbX2_passBoth_0 = true := by decide +kernel
theorem dX2_passBoth_0 : decode cX2_passBoth 0 = .ok (.aload_n 0, 1) := dk_42 (dw rcX2_passBoth_0 0 rfl)
theorem dX2_passBoth_1 : decode cX2_passBoth 1 = .ok (.iload_n 1, 1) := dk_27 (dw rcX2_passBoth_0 1 rfl)
theorem dX2_passBoth_2 : decode cX2_passBoth 2 = .ok (.invokevirtual 45, 3) := dk_182 (dw rcX2_passBoth_0 2 rfl) rfl
theorem dX2_passBoth_5 : decode cX2_passBoth 5 = .ok (.ifCond .ne 5, 3) := dk_154 (dw rcX2_passBoth_0 3 rfl) rfl
theorem dX2_passBoth_8 : decode cX2_passBoth 8 = .ok (.iconst 0, 1) := dk_3 (dw rcX2_passBoth_0 4 rfl)
theorem dX2_passBoth_9 : decode cX2_passBoth 9 = .ok (.ireturn, 1) := dk_172 (dw rcX2_passBoth_0 5 rfl)
theorem dX2_passBoth_10 : decode cX2_passBoth 10 = .ok (.iconst 0, 1) := dk_3 (dw rcX2_passBoth_0 6 rfl)
theorem dX2_passBoth_11 : decode cX2_passBoth 11 = .ok (.istore_n 2, 1) := dk_61 (dw rcX2_passBoth_0 7 rfl)
theorem dX2_passBoth_12 : decode cX2_passBoth 12 = .ok (.iload_n 2, 1) := dk_28 (dw rcX2_passBoth_0 8 rfl)
theorem dX2_passBoth_13 : decode cX2_passBoth 13 = .ok (.sipush 1600, 3) := dk_17 (dw rcX2_passBoth_0 9 rfl) rfl
theorem dX2_passBoth_16 : decode cX2_passBoth 16 = .ok (.if_icmp .ge 51, 3) := dk_162 (dw rcX2_passBoth_0 10 rfl) rfl
theorem dX2_passBoth_19 : decode cX2_passBoth 19 = .ok (.aload_n 0, 1) := dk_42 (dw rcX2_passBoth_0 11 rfl)
theorem dX2_passBoth_20 : decode cX2_passBoth 20 = .ok (.getfield 9, 3) := dk_180 (dw rcX2_passBoth_0 12 rfl) rfl
theorem dX2_passBoth_23 : decode cX2_passBoth 23 = .ok (.getfield 30, 3) := dk_180 (dw rcX2_passBoth_0 13 rfl) rfl
theorem dX2_passBoth_26 : decode cX2_passBoth 26 = .ok (.sipush 145, 3) := dk_17 (dw rcX2_passBoth_0 14 rfl) rfl
theorem dX2_passBoth_29 : decode cX2_passBoth 29 = .ok (.if_icmp .ne 38, 3) := dk_160 (dw rcX2_passBoth_0 15 rfl) rfl
theorem dX2_passBoth_32 : decode cX2_passBoth 32 = .ok (.aload_n 0, 1) := dk_42 (dw rcX2_passBoth_0 16 rfl)
theorem dX2_passBoth_33 : decode cX2_passBoth 33 = .ok (.getfield 9, 3) := dk_180 (dw rcX2_passBoth_0 17 rfl) rfl
theorem dX2_passBoth_36 : decode cX2_passBoth 36 = .ok (.invokevirtual 35, 3) := dk_182 (dw rcX2_passBoth_0 18 rfl) rfl
theorem dX2_passBoth_39 : decode cX2_passBoth 39 = .ok (.pop, 1) := dk_87 (dw rcX2_passBoth_0 19 rfl)
theorem dX2_passBoth_40 : decode cX2_passBoth 40 = .ok (.aload_n 0, 1) := dk_42 (dw rcX2_passBoth_0 20 rfl)
theorem dX2_passBoth_41 : decode cX2_passBoth 41 = .ok (.iload_n 1, 1) := dk_27 (dw rcX2_passBoth_0 21 rfl)
theorem dX2_passBoth_42 : decode cX2_passBoth 42 = .ok (.invokevirtual 45, 3) := dk_182 (dw rcX2_passBoth_0 22 rfl) rfl
theorem dX2_passBoth_45 : decode cX2_passBoth 45 = .ok (.ifCond .ne 5, 3) := dk_154 (dw rcX2_passBoth_0 23 rfl) rfl
noncomputable def rbX2_passBoth_48 : List (Nat × List Nat) := [(48, [3]), (49, [172]), (50, [42]), (51, [180, 0, 15]), (54, [17, 0, 145]), (57, [3]), (58, [182, 0, 39]), (61, [132, 2, 1]), (64, [167, 255, 204]), (67, [4]), (68, [172])]
theorem rcX2_passBoth_48 : dgo (lb cX2_passBoth) 0 rbX2_passBoth_48 = true := by decide +kernel
theorem dX2_passBoth_48 : decode cX2_passBoth 48 = .ok (.iconst 0, 1) := dk_3 (dw rcX2_passBoth_48 0 rfl)
theorem dX2_passBoth_49 : decode cX2_passBoth 49 = .ok (.ireturn, 1) := dk_172 (dw rcX2_passBoth_48 1 rfl)
theorem dX2_passBoth_50 : decode cX2_passBoth 50 = .ok (.aload_n 0, 1) := dk_42 (dw rcX2_passBoth_48 2 rfl)
theorem dX2_passBoth_51 : decode cX2_passBoth 51 = .ok (.getfield 15, 3) := dk_180 (dw rcX2_passBoth_48 3 rfl) rfl
theorem dX2_passBoth_54 : decode cX2_passBoth 54 = .ok (.sipush 145, 3) := dk_17 (dw rcX2_passBoth_48 4 rfl) rfl
theorem dX2_passBoth_57 : decode cX2_passBoth 57 = .ok (.iconst 0, 1) := dk_3 (dw rcX2_passBoth_48 5 rfl)
theorem dX2_passBoth_58 : decode cX2_passBoth 58 = .ok (.invokevirtual 39, 3) := dk_182 (dw rcX2_passBoth_48 6 rfl) rfl
theorem dX2_passBoth_61 : decode cX2_passBoth 61 = .ok (.iinc 2 1, 3) := dk_132 (dw rcX2_passBoth_48 7 rfl) rfl
theorem dX2_passBoth_64 : decode cX2_passBoth 64 = .ok (.goto (-52), 3) := dk_167 (dw rcX2_passBoth_48 8 rfl) rfl
theorem dX2_passBoth_67 : decode cX2_passBoth 67 = .ok (.iconst 1, 1) := dk_4 (dw rcX2_passBoth_48 9 rfl)
theorem dX2_passBoth_68 : decode cX2_passBoth 68 = .ok (.ireturn, 1) := dk_172 (dw rcX2_passBoth_48 10 rfl)
noncomputable def rbX2_passBracket_0 : List (Nat × List Nat) := [(0, [27]), (1, [16, 6]), (3, [164, 0, 12]), (6, [42]), (7, [180, 0, 9]), (10, [5]), (11, [182, 0, 51]), (14, [172]), (15, [42]), (16, [180, 0, 9]), (19, [182, 0, 35]), (22, [87]), (23, [42]), (24, [27]), (25, [4]), (26, [96]), (27, [182, 0, 23]), (30, [154, 0, 5]), (33, [3]), (34, [172]), (35, [42]), (36, [180, 0, 9]), (39, [180, 0, 30]), (42, [16, 41])]
theorem rcX2_passBracket_0 : dgo (lb cX2_passBracket) 0 rbX2_passBracket_0 = true := by decide +kernel
theorem dX2_passBracket_0 : decode cX2_passBracket 0 = .ok (.iload_n 1, 1) := dk_27 (dw rcX2_passBracket_0 0 rfl)
theorem dX2_passBracket_1 : decode cX2_passBracket 1 = .ok (.bipush 6, 2) := dk_16 (dw rcX2_passBracket_0 1 rfl) rfl
theorem dX2_passBracket_3 : decode cX2_passBracket 3 = .ok (.if_icmp .le 12, 3) := dk_164 (dw rcX2_passBracket_0 2 rfl) rfl
theorem dX2_passBracket_6 : decode cX2_passBracket 6 = .ok (.aload_n 0, 1) := dk_42 (dw rcX2_passBracket_0 3 rfl)
theorem dX2_passBracket_7 : decode cX2_passBracket 7 = .ok (.getfield 9, 3) := dk_180 (dw rcX2_passBracket_0 4 rfl) rfl
theorem dX2_passBracket_10 : decode cX2_passBracket 10 = .ok (.iconst 2, 1) := dk_5 (dw rcX2_passBracket_0 5 rfl)
theorem dX2_passBracket_11 : decode cX2_passBracket 11 = .ok (.invokevirtual 51, 3) := dk_182 (dw rcX2_passBracket_0 6 rfl) rfl
theorem dX2_passBracket_14 : decode cX2_passBracket 14 = .ok (.ireturn, 1) := dk_172 (dw rcX2_passBracket_0 7 rfl)
theorem dX2_passBracket_15 : decode cX2_passBracket 15 = .ok (.aload_n 0, 1) := dk_42 (dw rcX2_passBracket_0 8 rfl)
theorem dX2_passBracket_16 : decode cX2_passBracket 16 = .ok (.getfield 9, 3) := dk_180 (dw rcX2_passBracket_0 9 rfl) rfl
theorem dX2_passBracket_19 : decode cX2_passBracket 19 = .ok (.invokevirtual 35, 3) := dk_182 (dw rcX2_passBracket_0 10 rfl) rfl
theorem dX2_passBracket_22 : decode cX2_passBracket 22 = .ok (.pop, 1) := dk_87 (dw rcX2_passBracket_0 11 rfl)
theorem dX2_passBracket_23 : decode cX2_passBracket 23 = .ok (.aload_n 0, 1) := dk_42 (dw rcX2_passBracket_0 12 rfl)
theorem dX2_passBracket_24 : decode cX2_passBracket 24 = .ok (.iload_n 1, 1) := dk_27 (dw rcX2_passBracket_0 13 rfl)
theorem dX2_passBracket_25 : decode cX2_passBracket 25 = .ok (.iconst 1, 1) := dk_4 (dw rcX2_passBracket_0 14 rfl)
theorem dX2_passBracket_26 : decode cX2_passBracket 26 = .ok (.iadd, 1) := dk_96 (dw rcX2_passBracket_0 15 rfl)
theorem dX2_passBracket_27 : decode cX2_passBracket 27 = .ok (.invokevirtual 23, 3) := dk_182 (dw rcX2_passBracket_0 16 rfl) rfl
theorem dX2_passBracket_30 : decode cX2_passBracket 30 = .ok (.ifCond .ne 5, 3) := dk_154 (dw rcX2_passBracket_0 17 rfl) rfl
theorem dX2_passBracket_33 : decode cX2_passBracket 33 = .ok (.iconst 0, 1) := dk_3 (dw rcX2_passBracket_0 18 rfl)
theorem dX2_passBracket_34 : decode cX2_passBracket 34 = .ok (.ireturn, 1) := dk_172 (dw rcX2_passBracket_0 19 rfl)
theorem dX2_passBracket_35 : decode cX2_passBracket 35 = .ok (.aload_n 0, 1) := dk_42 (dw rcX2_passBracket_0 20 rfl)
theorem dX2_passBracket_36 : decode cX2_passBracket 36 = .ok (.getfield 9, 3) := dk_180 (dw rcX2_passBracket_0 21 rfl) rfl
theorem dX2_passBracket_39 : decode cX2_passBracket 39 = .ok (.getfield 30, 3) := dk_180 (dw rcX2_passBracket_0 22 rfl) rfl
theorem dX2_passBracket_42 : decode cX2_passBracket 42 = .ok (.bipush 41, 2) := dk_16 (dw rcX2_passBracket_0 23 rfl) rfl
noncomputable def rbX2_passBracket_44 : List (Nat × List Nat) := [(44, [160, 0, 13]), (47, [42]), (48, [180, 0, 9]), (51, [182, 0, 35]), (54, [167, 0, 11]), (57, [42]), (58, [180, 0, 9]), (61, [5]), (62, [182, 0, 51]), (65, [172])]
theorem rcX2_passBracket_44 : dgo (lb cX2_passBracket) 0 rbX2_passBracket_44 = true := by decide +kernel
theorem dX2_passBracket_44 : decode cX2_passBracket 44 = .ok (.if_icmp .ne 13, 3) := dk_160 (dw rcX2_passBracket_44 0 rfl) rfl
theorem dX2_passBracket_47 : decode cX2_passBracket 47 = .ok (.aload_n 0, 1) := dk_42 (dw rcX2_passBracket_44 1 rfl)
theorem dX2_passBracket_48 : decode cX2_passBracket 48 = .ok (.getfield 9, 3) := dk_180 (dw rcX2_passBracket_44 2 rfl) rfl
theorem dX2_passBracket_51 : decode cX2_passBracket 51 = .ok (.invokevirtual 35, 3) := dk_182 (dw rcX2_passBracket_44 3 rfl) rfl
theorem dX2_passBracket_54 : decode cX2_passBracket 54 = .ok (.goto 11, 3) := dk_167 (dw rcX2_passBracket_44 4 rfl) rfl
theorem dX2_passBracket_57 : decode cX2_passBracket 57 = .ok (.aload_n 0, 1) := dk_42 (dw rcX2_passBracket_44 5 rfl)
theorem dX2_passBracket_58 : decode cX2_passBracket 58 = .ok (.getfield 9, 3) := dk_180 (dw rcX2_passBracket_44 6 rfl) rfl
theorem dX2_passBracket_61 : decode cX2_passBracket 61 = .ok (.iconst 2, 1) := dk_5 (dw rcX2_passBracket_44 7 rfl)
theorem dX2_passBracket_62 : decode cX2_passBracket 62 = .ok (.invokevirtual 51, 3) := dk_182 (dw rcX2_passBracket_44 8 rfl) rfl
theorem dX2_passBracket_65 : decode cX2_passBracket 65 = .ok (.ireturn, 1) := dk_172 (dw rcX2_passBracket_44 9 rfl)
noncomputable def rbX2_passEither_0 : List (Nat × List Nat) := [(0, [42]), (1, [27]), (2, [182, 0, 27]), (5, [154, 0, 5]), (8, [3]), (9, [172]), (10, [3]), (11, [61]), (12, [28]), (13, [17, 6, 64]), (16, [162, 0, 51]), (19, [42]), (20, [180, 0, 9]), (23, [180, 0, 30]), (26, [17, 0, 144]), (29, [160, 0, 38]), (32, [42]), (33, [180, 0, 9]), (36, [182, 0, 35]), (39, [87]), (40, [42]), (41, [27]), (42, [182, 0, 27]), (45, [154, 0, 5])]
theorem rcX2_passEither_0 : dgo (lb cX2_passEither) 0 rbX2_passEither_0 = true := by decide +kernel
theorem dX2_passEither_0 : decode cX2_passEither 0 = .ok (.aload_n 0, 1) := dk_42 (dw rcX2_passEither_0 0 rfl)
theorem dX2_passEither_1 : decode cX2_passEither 1 = .ok (.iload_n 1, 1) := dk_27 (dw rcX2_passEither_0 1 rfl)
theorem dX2_passEither_2 : decode cX2_passEither 2 = .ok (.invokevirtual 27, 3) := dk_182 (dw rcX2_passEither_0 2 rfl) rfl
theorem dX2_passEither_5 : decode cX2_passEither 5 = .ok (.ifCond .ne 5, 3) := dk_154 (dw rcX2_passEither_0 3 rfl) rfl
theorem dX2_passEither_8 : decode cX2_passEither 8 = .ok (.iconst 0, 1) := dk_3 (dw rcX2_passEither_0 4 rfl)
theorem dX2_passEither_9 : decode cX2_passEither 9 = .ok (.ireturn, 1) := dk_172 (dw rcX2_passEither_0 5 rfl)
theorem dX2_passEither_10 : decode cX2_passEither 10 = .ok (.iconst 0, 1) := dk_3 (dw rcX2_passEither_0 6 rfl)
theorem dX2_passEither_11 : decode cX2_passEither 11 = .ok (.istore_n 2, 1) := dk_61 (dw rcX2_passEither_0 7 rfl)
theorem dX2_passEither_12 : decode cX2_passEither 12 = .ok (.iload_n 2, 1) := dk_28 (dw rcX2_passEither_0 8 rfl)
theorem dX2_passEither_13 : decode cX2_passEither 13 = .ok (.sipush 1600, 3) := dk_17 (dw rcX2_passEither_0 9 rfl) rfl
theorem dX2_passEither_16 : decode cX2_passEither 16 = .ok (.if_icmp .ge 51, 3) := dk_162 (dw rcX2_passEither_0 10 rfl) rfl
theorem dX2_passEither_19 : decode cX2_passEither 19 = .ok (.aload_n 0, 1) := dk_42 (dw rcX2_passEither_0 11 rfl)
theorem dX2_passEither_20 : decode cX2_passEither 20 = .ok (.getfield 9, 3) := dk_180 (dw rcX2_passEither_0 12 rfl) rfl
theorem dX2_passEither_23 : decode cX2_passEither 23 = .ok (.getfield 30, 3) := dk_180 (dw rcX2_passEither_0 13 rfl) rfl
theorem dX2_passEither_26 : decode cX2_passEither 26 = .ok (.sipush 144, 3) := dk_17 (dw rcX2_passEither_0 14 rfl) rfl
theorem dX2_passEither_29 : decode cX2_passEither 29 = .ok (.if_icmp .ne 38, 3) := dk_160 (dw rcX2_passEither_0 15 rfl) rfl
theorem dX2_passEither_32 : decode cX2_passEither 32 = .ok (.aload_n 0, 1) := dk_42 (dw rcX2_passEither_0 16 rfl)
theorem dX2_passEither_33 : decode cX2_passEither 33 = .ok (.getfield 9, 3) := dk_180 (dw rcX2_passEither_0 17 rfl) rfl
theorem dX2_passEither_36 : decode cX2_passEither 36 = .ok (.invokevirtual 35, 3) := dk_182 (dw rcX2_passEither_0 18 rfl) rfl
theorem dX2_passEither_39 : decode cX2_passEither 39 = .ok (.pop, 1) := dk_87 (dw rcX2_passEither_0 19 rfl)
theorem dX2_passEither_40 : decode cX2_passEither 40 = .ok (.aload_n 0, 1) := dk_42 (dw rcX2_passEither_0 20 rfl)
theorem dX2_passEither_41 : decode cX2_passEither 41 = .ok (.iload_n 1, 1) := dk_27 (dw rcX2_passEither_0 21 rfl)
theorem dX2_passEither_42 : decode cX2_passEither 42 = .ok (.invokevirtual 27, 3) := dk_182 (dw rcX2_passEither_0 22 rfl) rfl
theorem dX2_passEither_45 : decode cX2_passEither 45 = .ok (.ifCond .ne 5, 3) := dk_154 (dw rcX2_passEither_0 23 rfl) rfl
noncomputable def rbX2_passEither_48 : List (Nat × List Nat) := [(48, [3]), (49, [172]), (50, [42]), (51, [180, 0, 15]), (54, [17, 0, 144]), (57, [3]), (58, [182, 0, 39]), (61, [132, 2, 1]), (64, [167, 255, 204]), (67, [4]), (68, [172])]
theorem rcX2_passEither_48 : dgo (lb cX2_passEither) 0 rbX2_passEither_48 = true := by decide +kernel
theorem dX2_passEither_48 : decode cX2_passEither 48 = .ok (.iconst 0, 1) := dk_3 (dw rcX2_passEither_48 0 rfl)
theorem dX2_passEither_49 : decode cX2_passEither 49 = .ok (.ireturn, 1) := dk_172 (dw rcX2_passEither_48 1 rfl)
theorem dX2_passEither_50 : decode cX2_passEither 50 = .ok (.aload_n 0, 1) := dk_42 (dw rcX2_passEither_48 2 rfl)
theorem dX2_passEither_51 : decode cX2_passEither 51 = .ok (.getfield 15, 3) := dk_180 (dw rcX2_passEither_48 3 rfl) rfl
theorem dX2_passEither_54 : decode cX2_passEither 54 = .ok (.sipush 144, 3) := dk_17 (dw rcX2_passEither_48 4 rfl) rfl
theorem dX2_passEither_57 : decode cX2_passEither 57 = .ok (.iconst 0, 1) := dk_3 (dw rcX2_passEither_48 5 rfl)
theorem dX2_passEither_58 : decode cX2_passEither 58 = .ok (.invokevirtual 39, 3) := dk_182 (dw rcX2_passEither_48 6 rfl) rfl
theorem dX2_passEither_61 : decode cX2_passEither 61 = .ok (.iinc 2 1, 3) := dk_132 (dw rcX2_passEither_48 7 rfl) rfl
theorem dX2_passEither_64 : decode cX2_passEither 64 = .ok (.goto (-52), 3) := dk_167 (dw rcX2_passEither_48 8 rfl) rfl
theorem dX2_passEither_67 : decode cX2_passEither 67 = .ok (.iconst 1, 1) := dk_4 (dw rcX2_passEither_48 9 rfl)
theorem dX2_passEither_68 : decode cX2_passEither 68 = .ok (.ireturn, 1) := dk_172 (dw rcX2_passEither_48 10 rfl)
noncomputable def rbX2_passOne_0 : List (Nat × List Nat) := [(0, [42]), (1, [180, 0, 9]), (4, [180, 0, 30]), (7, [17, 0, 146]), (10, [159, 0, 9]), (13, [42]), (14, [27]), (15, [182, 0, 48]), (18, [172]), (19, [27]), (20, [16, 6]), (22, [164, 0, 12]), (25, [42]), (26, [180, 0, 9]), (29, [5]), (30, [182, 0, 51]), (33, [172]), (34, [42]), (35, [180, 0, 9]), (38, [182, 0, 35]), (41, [87]), (42, [42]), (43, [27]), (44, [4])]
theorem rcX2_passOne_0 : dgo (lb cX2_passOne) 0 rbX2_passOne_0 = true := by decide +kernel
theorem dX2_passOne_0 : decode cX2_passOne 0 = .ok (.aload_n 0, 1) := dk_42 (dw rcX2_passOne_0 0 rfl)
theorem dX2_passOne_1 : decode cX2_passOne 1 = .ok (.getfield 9, 3) := dk_180 (dw rcX2_passOne_0 1 rfl) rfl
theorem dX2_passOne_4 : decode cX2_passOne 4 = .ok (.getfield 30, 3) := dk_180 (dw rcX2_passOne_0 2 rfl) rfl
theorem dX2_passOne_7 : decode cX2_passOne 7 = .ok (.sipush 146, 3) := dk_17 (dw rcX2_passOne_0 3 rfl) rfl
theorem dX2_passOne_10 : decode cX2_passOne 10 = .ok (.if_icmp .eq 9, 3) := dk_159 (dw rcX2_passOne_0 4 rfl) rfl
theorem dX2_passOne_13 : decode cX2_passOne 13 = .ok (.aload_n 0, 1) := dk_42 (dw rcX2_passOne_0 5 rfl)
theorem dX2_passOne_14 : decode cX2_passOne 14 = .ok (.iload_n 1, 1) := dk_27 (dw rcX2_passOne_0 6 rfl)
theorem dX2_passOne_15 : decode cX2_passOne 15 = .ok (.invokevirtual 48, 3) := dk_182 (dw rcX2_passOne_0 7 rfl) rfl
theorem dX2_passOne_18 : decode cX2_passOne 18 = .ok (.ireturn, 1) := dk_172 (dw rcX2_passOne_0 8 rfl)
theorem dX2_passOne_19 : decode cX2_passOne 19 = .ok (.iload_n 1, 1) := dk_27 (dw rcX2_passOne_0 9 rfl)
theorem dX2_passOne_20 : decode cX2_passOne 20 = .ok (.bipush 6, 2) := dk_16 (dw rcX2_passOne_0 10 rfl) rfl
theorem dX2_passOne_22 : decode cX2_passOne 22 = .ok (.if_icmp .le 12, 3) := dk_164 (dw rcX2_passOne_0 11 rfl) rfl
theorem dX2_passOne_25 : decode cX2_passOne 25 = .ok (.aload_n 0, 1) := dk_42 (dw rcX2_passOne_0 12 rfl)
theorem dX2_passOne_26 : decode cX2_passOne 26 = .ok (.getfield 9, 3) := dk_180 (dw rcX2_passOne_0 13 rfl) rfl
theorem dX2_passOne_29 : decode cX2_passOne 29 = .ok (.iconst 2, 1) := dk_5 (dw rcX2_passOne_0 14 rfl)
theorem dX2_passOne_30 : decode cX2_passOne 30 = .ok (.invokevirtual 51, 3) := dk_182 (dw rcX2_passOne_0 15 rfl) rfl
theorem dX2_passOne_33 : decode cX2_passOne 33 = .ok (.ireturn, 1) := dk_172 (dw rcX2_passOne_0 16 rfl)
theorem dX2_passOne_34 : decode cX2_passOne 34 = .ok (.aload_n 0, 1) := dk_42 (dw rcX2_passOne_0 17 rfl)
theorem dX2_passOne_35 : decode cX2_passOne 35 = .ok (.getfield 9, 3) := dk_180 (dw rcX2_passOne_0 18 rfl) rfl
theorem dX2_passOne_38 : decode cX2_passOne 38 = .ok (.invokevirtual 35, 3) := dk_182 (dw rcX2_passOne_0 19 rfl) rfl
theorem dX2_passOne_41 : decode cX2_passOne 41 = .ok (.pop, 1) := dk_87 (dw rcX2_passOne_0 20 rfl)
theorem dX2_passOne_42 : decode cX2_passOne 42 = .ok (.aload_n 0, 1) := dk_42 (dw rcX2_passOne_0 21 rfl)
theorem dX2_passOne_43 : decode cX2_passOne 43 = .ok (.iload_n 1, 1) := dk_27 (dw rcX2_passOne_0 22 rfl)
theorem dX2_passOne_44 : decode cX2_passOne 44 = .ok (.iconst 1, 1) := dk_4 (dw rcX2_passOne_0 23 rfl)
noncomputable def rbX2_passOne_45 : List (Nat × List Nat) := [(45, [96]), (46, [182, 0, 45]), (49, [154, 0, 5]), (52, [3]), (53, [172]), (54, [42]), (55, [180, 0, 15]), (58, [17, 0, 146]), (61, [3]), (62, [182, 0, 39]), (65, [4]), (66, [172])]
theorem rcX2_passOne_45 : dgo (lb cX2_passOne) 0 rbX2_passOne_45 = true := by decide +kernel
theorem dX2_passOne_45 : decode cX2_passOne 45 = .ok (.iadd, 1) := dk_96 (dw rcX2_passOne_45 0 rfl)
theorem dX2_passOne_46 : decode cX2_passOne 46 = .ok (.invokevirtual 45, 3) := dk_182 (dw rcX2_passOne_45 1 rfl) rfl
theorem dX2_passOne_49 : decode cX2_passOne 49 = .ok (.ifCond .ne 5, 3) := dk_154 (dw rcX2_passOne_45 2 rfl) rfl
theorem dX2_passOne_52 : decode cX2_passOne 52 = .ok (.iconst 0, 1) := dk_3 (dw rcX2_passOne_45 3 rfl)
theorem dX2_passOne_53 : decode cX2_passOne 53 = .ok (.ireturn, 1) := dk_172 (dw rcX2_passOne_45 4 rfl)
theorem dX2_passOne_54 : decode cX2_passOne 54 = .ok (.aload_n 0, 1) := dk_42 (dw rcX2_passOne_45 5 rfl)
theorem dX2_passOne_55 : decode cX2_passOne 55 = .ok (.getfield 15, 3) := dk_180 (dw rcX2_passOne_45 6 rfl) rfl
theorem dX2_passOne_58 : decode cX2_passOne 58 = .ok (.sipush 146, 3) := dk_17 (dw rcX2_passOne_45 7 rfl) rfl
theorem dX2_passOne_61 : decode cX2_passOne 61 = .ok (.iconst 0, 1) := dk_3 (dw rcX2_passOne_45 8 rfl)
theorem dX2_passOne_62 : decode cX2_passOne 62 = .ok (.invokevirtual 39, 3) := dk_182 (dw rcX2_passOne_45 9 rfl) rfl
theorem dX2_passOne_65 : decode cX2_passOne 65 = .ok (.iconst 1, 1) := dk_4 (dw rcX2_passOne_45 10 rfl)
theorem dX2_passOne_66 : decode cX2_passOne 66 = .ok (.ireturn, 1) := dk_172 (dw rcX2_passOne_45 11 rfl)
noncomputable def rbX2_passRelation_0 : List (Nat × List Nat) := [(0, [42]), (1, [27]), (2, [182, 0, 54]), (5, [154, 0, 5]), (8, [3]), (9, [172]), (10, [42]), (11, [180, 0, 9]), (14, [180, 0, 30]), (17, [61]), (18, [28]), (19, [16, 60]), (21, [159, 0, 17]), (24, [28]), (25, [16, 62]), (27, [159, 0, 11]), (30, [28]), (31, [16, 61]), (33, [159, 0, 5]), (36, [4]), (37, [172]), (38, [42]), (39, [180, 0, 9]), (42, [182, 0, 35])]
theorem rcX2_passRelation_0 : dgo (lb cX2_passRelation) 0 rbX2_passRelation_0 = true := by decide +kernel
theorem dX2_passRelation_0 : decode cX2_passRelation 0 = .ok (.aload_n 0, 1) := dk_42 (dw rcX2_passRelation_0 0 rfl)
theorem dX2_passRelation_1 : decode cX2_passRelation 1 = .ok (.iload_n 1, 1) := dk_27 (dw rcX2_passRelation_0 1 rfl)
theorem dX2_passRelation_2 : decode cX2_passRelation 2 = .ok (.invokevirtual 54, 3) := dk_182 (dw rcX2_passRelation_0 2 rfl) rfl
theorem dX2_passRelation_5 : decode cX2_passRelation 5 = .ok (.ifCond .ne 5, 3) := dk_154 (dw rcX2_passRelation_0 3 rfl) rfl
theorem dX2_passRelation_8 : decode cX2_passRelation 8 = .ok (.iconst 0, 1) := dk_3 (dw rcX2_passRelation_0 4 rfl)
theorem dX2_passRelation_9 : decode cX2_passRelation 9 = .ok (.ireturn, 1) := dk_172 (dw rcX2_passRelation_0 5 rfl)
theorem dX2_passRelation_10 : decode cX2_passRelation 10 = .ok (.aload_n 0, 1) := dk_42 (dw rcX2_passRelation_0 6 rfl)
theorem dX2_passRelation_11 : decode cX2_passRelation 11 = .ok (.getfield 9, 3) := dk_180 (dw rcX2_passRelation_0 7 rfl) rfl
theorem dX2_passRelation_14 : decode cX2_passRelation 14 = .ok (.getfield 30, 3) := dk_180 (dw rcX2_passRelation_0 8 rfl) rfl
theorem dX2_passRelation_17 : decode cX2_passRelation 17 = .ok (.istore_n 2, 1) := dk_61 (dw rcX2_passRelation_0 9 rfl)
theorem dX2_passRelation_18 : decode cX2_passRelation 18 = .ok (.iload_n 2, 1) := dk_28 (dw rcX2_passRelation_0 10 rfl)
theorem dX2_passRelation_19 : decode cX2_passRelation 19 = .ok (.bipush 60, 2) := dk_16 (dw rcX2_passRelation_0 11 rfl) rfl
theorem dX2_passRelation_21 : decode cX2_passRelation 21 = .ok (.if_icmp .eq 17, 3) := dk_159 (dw rcX2_passRelation_0 12 rfl) rfl
theorem dX2_passRelation_24 : decode cX2_passRelation 24 = .ok (.iload_n 2, 1) := dk_28 (dw rcX2_passRelation_0 13 rfl)
theorem dX2_passRelation_25 : decode cX2_passRelation 25 = .ok (.bipush 62, 2) := dk_16 (dw rcX2_passRelation_0 14 rfl) rfl
theorem dX2_passRelation_27 : decode cX2_passRelation 27 = .ok (.if_icmp .eq 11, 3) := dk_159 (dw rcX2_passRelation_0 15 rfl) rfl
theorem dX2_passRelation_30 : decode cX2_passRelation 30 = .ok (.iload_n 2, 1) := dk_28 (dw rcX2_passRelation_0 16 rfl)
theorem dX2_passRelation_31 : decode cX2_passRelation 31 = .ok (.bipush 61, 2) := dk_16 (dw rcX2_passRelation_0 17 rfl) rfl
theorem dX2_passRelation_33 : decode cX2_passRelation 33 = .ok (.if_icmp .eq 5, 3) := dk_159 (dw rcX2_passRelation_0 18 rfl) rfl
theorem dX2_passRelation_36 : decode cX2_passRelation 36 = .ok (.iconst 1, 1) := dk_4 (dw rcX2_passRelation_0 19 rfl)
theorem dX2_passRelation_37 : decode cX2_passRelation 37 = .ok (.ireturn, 1) := dk_172 (dw rcX2_passRelation_0 20 rfl)
theorem dX2_passRelation_38 : decode cX2_passRelation 38 = .ok (.aload_n 0, 1) := dk_42 (dw rcX2_passRelation_0 21 rfl)
theorem dX2_passRelation_39 : decode cX2_passRelation 39 = .ok (.getfield 9, 3) := dk_180 (dw rcX2_passRelation_0 22 rfl) rfl
theorem dX2_passRelation_42 : decode cX2_passRelation 42 = .ok (.invokevirtual 35, 3) := dk_182 (dw rcX2_passRelation_0 23 rfl) rfl
noncomputable def rbX2_passRelation_45 : List (Nat × List Nat) := [(45, [87]), (46, [42]), (47, [27]), (48, [182, 0, 54]), (51, [154, 0, 5]), (54, [3]), (55, [172]), (56, [42]), (57, [180, 0, 15]), (60, [28]), (61, [3]), (62, [182, 0, 39]), (65, [4]), (66, [172])]
theorem rcX2_passRelation_45 : dgo (lb cX2_passRelation) 0 rbX2_passRelation_45 = true := by decide +kernel
theorem dX2_passRelation_45 : decode cX2_passRelation 45 = .ok (.pop, 1) := dk_87 (dw rcX2_passRelation_45 0 rfl)
theorem dX2_passRelation_46 : decode cX2_passRelation 46 = .ok (.aload_n 0, 1) := dk_42 (dw rcX2_passRelation_45 1 rfl)
theorem dX2_passRelation_47 : decode cX2_passRelation 47 = .ok (.iload_n 1, 1) := dk_27 (dw rcX2_passRelation_45 2 rfl)
theorem dX2_passRelation_48 : decode cX2_passRelation 48 = .ok (.invokevirtual 54, 3) := dk_182 (dw rcX2_passRelation_45 3 rfl) rfl
theorem dX2_passRelation_51 : decode cX2_passRelation 51 = .ok (.ifCond .ne 5, 3) := dk_154 (dw rcX2_passRelation_45 4 rfl) rfl
theorem dX2_passRelation_54 : decode cX2_passRelation 54 = .ok (.iconst 0, 1) := dk_3 (dw rcX2_passRelation_45 5 rfl)
theorem dX2_passRelation_55 : decode cX2_passRelation 55 = .ok (.ireturn, 1) := dk_172 (dw rcX2_passRelation_45 6 rfl)
theorem dX2_passRelation_56 : decode cX2_passRelation 56 = .ok (.aload_n 0, 1) := dk_42 (dw rcX2_passRelation_45 7 rfl)
theorem dX2_passRelation_57 : decode cX2_passRelation 57 = .ok (.getfield 15, 3) := dk_180 (dw rcX2_passRelation_45 8 rfl) rfl
theorem dX2_passRelation_60 : decode cX2_passRelation 60 = .ok (.iload_n 2, 1) := dk_28 (dw rcX2_passRelation_45 9 rfl)
theorem dX2_passRelation_61 : decode cX2_passRelation 61 = .ok (.iconst 0, 1) := dk_3 (dw rcX2_passRelation_45 10 rfl)
theorem dX2_passRelation_62 : decode cX2_passRelation 62 = .ok (.invokevirtual 39, 3) := dk_182 (dw rcX2_passRelation_45 11 rfl) rfl
theorem dX2_passRelation_65 : decode cX2_passRelation 65 = .ok (.iconst 1, 1) := dk_4 (dw rcX2_passRelation_45 12 rfl)
theorem dX2_passRelation_66 : decode cX2_passRelation 66 = .ok (.ireturn, 1) := dk_172 (dw rcX2_passRelation_45 13 rfl)
noncomputable def rbX2_passSum_0 : List (Nat × List Nat) := [(0, [42]), (1, [27]), (2, [182, 0, 57]), (5, [154, 0, 5]), (8, [3]), (9, [172]), (10, [3]), (11, [61]), (12, [28]), (13, [17, 6, 64]), (16, [162, 0, 68]), (19, [42]), (20, [180, 0, 9]), (23, [180, 0, 30]), (26, [16, 43]), (28, [159, 0, 15]), (31, [42]), (32, [180, 0, 9]), (35, [180, 0, 30]), (38, [16, 45]), (40, [160, 0, 44]), (43, [42]), (44, [180, 0, 9]), (47, [180, 0, 30])]
theorem rcX2_passSum_0 : dgo (lb cX2_passSum) 0 rbX2_passSum_0 = true := by decide +kernel
theorem dX2_passSum_0 : decode cX2_passSum 0 = .ok (.aload_n 0, 1) := dk_42 (dw rcX2_passSum_0 0 rfl)
theorem dX2_passSum_1 : decode cX2_passSum 1 = .ok (.iload_n 1, 1) := dk_27 (dw rcX2_passSum_0 1 rfl)
theorem dX2_passSum_2 : decode cX2_passSum 2 = .ok (.invokevirtual 57, 3) := dk_182 (dw rcX2_passSum_0 2 rfl) rfl
theorem dX2_passSum_5 : decode cX2_passSum 5 = .ok (.ifCond .ne 5, 3) := dk_154 (dw rcX2_passSum_0 3 rfl) rfl
theorem dX2_passSum_8 : decode cX2_passSum 8 = .ok (.iconst 0, 1) := dk_3 (dw rcX2_passSum_0 4 rfl)
theorem dX2_passSum_9 : decode cX2_passSum 9 = .ok (.ireturn, 1) := dk_172 (dw rcX2_passSum_0 5 rfl)
theorem dX2_passSum_10 : decode cX2_passSum 10 = .ok (.iconst 0, 1) := dk_3 (dw rcX2_passSum_0 6 rfl)
theorem dX2_passSum_11 : decode cX2_passSum 11 = .ok (.istore_n 2, 1) := dk_61 (dw rcX2_passSum_0 7 rfl)
theorem dX2_passSum_12 : decode cX2_passSum 12 = .ok (.iload_n 2, 1) := dk_28 (dw rcX2_passSum_0 8 rfl)
theorem dX2_passSum_13 : decode cX2_passSum 13 = .ok (.sipush 1600, 3) := dk_17 (dw rcX2_passSum_0 9 rfl) rfl
theorem dX2_passSum_16 : decode cX2_passSum 16 = .ok (.if_icmp .ge 68, 3) := dk_162 (dw rcX2_passSum_0 10 rfl) rfl
theorem dX2_passSum_19 : decode cX2_passSum 19 = .ok (.aload_n 0, 1) := dk_42 (dw rcX2_passSum_0 11 rfl)
theorem dX2_passSum_20 : decode cX2_passSum 20 = .ok (.getfield 9, 3) := dk_180 (dw rcX2_passSum_0 12 rfl) rfl
theorem dX2_passSum_23 : decode cX2_passSum 23 = .ok (.getfield 30, 3) := dk_180 (dw rcX2_passSum_0 13 rfl) rfl
theorem dX2_passSum_26 : decode cX2_passSum 26 = .ok (.bipush 43, 2) := dk_16 (dw rcX2_passSum_0 14 rfl) rfl
theorem dX2_passSum_28 : decode cX2_passSum 28 = .ok (.if_icmp .eq 15, 3) := dk_159 (dw rcX2_passSum_0 15 rfl) rfl
theorem dX2_passSum_31 : decode cX2_passSum 31 = .ok (.aload_n 0, 1) := dk_42 (dw rcX2_passSum_0 16 rfl)
theorem dX2_passSum_32 : decode cX2_passSum 32 = .ok (.getfield 9, 3) := dk_180 (dw rcX2_passSum_0 17 rfl) rfl
theorem dX2_passSum_35 : decode cX2_passSum 35 = .ok (.getfield 30, 3) := dk_180 (dw rcX2_passSum_0 18 rfl) rfl
theorem dX2_passSum_38 : decode cX2_passSum 38 = .ok (.bipush 45, 2) := dk_16 (dw rcX2_passSum_0 19 rfl) rfl
theorem dX2_passSum_40 : decode cX2_passSum 40 = .ok (.if_icmp .ne 44, 3) := dk_160 (dw rcX2_passSum_0 20 rfl) rfl
theorem dX2_passSum_43 : decode cX2_passSum 43 = .ok (.aload_n 0, 1) := dk_42 (dw rcX2_passSum_0 21 rfl)
theorem dX2_passSum_44 : decode cX2_passSum 44 = .ok (.getfield 9, 3) := dk_180 (dw rcX2_passSum_0 22 rfl) rfl
theorem dX2_passSum_47 : decode cX2_passSum 47 = .ok (.getfield 30, 3) := dk_180 (dw rcX2_passSum_0 23 rfl) rfl
noncomputable def rbX2_passSum_50 : List (Nat × List Nat) := [(50, [62]), (51, [42]), (52, [180, 0, 9]), (55, [182, 0, 35]), (58, [87]), (59, [42]), (60, [27]), (61, [182, 0, 57]), (64, [154, 0, 5]), (67, [3]), (68, [172]), (69, [42]), (70, [180, 0, 15]), (73, [29]), (74, [3]), (75, [182, 0, 39]), (78, [132, 2, 1]), (81, [167, 255, 187]), (84, [4]), (85, [172])]
theorem rcX2_passSum_50 : dgo (lb cX2_passSum) 0 rbX2_passSum_50 = true := by decide +kernel
theorem dX2_passSum_50 : decode cX2_passSum 50 = .ok (.istore_n 3, 1) := dk_62 (dw rcX2_passSum_50 0 rfl)
theorem dX2_passSum_51 : decode cX2_passSum 51 = .ok (.aload_n 0, 1) := dk_42 (dw rcX2_passSum_50 1 rfl)
theorem dX2_passSum_52 : decode cX2_passSum 52 = .ok (.getfield 9, 3) := dk_180 (dw rcX2_passSum_50 2 rfl) rfl
theorem dX2_passSum_55 : decode cX2_passSum 55 = .ok (.invokevirtual 35, 3) := dk_182 (dw rcX2_passSum_50 3 rfl) rfl
theorem dX2_passSum_58 : decode cX2_passSum 58 = .ok (.pop, 1) := dk_87 (dw rcX2_passSum_50 4 rfl)
theorem dX2_passSum_59 : decode cX2_passSum 59 = .ok (.aload_n 0, 1) := dk_42 (dw rcX2_passSum_50 5 rfl)
theorem dX2_passSum_60 : decode cX2_passSum 60 = .ok (.iload_n 1, 1) := dk_27 (dw rcX2_passSum_50 6 rfl)
theorem dX2_passSum_61 : decode cX2_passSum 61 = .ok (.invokevirtual 57, 3) := dk_182 (dw rcX2_passSum_50 7 rfl) rfl
theorem dX2_passSum_64 : decode cX2_passSum 64 = .ok (.ifCond .ne 5, 3) := dk_154 (dw rcX2_passSum_50 8 rfl) rfl
theorem dX2_passSum_67 : decode cX2_passSum 67 = .ok (.iconst 0, 1) := dk_3 (dw rcX2_passSum_50 9 rfl)
theorem dX2_passSum_68 : decode cX2_passSum 68 = .ok (.ireturn, 1) := dk_172 (dw rcX2_passSum_50 10 rfl)
theorem dX2_passSum_69 : decode cX2_passSum 69 = .ok (.aload_n 0, 1) := dk_42 (dw rcX2_passSum_50 11 rfl)
theorem dX2_passSum_70 : decode cX2_passSum 70 = .ok (.getfield 15, 3) := dk_180 (dw rcX2_passSum_50 12 rfl) rfl
theorem dX2_passSum_73 : decode cX2_passSum 73 = .ok (.iload_n 3, 1) := dk_29 (dw rcX2_passSum_50 13 rfl)
theorem dX2_passSum_74 : decode cX2_passSum 74 = .ok (.iconst 0, 1) := dk_3 (dw rcX2_passSum_50 14 rfl)
theorem dX2_passSum_75 : decode cX2_passSum 75 = .ok (.invokevirtual 39, 3) := dk_182 (dw rcX2_passSum_50 15 rfl) rfl
theorem dX2_passSum_78 : decode cX2_passSum 78 = .ok (.iinc 2 1, 3) := dk_132 (dw rcX2_passSum_50 16 rfl) rfl
theorem dX2_passSum_81 : decode cX2_passSum 81 = .ok (.goto (-69), 3) := dk_167 (dw rcX2_passSum_50 17 rfl) rfl
theorem dX2_passSum_84 : decode cX2_passSum 84 = .ok (.iconst 1, 1) := dk_4 (dw rcX2_passSum_50 18 rfl)
theorem dX2_passSum_85 : decode cX2_passSum 85 = .ok (.ireturn, 1) := dk_172 (dw rcX2_passSum_50 19 rfl)
noncomputable def rbX2_passTerm_0 : List (Nat × List Nat) := [(0, [42]), (1, [27]), (2, [182, 0, 60]), (5, [154, 0, 5]), (8, [3]), (9, [172]), (10, [3]), (11, [61]), (12, [28]), (13, [17, 6, 64]), (16, [162, 0, 57]), (19, [42]), (20, [180, 0, 9]), (23, [180, 0, 30]), (26, [184, 0, 63]), (29, [153, 0, 44]), (32, [42]), (33, [180, 0, 9]), (36, [180, 0, 30]), (39, [62]), (40, [42]), (41, [180, 0, 9]), (44, [182, 0, 35]), (47, [87])]
theorem rcX2_passTerm_0 : dgo (lb cX2_passTerm) 0 rbX2_passTerm_0 = true := by decide +kernel
theorem dX2_passTerm_0 : decode cX2_passTerm 0 = .ok (.aload_n 0, 1) := dk_42 (dw rcX2_passTerm_0 0 rfl)
theorem dX2_passTerm_1 : decode cX2_passTerm 1 = .ok (.iload_n 1, 1) := dk_27 (dw rcX2_passTerm_0 1 rfl)
theorem dX2_passTerm_2 : decode cX2_passTerm 2 = .ok (.invokevirtual 60, 3) := dk_182 (dw rcX2_passTerm_0 2 rfl) rfl
theorem dX2_passTerm_5 : decode cX2_passTerm 5 = .ok (.ifCond .ne 5, 3) := dk_154 (dw rcX2_passTerm_0 3 rfl) rfl
theorem dX2_passTerm_8 : decode cX2_passTerm 8 = .ok (.iconst 0, 1) := dk_3 (dw rcX2_passTerm_0 4 rfl)
theorem dX2_passTerm_9 : decode cX2_passTerm 9 = .ok (.ireturn, 1) := dk_172 (dw rcX2_passTerm_0 5 rfl)
theorem dX2_passTerm_10 : decode cX2_passTerm 10 = .ok (.iconst 0, 1) := dk_3 (dw rcX2_passTerm_0 6 rfl)
theorem dX2_passTerm_11 : decode cX2_passTerm 11 = .ok (.istore_n 2, 1) := dk_61 (dw rcX2_passTerm_0 7 rfl)
theorem dX2_passTerm_12 : decode cX2_passTerm 12 = .ok (.iload_n 2, 1) := dk_28 (dw rcX2_passTerm_0 8 rfl)
theorem dX2_passTerm_13 : decode cX2_passTerm 13 = .ok (.sipush 1600, 3) := dk_17 (dw rcX2_passTerm_0 9 rfl) rfl
theorem dX2_passTerm_16 : decode cX2_passTerm 16 = .ok (.if_icmp .ge 57, 3) := dk_162 (dw rcX2_passTerm_0 10 rfl) rfl
theorem dX2_passTerm_19 : decode cX2_passTerm 19 = .ok (.aload_n 0, 1) := dk_42 (dw rcX2_passTerm_0 11 rfl)
theorem dX2_passTerm_20 : decode cX2_passTerm 20 = .ok (.getfield 9, 3) := dk_180 (dw rcX2_passTerm_0 12 rfl) rfl
theorem dX2_passTerm_23 : decode cX2_passTerm 23 = .ok (.getfield 30, 3) := dk_180 (dw rcX2_passTerm_0 13 rfl) rfl
theorem dX2_passTerm_26 : decode cX2_passTerm 26 = .ok (.invokestatic 63, 3) := dk_184 (dw rcX2_passTerm_0 14 rfl) rfl
theorem dX2_passTerm_29 : decode cX2_passTerm 29 = .ok (.ifCond .eq 44, 3) := dk_153 (dw rcX2_passTerm_0 15 rfl) rfl
theorem dX2_passTerm_32 : decode cX2_passTerm 32 = .ok (.aload_n 0, 1) := dk_42 (dw rcX2_passTerm_0 16 rfl)
theorem dX2_passTerm_33 : decode cX2_passTerm 33 = .ok (.getfield 9, 3) := dk_180 (dw rcX2_passTerm_0 17 rfl) rfl
theorem dX2_passTerm_36 : decode cX2_passTerm 36 = .ok (.getfield 30, 3) := dk_180 (dw rcX2_passTerm_0 18 rfl) rfl
theorem dX2_passTerm_39 : decode cX2_passTerm 39 = .ok (.istore_n 3, 1) := dk_62 (dw rcX2_passTerm_0 19 rfl)
theorem dX2_passTerm_40 : decode cX2_passTerm 40 = .ok (.aload_n 0, 1) := dk_42 (dw rcX2_passTerm_0 20 rfl)
theorem dX2_passTerm_41 : decode cX2_passTerm 41 = .ok (.getfield 9, 3) := dk_180 (dw rcX2_passTerm_0 21 rfl) rfl
theorem dX2_passTerm_44 : decode cX2_passTerm 44 = .ok (.invokevirtual 35, 3) := dk_182 (dw rcX2_passTerm_0 22 rfl) rfl
theorem dX2_passTerm_47 : decode cX2_passTerm 47 = .ok (.pop, 1) := dk_87 (dw rcX2_passTerm_0 23 rfl)
noncomputable def rbX2_passTerm_48 : List (Nat × List Nat) := [(48, [42]), (49, [27]), (50, [182, 0, 60]), (53, [154, 0, 5]), (56, [3]), (57, [172]), (58, [42]), (59, [180, 0, 15]), (62, [29]), (63, [3]), (64, [182, 0, 39]), (67, [132, 2, 1]), (70, [167, 255, 198]), (73, [4]), (74, [172])]
theorem rcX2_passTerm_48 : dgo (lb cX2_passTerm) 0 rbX2_passTerm_48 = true := by decide +kernel
theorem dX2_passTerm_48 : decode cX2_passTerm 48 = .ok (.aload_n 0, 1) := dk_42 (dw rcX2_passTerm_48 0 rfl)
theorem dX2_passTerm_49 : decode cX2_passTerm 49 = .ok (.iload_n 1, 1) := dk_27 (dw rcX2_passTerm_48 1 rfl)
theorem dX2_passTerm_50 : decode cX2_passTerm 50 = .ok (.invokevirtual 60, 3) := dk_182 (dw rcX2_passTerm_48 2 rfl) rfl
theorem dX2_passTerm_53 : decode cX2_passTerm 53 = .ok (.ifCond .ne 5, 3) := dk_154 (dw rcX2_passTerm_48 3 rfl) rfl
theorem dX2_passTerm_56 : decode cX2_passTerm 56 = .ok (.iconst 0, 1) := dk_3 (dw rcX2_passTerm_48 4 rfl)
theorem dX2_passTerm_57 : decode cX2_passTerm 57 = .ok (.ireturn, 1) := dk_172 (dw rcX2_passTerm_48 5 rfl)
theorem dX2_passTerm_58 : decode cX2_passTerm 58 = .ok (.aload_n 0, 1) := dk_42 (dw rcX2_passTerm_48 6 rfl)
theorem dX2_passTerm_59 : decode cX2_passTerm 59 = .ok (.getfield 15, 3) := dk_180 (dw rcX2_passTerm_48 7 rfl) rfl
theorem dX2_passTerm_62 : decode cX2_passTerm 62 = .ok (.iload_n 3, 1) := dk_29 (dw rcX2_passTerm_48 8 rfl)
theorem dX2_passTerm_63 : decode cX2_passTerm 63 = .ok (.iconst 0, 1) := dk_3 (dw rcX2_passTerm_48 9 rfl)
theorem dX2_passTerm_64 : decode cX2_passTerm 64 = .ok (.invokevirtual 39, 3) := dk_182 (dw rcX2_passTerm_48 10 rfl) rfl
theorem dX2_passTerm_67 : decode cX2_passTerm 67 = .ok (.iinc 2 1, 3) := dk_132 (dw rcX2_passTerm_48 11 rfl) rfl
theorem dX2_passTerm_70 : decode cX2_passTerm 70 = .ok (.goto (-58), 3) := dk_167 (dw rcX2_passTerm_48 12 rfl) rfl
theorem dX2_passTerm_73 : decode cX2_passTerm 73 = .ok (.iconst 1, 1) := dk_4 (dw rcX2_passTerm_48 13 rfl)
theorem dX2_passTerm_74 : decode cX2_passTerm 74 = .ok (.ireturn, 1) := dk_172 (dw rcX2_passTerm_48 14 rfl)
theorem dX2_passUnit_60 : decode cX2_passUnit 60 = .ok (.lookupswitch 154 #[(40, 100), (139, 131), (140, 131), (141, 131), (142, 131), (143, 131), (147, 131), (148, 131), (149, 131), (150, 131), (201, 106)], 100) := dq_of (by decide +kernel)
noncomputable def rbX2_passUnit_0 : List (Nat × List Nat) := [(0, [42]), (1, [180, 0, 19]), (4, [16, 30]), (6, [162, 0, 15]), (9, [42]), (10, [180, 0, 15]), (13, [180, 0, 66]), (16, [16, 90]), (18, [161, 0, 12]), (21, [42]), (22, [180, 0, 9]), (25, [5]), (26, [182, 0, 51]), (29, [172]), (30, [42]), (31, [89]), (32, [180, 0, 19]), (35, [4]), (36, [96]), (37, [181, 0, 19]), (40, [42]), (41, [180, 0, 15]), (44, [89]), (45, [180, 0, 66])]
theorem rcX2_passUnit_0 : dgo (lb cX2_passUnit) 0 rbX2_passUnit_0 = true := by decide +kernel
theorem dX2_passUnit_0 : decode cX2_passUnit 0 = .ok (.aload_n 0, 1) := dk_42 (dw rcX2_passUnit_0 0 rfl)
theorem dX2_passUnit_1 : decode cX2_passUnit 1 = .ok (.getfield 19, 3) := dk_180 (dw rcX2_passUnit_0 1 rfl) rfl
theorem dX2_passUnit_4 : decode cX2_passUnit 4 = .ok (.bipush 30, 2) := dk_16 (dw rcX2_passUnit_0 2 rfl) rfl
theorem dX2_passUnit_6 : decode cX2_passUnit 6 = .ok (.if_icmp .ge 15, 3) := dk_162 (dw rcX2_passUnit_0 3 rfl) rfl
theorem dX2_passUnit_9 : decode cX2_passUnit 9 = .ok (.aload_n 0, 1) := dk_42 (dw rcX2_passUnit_0 4 rfl)
theorem dX2_passUnit_10 : decode cX2_passUnit 10 = .ok (.getfield 15, 3) := dk_180 (dw rcX2_passUnit_0 5 rfl) rfl
theorem dX2_passUnit_13 : decode cX2_passUnit 13 = .ok (.getfield 66, 3) := dk_180 (dw rcX2_passUnit_0 6 rfl) rfl
theorem dX2_passUnit_16 : decode cX2_passUnit 16 = .ok (.bipush 90, 2) := dk_16 (dw rcX2_passUnit_0 7 rfl) rfl
theorem dX2_passUnit_18 : decode cX2_passUnit 18 = .ok (.if_icmp .lt 12, 3) := dk_161 (dw rcX2_passUnit_0 8 rfl) rfl
theorem dX2_passUnit_21 : decode cX2_passUnit 21 = .ok (.aload_n 0, 1) := dk_42 (dw rcX2_passUnit_0 9 rfl)
theorem dX2_passUnit_22 : decode cX2_passUnit 22 = .ok (.getfield 9, 3) := dk_180 (dw rcX2_passUnit_0 10 rfl) rfl
theorem dX2_passUnit_25 : decode cX2_passUnit 25 = .ok (.iconst 2, 1) := dk_5 (dw rcX2_passUnit_0 11 rfl)
theorem dX2_passUnit_26 : decode cX2_passUnit 26 = .ok (.invokevirtual 51, 3) := dk_182 (dw rcX2_passUnit_0 12 rfl) rfl
theorem dX2_passUnit_29 : decode cX2_passUnit 29 = .ok (.ireturn, 1) := dk_172 (dw rcX2_passUnit_0 13 rfl)
theorem dX2_passUnit_30 : decode cX2_passUnit 30 = .ok (.aload_n 0, 1) := dk_42 (dw rcX2_passUnit_0 14 rfl)
theorem dX2_passUnit_31 : decode cX2_passUnit 31 = .ok (.dup, 1) := dk_89 (dw rcX2_passUnit_0 15 rfl)
theorem dX2_passUnit_32 : decode cX2_passUnit 32 = .ok (.getfield 19, 3) := dk_180 (dw rcX2_passUnit_0 16 rfl) rfl
theorem dX2_passUnit_35 : decode cX2_passUnit 35 = .ok (.iconst 1, 1) := dk_4 (dw rcX2_passUnit_0 17 rfl)
theorem dX2_passUnit_36 : decode cX2_passUnit 36 = .ok (.iadd, 1) := dk_96 (dw rcX2_passUnit_0 18 rfl)
theorem dX2_passUnit_37 : decode cX2_passUnit 37 = .ok (.putfield 19, 3) := dk_181 (dw rcX2_passUnit_0 19 rfl) rfl
theorem dX2_passUnit_40 : decode cX2_passUnit 40 = .ok (.aload_n 0, 1) := dk_42 (dw rcX2_passUnit_0 20 rfl)
theorem dX2_passUnit_41 : decode cX2_passUnit 41 = .ok (.getfield 15, 3) := dk_180 (dw rcX2_passUnit_0 21 rfl) rfl
theorem dX2_passUnit_44 : decode cX2_passUnit 44 = .ok (.dup, 1) := dk_89 (dw rcX2_passUnit_0 22 rfl)
theorem dX2_passUnit_45 : decode cX2_passUnit 45 = .ok (.getfield 66, 3) := dk_180 (dw rcX2_passUnit_0 23 rfl) rfl
noncomputable def rbX2_passUnit_48 : List (Nat × List Nat) := [(48, [4]), (49, [96]), (50, [181, 0, 66]), (53, [42]), (54, [180, 0, 9]), (57, [180, 0, 30]), (160, [42]), (161, [27]), (162, [182, 0, 67]), (165, [172]), (166, [42]), (167, [180, 0, 15]), (170, [17, 0, 201]), (173, [42]), (174, [180, 0, 9]), (177, [180, 0, 70]), (180, [182, 0, 39]), (183, [42]), (184, [180, 0, 9]), (187, [182, 0, 35]), (190, [172]), (191, [42]), (192, [180, 0, 15]), (195, [42])]
theorem rcX2_passUnit_48 : dgo (lb cX2_passUnit) 0 rbX2_passUnit_48 = true := by decide +kernel
theorem dX2_passUnit_48 : decode cX2_passUnit 48 = .ok (.iconst 1, 1) := dk_4 (dw rcX2_passUnit_48 0 rfl)
theorem dX2_passUnit_49 : decode cX2_passUnit 49 = .ok (.iadd, 1) := dk_96 (dw rcX2_passUnit_48 1 rfl)
theorem dX2_passUnit_50 : decode cX2_passUnit 50 = .ok (.putfield 66, 3) := dk_181 (dw rcX2_passUnit_48 2 rfl) rfl
theorem dX2_passUnit_53 : decode cX2_passUnit 53 = .ok (.aload_n 0, 1) := dk_42 (dw rcX2_passUnit_48 3 rfl)
theorem dX2_passUnit_54 : decode cX2_passUnit 54 = .ok (.getfield 9, 3) := dk_180 (dw rcX2_passUnit_48 4 rfl) rfl
theorem dX2_passUnit_57 : decode cX2_passUnit 57 = .ok (.getfield 30, 3) := dk_180 (dw rcX2_passUnit_48 5 rfl) rfl
theorem dX2_passUnit_160 : decode cX2_passUnit 160 = .ok (.aload_n 0, 1) := dk_42 (dw rcX2_passUnit_48 6 rfl)
theorem dX2_passUnit_161 : decode cX2_passUnit 161 = .ok (.iload_n 1, 1) := dk_27 (dw rcX2_passUnit_48 7 rfl)
theorem dX2_passUnit_162 : decode cX2_passUnit 162 = .ok (.invokevirtual 67, 3) := dk_182 (dw rcX2_passUnit_48 8 rfl) rfl
theorem dX2_passUnit_165 : decode cX2_passUnit 165 = .ok (.ireturn, 1) := dk_172 (dw rcX2_passUnit_48 9 rfl)
theorem dX2_passUnit_166 : decode cX2_passUnit 166 = .ok (.aload_n 0, 1) := dk_42 (dw rcX2_passUnit_48 10 rfl)
theorem dX2_passUnit_167 : decode cX2_passUnit 167 = .ok (.getfield 15, 3) := dk_180 (dw rcX2_passUnit_48 11 rfl) rfl
theorem dX2_passUnit_170 : decode cX2_passUnit 170 = .ok (.sipush 201, 3) := dk_17 (dw rcX2_passUnit_48 12 rfl) rfl
theorem dX2_passUnit_173 : decode cX2_passUnit 173 = .ok (.aload_n 0, 1) := dk_42 (dw rcX2_passUnit_48 13 rfl)
theorem dX2_passUnit_174 : decode cX2_passUnit 174 = .ok (.getfield 9, 3) := dk_180 (dw rcX2_passUnit_48 14 rfl) rfl
theorem dX2_passUnit_177 : decode cX2_passUnit 177 = .ok (.getfield 70, 3) := dk_180 (dw rcX2_passUnit_48 15 rfl) rfl
theorem dX2_passUnit_180 : decode cX2_passUnit 180 = .ok (.invokevirtual 39, 3) := dk_182 (dw rcX2_passUnit_48 16 rfl) rfl
theorem dX2_passUnit_183 : decode cX2_passUnit 183 = .ok (.aload_n 0, 1) := dk_42 (dw rcX2_passUnit_48 17 rfl)
theorem dX2_passUnit_184 : decode cX2_passUnit 184 = .ok (.getfield 9, 3) := dk_180 (dw rcX2_passUnit_48 18 rfl) rfl
theorem dX2_passUnit_187 : decode cX2_passUnit 187 = .ok (.invokevirtual 35, 3) := dk_182 (dw rcX2_passUnit_48 19 rfl) rfl
theorem dX2_passUnit_190 : decode cX2_passUnit 190 = .ok (.ireturn, 1) := dk_172 (dw rcX2_passUnit_48 20 rfl)
theorem dX2_passUnit_191 : decode cX2_passUnit 191 = .ok (.aload_n 0, 1) := dk_42 (dw rcX2_passUnit_48 21 rfl)
theorem dX2_passUnit_192 : decode cX2_passUnit 192 = .ok (.getfield 15, 3) := dk_180 (dw rcX2_passUnit_48 22 rfl) rfl
theorem dX2_passUnit_195 : decode cX2_passUnit 195 = .ok (.aload_n 0, 1) := dk_42 (dw rcX2_passUnit_48 23 rfl)
noncomputable def rbX2_passUnit_196 : List (Nat × List Nat) := [(196, [180, 0, 9]), (199, [180, 0, 30]), (202, [3]), (203, [182, 0, 39]), (206, [42]), (207, [180, 0, 9]), (210, [182, 0, 35]), (213, [172]), (214, [42]), (215, [180, 0, 9]), (218, [5]), (219, [182, 0, 51]), (222, [172])]
theorem rcX2_passUnit_196 : dgo (lb cX2_passUnit) 0 rbX2_passUnit_196 = true := by decide +kernel
theorem dX2_passUnit_196 : decode cX2_passUnit 196 = .ok (.getfield 9, 3) := dk_180 (dw rcX2_passUnit_196 0 rfl) rfl
theorem dX2_passUnit_199 : decode cX2_passUnit 199 = .ok (.getfield 30, 3) := dk_180 (dw rcX2_passUnit_196 1 rfl) rfl
theorem dX2_passUnit_202 : decode cX2_passUnit 202 = .ok (.iconst 0, 1) := dk_3 (dw rcX2_passUnit_196 2 rfl)
theorem dX2_passUnit_203 : decode cX2_passUnit 203 = .ok (.invokevirtual 39, 3) := dk_182 (dw rcX2_passUnit_196 3 rfl) rfl
theorem dX2_passUnit_206 : decode cX2_passUnit 206 = .ok (.aload_n 0, 1) := dk_42 (dw rcX2_passUnit_196 4 rfl)
theorem dX2_passUnit_207 : decode cX2_passUnit 207 = .ok (.getfield 9, 3) := dk_180 (dw rcX2_passUnit_196 5 rfl) rfl
theorem dX2_passUnit_210 : decode cX2_passUnit 210 = .ok (.invokevirtual 35, 3) := dk_182 (dw rcX2_passUnit_196 6 rfl) rfl
theorem dX2_passUnit_213 : decode cX2_passUnit 213 = .ok (.ireturn, 1) := dk_172 (dw rcX2_passUnit_196 7 rfl)
theorem dX2_passUnit_214 : decode cX2_passUnit 214 = .ok (.aload_n 0, 1) := dk_42 (dw rcX2_passUnit_196 8 rfl)
theorem dX2_passUnit_215 : decode cX2_passUnit 215 = .ok (.getfield 9, 3) := dk_180 (dw rcX2_passUnit_196 9 rfl) rfl
theorem dX2_passUnit_218 : decode cX2_passUnit 218 = .ok (.iconst 2, 1) := dk_5 (dw rcX2_passUnit_196 10 rfl)
theorem dX2_passUnit_219 : decode cX2_passUnit 219 = .ok (.invokevirtual 51, 3) := dk_182 (dw rcX2_passUnit_196 11 rfl) rfl
theorem dX2_passUnit_222 : decode cX2_passUnit 222 = .ok (.ireturn, 1) := dk_172 (dw rcX2_passUnit_196 12 rfl)
set_option maxHeartbeats 4000000 in
set_option maxRecDepth 100000 in
theorem k_fBracket_1_s (l : Launch) (D : va_G) (k : KT) (A : Nat → Prop) (a : Nat → Nat) (z : SK) (fn ln n : Nat) (E O : XR) (hEb : ∀ (p0 : Int32) (G : GS) (r : Int32) (G1 : GS), E p0 G r G1 → Bd G1 ∧ Fr [17] [(1, 12), (1, 13), (3, 2), (3, 3), (3, 4), (3, 5), (3, 6), (3, 7), (3, 8), (4, 2)] G G1 ∧ (0 ≤ r.toInt ∧ r.toInt ≤ 1)) (hOb : ∀ (p0 : Int32) (G : GS) (r : Int32) (G1 : GS), O p0 G r G1 → Bd G1 ∧ Fr [17] [(1, 12), (1, 13), (3, 2), (3, 3), (3, 4), (3, 5), (3, 6), (3, 7), (3, 8), (4, 2)] G G1 ∧ (0 ≤ r.toInt ∧ r.toInt ≤ 1)) (hE : ∀ (G : GS) (p0 : Int32) (ha_p0 : 0 ≤ p0.toInt ∧ p0.toInt ≤ 7) (hv_4_1 : G.2.2 4 1 = 1) (hd : 8 ≤ p0.toInt + (n : Int)), Met l yX2_passEither (WS yX2_passEither cX2_passEither 3 (some .boolean)) ({ frames := fn + 2, cells := 0, slots := 0, locals := ln + 43 }) (va_Pc [.ref (a 4), .int p0] (cW D k A a z G)) (va_Qi (fun (r : Int32) (G1 : GS) => E p0 G r G1) (fun (G1 : GS) t => Wd D k A a G1 t.heap) A) 0 0 A) (hO : ∀ (G : GS) (p0 : Int32) (ha_p0 : 0 ≤ p0.toInt ∧ p0.toInt ≤ 7) (hv_4_1 : G.2.2 4 1 = 1) (hd : 8 ≤ p0.toInt + (n : Int)), Met l yX2_passOne (WS yX2_passOne cX2_passOne 2 (some .boolean)) ({ frames := fn + 0, cells := 0, slots := 0, locals := ln + 0 }) (va_Pc [.ref (a 4), .int p0] (cW D k A a z G)) (va_Qi (fun (r : Int32) (G1 : GS) => O p0 G r G1) (fun (G1 : GS) t => Wd D k A a G1 t.heap) A) 0 0 A) (G : GS) (p0 : Int32) (ha_p0 : 0 ≤ p0.toInt ∧ p0.toInt ≤ 7) (hv_4_1 : G.2.2 4 1 = 1) (hd : 8 ≤ p0.toInt + (n : Int) + 1) : Met l yX2_passBracket (WS yX2_passBracket cX2_passBracket 2 (some .boolean)) ({ frames := fn + 7, cells := 0, slots := 0, locals := ln + 148 }) (va_Pc [.ref (a 4), .int p0] (cW D k A a z G)) (va_Qi (fun (r : Int32) (G1 : GS) => P_fBracket_1_s E O p0 G r G1) (fun (G1 : GS) t => Wd D k A a G1 t.heap) A) 0 0 A := by
  refine Met.ofW (cc := cX2_passBracket) (maxL := 2) (ret := (some .boolean)) (by decide) rfl ?_
  intro p e s m args below meth c s₁ B hml hv
  obtain ⟨rfl, hW, hB_G, hK, hZ⟩ := hv
  have hx := B.exec
  have hb := B.bytes
  have hr := B.returns
  have hts := atoms_spec (ws := WS yX2_passBracket cX2_passBracket 2 (some .boolean)) B.pre
  have hgd : ∀ w ∈ gd, w ∈ WS yX2_passBracket cX2_passBracket 2 (some .boolean) := fun w h => List.mem_cons_of_mem _ h
  have hg : ∀ w ∈ gd, w.before _ s = true := fun w h => hts w (hgd w h)
  have hown : s.vm.findClass RX2 = some m.cls := findClass_of_methodNamed B.named
  have hS : va_S A s.heap s.heap [] := va_S.rf
  have hF : Fr [17] [(1, 12), (1, 13), (3, 2), (3, 3), (3, 4), (3, 5), (3, 6), (3, 7), (3, 8), (4, 2)] G G := Fr.rf
  have hl := lv_entry ([.ref (a 4), .int p0]) (n := 2) (Nat.le_of_ble_eq_true rfl)
  rw [lg_entry_eq]
  generalize (lg_sl ([.ref (a 4), .int p0]) ++ List.replicate (2 - (lg_sl ([.ref (a 4), .int p0])).length) Slot.unset).toArray = ls at hl ⊢
  have hl : lv_has ls 2 [(0, .ref (a 4)), (1, .int p0)] := hl
  refine lv_iload_n hx hb dX2_passBracket_0 rfl (lv_at hl 1 rfl) ?_
  refine lv_bipush (v := 6) hx hb dX2_passBracket_1 (by decide) ?_
  refine lv_icmp_le (tgt := 15) hx hb dX2_passBracket_3 rfl (fun c_1 => ?_) (fun c_1 => ?_)
  · have c_1 : p0.toInt ≤ 6 := xI_le rfl rfl c_1
    refine lv_aload_n hx hb dX2_passBracket_15 rfl (lv_at hl 0 rfl) ?_
    refine S_getR (n := 3) (C := RX2) (T := TX2) (N := 3) hx hb hg iX2 hown hK hW kd_4 rfl 0 (lt_b rfl) (hg (Cond.fieldLink RX2 9 "SlabWalk$Formulas" "tokens" "LSlabWalk$Tokens;") m301) (fun _ h9 => h9) rfl dX2_passBracket_16 ?_
    refine S_calli (va_runV (As := []) (rest := []) ⟨hx, hb, hml, hown, hts⟩ (k_tAdvance l D k A a z G  ) (cwV 0 hts (gd_V hgd m854 m639 m640 m120 m641) rfl rfl rfl hd_X9_advance ⟨show 6 + 1 ≤ fn + 7 from by omega, show 8 + (2 + 11) + (127) ≤ ln + 148 from by omega⟩) (pre_W hW hB_G hK hZ hS kd_3 rfl) rfl rfl hl.1 rfl (lv_room (Nat.le_of_ble_eq_true rfl)) dX2_passBracket_19 ⟨Nat.le_of_ble_eq_true rfl, Nat.le_of_ble_eq_true rfl⟩) hS (fun r_2 G_3 H locs hpo hW hS => ?_)
    have hX_6 : P_tAdvance G r_2 G_3 := hpo
    obtain ⟨hB_G_3, hq_4, f_7, -⟩ := hpo
    have hF := hF.call9 hq_4 rfl rfl
    refine lv_pop hx hb dX2_passBracket_22 rfl ?_
    refine lv_aload_n hx hb dX2_passBracket_23 rfl (lv_at hl 0 rfl) ?_
    refine lv_iload_n hx hb dX2_passBracket_24 rfl (lv_at hl 1 rfl) ?_
    refine ic_1 hx hb dX2_passBracket_25 ?_
    refine lv_iadd hx hb dX2_passBracket_26 ?_
    refine lv_topi (fun y_8 ey_8 => ?_)
    have ty_8 : y_8.toInt = p0.toInt + 1 := xI_add rfl rfl ey_8 (by omega) (by omega)
    refine S_calli (va_runV (As := [.int y_8]) (rest := []) ⟨hx, hb, hml, hown, hts⟩ (hE G_3 y_8 ⟨by omega, by omega⟩ (((hq_4.r9 4 1 rfl rfl)).trans (hv_4_1)) (by omega)) (cwV 1 hts (gd_V hgd m821 m823 m16 m121 m824) rfl rfl rfl hd_X2_passEither ⟨show fn + 2 + 1 ≤ fn + 7 from by omega, show 8 + (3 + 11) + (ln + 43) ≤ ln + 148 from by omega⟩) (pre_W hW hB_G_3 hK hZ hS kd_4 rfl) rfl rfl hl.1 rfl (lv_room (Nat.le_of_ble_eq_true rfl)) dX2_passBracket_27 ⟨Nat.le_of_ble_eq_true rfl, Nat.le_of_ble_eq_true rfl⟩) hS (fun r_9 G_10 H locs hpo hW hS => ?_)
    have hX_13 : E y_8 G_3 r_9 G_10 := hpo
    obtain ⟨hB_G_10, hq_11, f_14⟩ := hEb _ _ _ _ hpo
    have hF := hF.call9 hq_11 rfl rfl
    refine lv_if_ne (tgt := 35) hx hb dX2_passBracket_30 rfl (fun c_15 => ?_) (fun c_15 => ?_)
    · have c_15 : r_9.toInt ≠ 0 := xI_ne rfl rfl c_15
      refine lv_aload_n hx hb dX2_passBracket_35 rfl (lv_at hl 0 rfl) ?_
      refine S_getR (n := 3) (C := RX2) (T := TX2) (N := 3) hx hb hg iX2 hown hK hW kd_4 rfl 0 (lt_b rfl) (hg (Cond.fieldLink RX2 9 "SlabWalk$Formulas" "tokens" "LSlabWalk$Tokens;") m301) (fun _ h9 => h9) rfl dX2_passBracket_36 ?_
      refine S_getI (v := (G_10.1 3 3)) (C := RX9) (T := TX9) (N := 9) hx hb hg iX9 hown hK hW kd_3 rfl 3 (lt_b rfl) (hg (Cond.fieldLink RX2 30 "SlabWalk$Tokens" "kind" "I") m263) (fun _ h9 => h9) rfl rfl dX2_passBracket_39 ?_
      refine lv_bipush (v := 41) hx hb dX2_passBracket_42 (by decide) ?_
      refine lv_icmp_ne (tgt := 57) hx hb dX2_passBracket_44 rfl (fun c_16 => ?_) (fun c_16 => ?_)
      · have c_16 : (G_10.1 3 3).toInt ≠ 41 := xI_ne rfl rfl c_16
        refine lv_aload_n hx hb dX2_passBracket_57 rfl (lv_at hl 0 rfl) ?_
        refine S_getR (n := 3) (C := RX2) (T := TX2) (N := 3) hx hb hg iX2 hown hK hW kd_4 rfl 0 (lt_b rfl) (hg (Cond.fieldLink RX2 9 "SlabWalk$Formulas" "tokens" "LSlabWalk$Tokens;") m301) (fun _ h9 => h9) rfl dX2_passBracket_58 ?_
        refine ic_2 hx hb dX2_passBracket_61 ?_
        refine S_calli (va_runV (As := [.int 2]) (rest := []) ⟨hx, hb, hml, hown, hts⟩ (k_tRefuse l D k A a z G_10 2 ⟨by decide, by decide⟩) (cwV 1 hts (gd_V hgd m849 m779 m780 m120 m781) rfl rfl rfl hd_X9_refuse ⟨show 0 + 1 ≤ fn + 7 from by omega, show 8 + (2 + 11) + (0) ≤ ln + 148 from by omega⟩) (pre_W hW hB_G_10 hK hZ hS kd_3 rfl) rfl rfl hl.1 rfl (lv_room (Nat.le_of_ble_eq_true rfl)) dX2_passBracket_62 ⟨Nat.le_of_ble_eq_true rfl, Nat.le_of_ble_eq_true rfl⟩) hS (fun r_17 G_18 H locs hpo hW hS => ?_)
        have hX_21 : P_tRefuse 2 G_10 r_17 G_18 := hpo
        obtain ⟨hB_G_18, hq_19, f_22, -⟩ := hpo
        have hF := hF.call9 hq_19 rfl rfl
        exact W.zret (v := r_17) hx hb hr (nar_z ((by first | (clear ha_p0 hd c_1 f_7 ty_8 f_14 c_15 c_16; omega) | omega)) ((by first | (clear ha_p0 hd c_1 f_7 ty_8 f_14 c_15 c_16; omega) | omega))) (fun t ht _ => ⟨⟨r_17, G_18, rfl, (P_fBracket_1_s_mk ⟨hB_G_18, hF, ⟨(by first | (clear ha_p0 hd c_1 f_7 ty_8 f_14 c_15 c_16; omega) | omega), (by first | (clear ha_p0 hd c_1 f_7 ty_8 f_14 c_15 c_16; omega) | omega)⟩, (Or.inl ⟨c_1, ⟨r_2, G_3, hX_6, ⟨y_8, ty_8, ⟨r_9, G_10, hX_13, (Or.inr ⟨c_15, (Or.inr ⟨c_16, ⟨r_17, G_18, hX_21, ⟨rfl, rfl⟩⟩⟩)⟩)⟩⟩⟩⟩)⟩), wd_t ht hW⟩, hS.F ht⟩) hS.2.2 dX2_passBracket_65
      · have c_16 : (G_10.1 3 3).toInt = 41 := xI_eq rfl rfl c_16
        refine lv_aload_n hx hb dX2_passBracket_47 rfl (lv_at hl 0 rfl) ?_
        refine S_getR (n := 3) (C := RX2) (T := TX2) (N := 3) hx hb hg iX2 hown hK hW kd_4 rfl 0 (lt_b rfl) (hg (Cond.fieldLink RX2 9 "SlabWalk$Formulas" "tokens" "LSlabWalk$Tokens;") m301) (fun _ h9 => h9) rfl dX2_passBracket_48 ?_
        refine S_calli (va_runV (As := []) (rest := []) ⟨hx, hb, hml, hown, hts⟩ (k_tAdvance l D k A a z G_10  ) (cwV 0 hts (gd_V hgd m854 m639 m640 m120 m641) rfl rfl rfl hd_X9_advance ⟨show 6 + 1 ≤ fn + 7 from by omega, show 8 + (2 + 11) + (127) ≤ ln + 148 from by omega⟩) (pre_W hW hB_G_10 hK hZ hS kd_3 rfl) rfl rfl hl.1 rfl (lv_room (Nat.le_of_ble_eq_true rfl)) dX2_passBracket_51 ⟨Nat.le_of_ble_eq_true rfl, Nat.le_of_ble_eq_true rfl⟩) hS (fun r_23 G_24 H locs hpo hW hS => ?_)
        have hX_27 : P_tAdvance G_10 r_23 G_24 := hpo
        obtain ⟨hB_G_24, hq_25, f_28, -⟩ := hpo
        have hF := hF.call9 hq_25 rfl rfl
        refine lv_goto (tgt := 65) hx hb dX2_passBracket_54 rfl ?_
        exact W.zret (v := r_23) hx hb hr (nar_z ((by first | (clear ha_p0 hd c_1 f_7 ty_8 f_14 c_15 c_16; omega) | omega)) ((by first | (clear ha_p0 hd c_1 f_7 ty_8 f_14 c_15 c_16; omega) | omega))) (fun t ht _ => ⟨⟨r_23, G_24, rfl, (P_fBracket_1_s_mk ⟨hB_G_24, hF, ⟨(by first | (clear ha_p0 hd c_1 f_7 ty_8 f_14 c_15 c_16; omega) | omega), (by first | (clear ha_p0 hd c_1 f_7 ty_8 f_14 c_15 c_16; omega) | omega)⟩, (Or.inl ⟨c_1, ⟨r_2, G_3, hX_6, ⟨y_8, ty_8, ⟨r_9, G_10, hX_13, (Or.inr ⟨c_15, (Or.inl ⟨c_16, ⟨r_23, G_24, hX_27, ⟨rfl, rfl⟩⟩⟩)⟩)⟩⟩⟩⟩)⟩), wd_t ht hW⟩, hS.F ht⟩) hS.2.2 dX2_passBracket_65
    · have c_15 : r_9.toInt = 0 := xI_eq rfl rfl c_15
      refine ic_0 hx hb dX2_passBracket_33 ?_
      exact W.zret (v := 0) hx hb hr (by decide) (fun t ht _ => ⟨⟨0, G_10, rfl, (P_fBracket_1_s_mk ⟨hB_G_10, hF, ⟨by decide, by decide⟩, (Or.inl ⟨c_1, ⟨r_2, G_3, hX_6, ⟨y_8, ty_8, ⟨r_9, G_10, hX_13, (Or.inl ⟨c_15, ⟨rfl, rfl⟩⟩)⟩⟩⟩⟩)⟩), wd_t ht hW⟩, hS.F ht⟩) hS.2.2 dX2_passBracket_34
  · have c_1 : 6 < p0.toInt := xI_nle rfl rfl c_1
    refine lv_aload_n hx hb dX2_passBracket_6 rfl (lv_at hl 0 rfl) ?_
    refine S_getR (n := 3) (C := RX2) (T := TX2) (N := 3) hx hb hg iX2 hown hK hW kd_4 rfl 0 (lt_b rfl) (hg (Cond.fieldLink RX2 9 "SlabWalk$Formulas" "tokens" "LSlabWalk$Tokens;") m301) (fun _ h9 => h9) rfl dX2_passBracket_7 ?_
    refine ic_2 hx hb dX2_passBracket_10 ?_
    refine S_calli (va_runV (As := [.int 2]) (rest := []) ⟨hx, hb, hml, hown, hts⟩ (k_tRefuse l D k A a z G 2 ⟨by decide, by decide⟩) (cwV 1 hts (gd_V hgd m849 m779 m780 m120 m781) rfl rfl rfl hd_X9_refuse ⟨show 0 + 1 ≤ fn + 7 from by omega, show 8 + (2 + 11) + (0) ≤ ln + 148 from by omega⟩) (pre_W hW hB_G hK hZ hS kd_3 rfl) rfl rfl hl.1 rfl (lv_room (Nat.le_of_ble_eq_true rfl)) dX2_passBracket_11 ⟨Nat.le_of_ble_eq_true rfl, Nat.le_of_ble_eq_true rfl⟩) hS (fun r_29 G_30 H locs hpo hW hS => ?_)
    have hX_33 : P_tRefuse 2 G r_29 G_30 := hpo
    obtain ⟨hB_G_30, hq_31, f_34, -⟩ := hpo
    have hF := hF.call9 hq_31 rfl rfl
    exact W.zret (v := r_29) hx hb hr (nar_z ((by first | (clear ha_p0 hd c_1; omega) | omega)) ((by first | (clear ha_p0 hd c_1; omega) | omega))) (fun t ht _ => ⟨⟨r_29, G_30, rfl, (P_fBracket_1_s_mk ⟨hB_G_30, hF, ⟨(by first | (clear ha_p0 hd c_1; omega) | omega), (by first | (clear ha_p0 hd c_1; omega) | omega)⟩, (Or.inr ⟨c_1, ⟨r_29, G_30, hX_33, ⟨rfl, rfl⟩⟩⟩)⟩), wd_t ht hW⟩, hS.F ht⟩) hS.2.2 dX2_passBracket_14

set_option maxHeartbeats 4000000 in
set_option maxRecDepth 100000 in
theorem k_fUnit_1_s (l : Launch) (D : va_G) (k : KT) (A : Nat → Prop) (a : Nat → Nat) (z : SK) (fn ln n : Nat) (E O : XR) (hEb : ∀ (p0 : Int32) (G : GS) (r : Int32) (G1 : GS), E p0 G r G1 → Bd G1 ∧ Fr [17] [(1, 12), (1, 13), (3, 2), (3, 3), (3, 4), (3, 5), (3, 6), (3, 7), (3, 8), (4, 2)] G G1 ∧ (0 ≤ r.toInt ∧ r.toInt ≤ 1)) (hOb : ∀ (p0 : Int32) (G : GS) (r : Int32) (G1 : GS), O p0 G r G1 → Bd G1 ∧ Fr [17] [(1, 12), (1, 13), (3, 2), (3, 3), (3, 4), (3, 5), (3, 6), (3, 7), (3, 8), (4, 2)] G G1 ∧ (0 ≤ r.toInt ∧ r.toInt ≤ 1)) (hE : ∀ (G : GS) (p0 : Int32) (ha_p0 : 0 ≤ p0.toInt ∧ p0.toInt ≤ 7) (hv_4_1 : G.2.2 4 1 = 1) (hd : 8 ≤ p0.toInt + (n : Int)), Met l yX2_passEither (WS yX2_passEither cX2_passEither 3 (some .boolean)) ({ frames := fn + 2, cells := 0, slots := 0, locals := ln + 43 }) (va_Pc [.ref (a 4), .int p0] (cW D k A a z G)) (va_Qi (fun (r : Int32) (G1 : GS) => E p0 G r G1) (fun (G1 : GS) t => Wd D k A a G1 t.heap) A) 0 0 A) (hO : ∀ (G : GS) (p0 : Int32) (ha_p0 : 0 ≤ p0.toInt ∧ p0.toInt ≤ 7) (hv_4_1 : G.2.2 4 1 = 1) (hd : 8 ≤ p0.toInt + (n : Int)), Met l yX2_passOne (WS yX2_passOne cX2_passOne 2 (some .boolean)) ({ frames := fn + 0, cells := 0, slots := 0, locals := ln + 0 }) (va_Pc [.ref (a 4), .int p0] (cW D k A a z G)) (va_Qi (fun (r : Int32) (G1 : GS) => O p0 G r G1) (fun (G1 : GS) t => Wd D k A a G1 t.heap) A) 0 0 A) (G : GS) (p0 : Int32) (ha_p0 : 0 ≤ p0.toInt ∧ p0.toInt ≤ 7) (hv_4_1 : G.2.2 4 1 = 1) (hd : 8 ≤ p0.toInt + (n : Int) + 1) : Met l yX2_passUnit (WS yX2_passUnit cX2_passUnit 2 (some .boolean)) ({ frames := fn + 8, cells := 0, slots := 0, locals := ln + 169 }) (va_Pc [.ref (a 4), .int p0] (cW D k A a z G)) (va_Qi (fun (r : Int32) (G1 : GS) => P_fUnit_1_s E O p0 G r G1) (fun (G1 : GS) t => Wd D k A a G1 t.heap) A) 0 0 A := by
  refine Met.ofW (cc := cX2_passUnit) (maxL := 2) (ret := (some .boolean)) (by decide) rfl ?_
  intro p e s m args below meth c s₁ B hml hv
  obtain ⟨rfl, hW, hB_G, hK, hZ⟩ := hv
  have hx := B.exec
  have hb := B.bytes
  have hr := B.returns
  have hts := atoms_spec (ws := WS yX2_passUnit cX2_passUnit 2 (some .boolean)) B.pre
  have hgd : ∀ w ∈ gd, w ∈ WS yX2_passUnit cX2_passUnit 2 (some .boolean) := fun w h => List.mem_cons_of_mem _ h
  have hg : ∀ w ∈ gd, w.before _ s = true := fun w h => hts w (hgd w h)
  have hown : s.vm.findClass RX2 = some m.cls := findClass_of_methodNamed B.named
  have hS : va_S A s.heap s.heap [] := va_S.rf
  have hF : Fr [17] [(1, 12), (1, 13), (3, 2), (3, 3), (3, 4), (3, 5), (3, 6), (3, 7), (3, 8), (4, 2)] G G := Fr.rf
  have hl := lv_entry ([.ref (a 4), .int p0]) (n := 2) (Nat.le_of_ble_eq_true rfl)
  rw [lg_entry_eq]
  generalize (lg_sl ([.ref (a 4), .int p0]) ++ List.replicate (2 - (lg_sl ([.ref (a 4), .int p0])).length) Slot.unset).toArray = ls at hl ⊢
  have hl : lv_has ls 2 [(0, .ref (a 4)), (1, .int p0)] := hl
  refine lv_aload_n hx hb dX2_passUnit_0 rfl (lv_at hl 0 rfl) ?_
  have b_1 : 0 ≤ (G.1 4 2).toInt ∧ (G.1 4 2).toInt ≤ 30 := bd_4_2 hB_G
  refine S_getI (v := (G.1 4 2)) (C := RX2) (T := TX2) (N := 3) hx hb hg iX2 hown hK hW kd_4 rfl 2 (lt_b rfl) (hg (Cond.fieldLink RX2 19 "SlabWalk$Formulas" "units" "I") m303) (fun _ h9 => h9) rfl rfl dX2_passUnit_1 ?_
  refine lv_bipush (v := 30) hx hb dX2_passUnit_4 (by decide) ?_
  refine lv_icmp_ge (tgt := 21) hx hb dX2_passUnit_6 rfl (fun c_2 => ?_) (fun c_2 => ?_)
  · have c_2 : 30 ≤ (G.1 4 2).toInt := xI_le rfl rfl c_2
    refine lv_aload_n hx hb dX2_passUnit_21 rfl (lv_at hl 0 rfl) ?_
    refine S_getR (n := 3) (C := RX2) (T := TX2) (N := 3) hx hb hg iX2 hown hK hW kd_4 rfl 0 (lt_b rfl) (hg (Cond.fieldLink RX2 9 "SlabWalk$Formulas" "tokens" "LSlabWalk$Tokens;") m301) (fun _ h9 => h9) rfl dX2_passUnit_22 ?_
    refine ic_2 hx hb dX2_passUnit_25 ?_
    refine S_calli (va_runV (As := [.int 2]) (rest := []) ⟨hx, hb, hml, hown, hts⟩ (k_tRefuse l D k A a z G 2 ⟨by decide, by decide⟩) (cwV 1 hts (gd_V hgd m849 m779 m780 m120 m781) rfl rfl rfl hd_X9_refuse ⟨show 0 + 1 ≤ fn + 8 from by omega, show 8 + (2 + 11) + (0) ≤ ln + 169 from by omega⟩) (pre_W hW hB_G hK hZ hS kd_3 rfl) rfl rfl hl.1 rfl (lv_room (Nat.le_of_ble_eq_true rfl)) dX2_passUnit_26 ⟨Nat.le_of_ble_eq_true rfl, Nat.le_of_ble_eq_true rfl⟩) hS (fun r_3 G_4 H locs hpo hW hS => ?_)
    have hX_7 : P_tRefuse 2 G r_3 G_4 := hpo
    obtain ⟨hB_G_4, hq_5, f_8, -⟩ := hpo
    have hF := hF.call9 hq_5 rfl rfl
    exact W.zret (v := r_3) hx hb hr (nar_z ((by first | (clear ha_p0 hd b_1 c_2; omega) | omega)) ((by first | (clear ha_p0 hd b_1 c_2; omega) | omega))) (fun t ht _ => ⟨⟨r_3, G_4, rfl, (P_fUnit_1_s_mk ⟨hB_G_4, hF, ⟨(by first | (clear ha_p0 hd b_1 c_2; omega) | omega), (by first | (clear ha_p0 hd b_1 c_2; omega) | omega)⟩, (Or.inl ⟨c_2, ⟨r_3, G_4, hX_7, ⟨rfl, rfl⟩⟩⟩)⟩), wd_t ht hW⟩, hS.F ht⟩) hS.2.2 dX2_passUnit_29
  · have c_2 : (G.1 4 2).toInt < 30 := xI_nle rfl rfl c_2
    refine lv_aload_n hx hb dX2_passUnit_9 rfl (lv_at hl 0 rfl) ?_
    refine S_getV (n := 1) (C := RX2) (T := TX2) (N := 3) hx hb hg iX2 hown hK hW kd_4 rfl 1 (lt_b rfl) (hg (Cond.fieldLink RX2 15 "SlabWalk$Formulas" "paving" "LSlabWalk$Paving;") m302) (fun _ h9 => h9) rfl hv_4_1 dX2_passUnit_10 ?_
    have b_9 : 0 ≤ (G.1 1 12).toInt ∧ (G.1 1 12).toInt ≤ 90 := bd_1_12 hB_G
    refine S_getI (v := (G.1 1 12)) (C := RX6) (T := TX6) (N := 17) hx hb hg iX6 hown hK hW kd_1 rfl 12 (lt_b rfl) (hg (Cond.fieldLink RX2 66 "SlabWalk$Paving" "units" "I") m197) (fun _ h9 => h9) rfl rfl dX2_passUnit_13 ?_
    refine lv_bipush (v := 90) hx hb dX2_passUnit_16 (by decide) ?_
    refine lv_icmp_lt (tgt := 30) hx hb dX2_passUnit_18 rfl (fun c_10 => ?_) (fun c_10 => ?_)
    · have c_10 : (G.1 1 12).toInt < 90 := xI_lt rfl rfl c_10
      refine lv_aload_n hx hb dX2_passUnit_30 rfl (lv_at hl 0 rfl) ?_
      refine lv_dup hx hb dX2_passUnit_31 rfl ?_
      refine S_getI (v := (G.1 4 2)) (C := RX2) (T := TX2) (N := 3) hx hb hg iX2 hown hK hW kd_4 rfl 2 (lt_b rfl) (hg (Cond.fieldLink RX2 19 "SlabWalk$Formulas" "units" "I") m303) (fun _ h9 => h9) rfl rfl dX2_passUnit_32 ?_
      refine ic_1 hx hb dX2_passUnit_35 ?_
      refine lv_iadd hx hb dX2_passUnit_36 ?_
      refine lv_topi (fun y_11 ey_11 => ?_)
      have ty_11 : y_11.toInt = (G.1 4 2).toInt + 1 := xI_add rfl rfl ey_11 ((by first | (clear ha_p0 hd b_9 c_10; omega) | omega)) ((by first | (clear ha_p0 hd b_9 c_10; omega) | omega))
      refine S_putI (ty := .int) (C := RX2) (T := TX2) (N := 3) hx hb hg iX2 tyX2 tyX2_ok nmX2 hown hK hW hS kd_4 rfl 2 (lt_b rfl) (hg (Cond.fieldLink RX2 19 "SlabWalk$Formulas" "units" "I") m303) (fun _ h9 => h9) rfl (by decide +kernel) rfl rfl rfl dX2_passUnit_37 (fun G_12 H locs eG_12 hW hS => ?_)
      have hB_G_12 : Bd G_12 := hB_G.put (V := y_11.toInt) (lo := 0) (hi := 30) eG_12 rfl rfl rfl ((by first | (clear ha_p0 hd b_9 c_10; omega) | omega)) ((by first | (clear ha_p0 hd b_9 c_10; omega) | omega)) (hB_G.2.put eG_12 rfl)
      have hF := hF.put eG_12 (Or.inr (by decide))
      refine lv_aload_n hx hb dX2_passUnit_40 rfl (lv_at hl 0 rfl) ?_
      refine S_getV (n := 1) (C := RX2) (T := TX2) (N := 3) hx hb hg iX2 hown hK hW kd_4 rfl 1 (lt_b rfl) (hg (Cond.fieldLink RX2 15 "SlabWalk$Formulas" "paving" "LSlabWalk$Paving;") m302) (fun _ h9 => h9) rfl (((congrFun (congrFun (congrArg (fun q => q.2.2) eG_12) 4) 1)).trans (hv_4_1)) dX2_passUnit_41 ?_
      refine lv_dup hx hb dX2_passUnit_44 rfl ?_
      refine S_getI (v := (G.1 1 12)) (C := RX6) (T := TX6) (N := 17) hx hb hg iX6 hown hK hW kd_1 rfl 12 (lt_b rfl) (hg (Cond.fieldLink RX2 66 "SlabWalk$Paving" "units" "I") m197) (fun _ h9 => h9) rfl ((gp_ne eG_12 (by decide)).trans (rfl)) dX2_passUnit_45 ?_
      refine ic_1 hx hb dX2_passUnit_48 ?_
      refine lv_iadd hx hb dX2_passUnit_49 ?_
      refine lv_topi (fun y_13 ey_13 => ?_)
      have ty_13 : y_13.toInt = (G.1 1 12).toInt + 1 := xI_add rfl rfl ey_13 ((by first | (clear ha_p0 hd b_1 c_2 ty_11; omega) | omega)) ((by first | (clear ha_p0 hd b_1 c_2 ty_11; omega) | omega))
      refine S_putI (ty := .int) (C := RX6) (T := TX6) (N := 17) hx hb hg iX6 tyX6 tyX6_ok nmX6 hown hK hW hS kd_1 rfl 12 (lt_b rfl) (hg (Cond.fieldLink RX2 66 "SlabWalk$Paving" "units" "I") m197) (fun _ h9 => h9) rfl (by decide +kernel) rfl rfl rfl dX2_passUnit_50 (fun G_14 H locs eG_14 hW hS => ?_)
      have hB_G_14 : Bd G_14 := hB_G_12.put (V := y_13.toInt) (lo := 0) (hi := 90) eG_14 rfl rfl rfl ((by first | (clear ha_p0 hd b_1 c_2 ty_11; omega) | omega)) ((by first | (clear ha_p0 hd b_1 c_2 ty_11; omega) | omega)) (hB_G_12.2.put eG_14 rfl)
      have hF := hF.put eG_14 (Or.inr (by decide))
      refine lv_aload_n hx hb dX2_passUnit_53 rfl (lv_at hl 0 rfl) ?_
      refine S_getR (n := 3) (C := RX2) (T := TX2) (N := 3) hx hb hg iX2 hown hK hW kd_4 rfl 0 (lt_b rfl) (hg (Cond.fieldLink RX2 9 "SlabWalk$Formulas" "tokens" "LSlabWalk$Tokens;") m301) (fun _ h9 => h9) rfl dX2_passUnit_54 ?_
      refine S_getI (v := (G.1 3 3)) (C := RX9) (T := TX9) (N := 9) hx hb hg iX9 hown hK hW kd_3 rfl 3 (lt_b rfl) (hg (Cond.fieldLink RX2 30 "SlabWalk$Tokens" "kind" "I") m263) (fun _ h9 => h9) rfl ((gp_ne eG_14 (by decide)).trans (gp_ne eG_12 (by decide))) dX2_passUnit_57 ?_
      by_cases c_15 : (G.1 3 3) = 40
      · refine lv_lookup (tgt := 160) hx hb dX2_passUnit_60 (by decide) (off := 100) (by rw [c_15]; decide) (by decide) ?_
        have c_15 : (G.1 3 3).toInt = 40 := xI_eq rfl rfl c_15
        refine lv_aload_n hx hb dX2_passUnit_160 rfl (lv_at hl 0 rfl) ?_
        refine lv_iload_n hx hb dX2_passUnit_161 rfl (lv_at hl 1 rfl) ?_
        refine S_calli (va_runV (As := [.int p0]) (rest := []) ⟨hx, hb, hml, hown, hts⟩ (k_fBracket_1_s l D k A a z fn ln n E O hEb hOb hE hO G_14 p0 ⟨(by first | (clear b_1 c_2 b_9 c_10 ty_11 ty_13 c_15; omega) | omega), (by first | (clear b_1 c_2 b_9 c_10 ty_11 ty_13 c_15; omega) | omega)⟩ ((((congrFun (congrFun (congrArg (fun q => q.2.2) eG_14) 4) 1).trans (congrFun (congrFun (congrArg (fun q => q.2.2) eG_12) 4) 1))).trans (hv_4_1)) ((by first | (clear b_1 c_2 b_9 c_10 ty_11 ty_13 c_15; omega) | omega))) (cwV 1 hts (gd_V hgd m850 m852 m23 m121 m853) rfl rfl rfl hd_X2_passBracket ⟨show fn + 7 + 1 ≤ fn + 8 from by omega, show 8 + (2 + 11) + (ln + 148) ≤ ln + 169 from by omega⟩) (pre_W hW hB_G_14 hK hZ hS kd_4 rfl) rfl rfl hl.1 rfl (lv_room (Nat.le_of_ble_eq_true rfl)) dX2_passUnit_162 ⟨Nat.le_of_ble_eq_true rfl, Nat.le_of_ble_eq_true rfl⟩) hS (fun r_16 G_17 H locs hpo hW hS => ?_)
        have hX_20 : P_fBracket_1_s E O p0 G_14 r_16 G_17 := hpo
        obtain ⟨hB_G_17, hq_18, f_21, -⟩ := hpo
        have hF := hF.call9 hq_18 rfl rfl
        exact W.zret (v := r_16) hx hb hr (nar_z ((by first | (clear ha_p0 hd b_1 c_2 b_9 c_10 ty_11 ty_13 c_15; omega) | omega)) ((by first | (clear ha_p0 hd b_1 c_2 b_9 c_10 ty_11 ty_13 c_15; omega) | omega))) (fun t ht _ => ⟨⟨r_16, G_17, rfl, (P_fUnit_1_s_mk ⟨hB_G_17, hF, ⟨(by first | (clear ha_p0 hd b_1 c_2 b_9 c_10 ty_11 ty_13 c_15; omega) | omega), (by first | (clear ha_p0 hd b_1 c_2 b_9 c_10 ty_11 ty_13 c_15; omega) | omega)⟩, (Or.inr ⟨c_2, (Or.inl ⟨c_10, ⟨y_11, ty_11, ⟨y_13, ty_13, (Or.inl ⟨c_15, ⟨G_14, hB_G_14, (Fr.put (rs := []) (fs := [(1, 12), (4, 2)]) (Fr.put (rs := []) (fs := [(1, 12), (4, 2)]) Fr.rf eG_12 (Or.inr (by decide))) eG_14 (Or.inr (by decide))), (gp_eq eG_14), ((gp_ne eG_14 (by decide)).trans (gp_eq eG_12)), ⟨r_16, G_17, hX_20, ⟨rfl, rfl⟩⟩⟩⟩)⟩⟩⟩)⟩)⟩), wd_t ht hW⟩, hS.F ht⟩) hS.2.2 dX2_passUnit_165
      by_cases c_22 : (G.1 3 3) = 139
      · refine lv_lookup (tgt := 191) hx hb dX2_passUnit_60 (by decide) (off := 131) (by rw [c_22]; decide) (by decide) ?_
        have c_22 : (G.1 3 3).toInt = 139 := xI_eq rfl rfl c_22
        refine lv_aload_n hx hb dX2_passUnit_191 rfl (lv_at hl 0 rfl) ?_
        refine S_getV (n := 1) (C := RX2) (T := TX2) (N := 3) hx hb hg iX2 hown hK hW kd_4 rfl 1 (lt_b rfl) (hg (Cond.fieldLink RX2 15 "SlabWalk$Formulas" "paving" "LSlabWalk$Paving;") m302) (fun _ h9 => h9) rfl ((((congrFun (congrFun (congrArg (fun q => q.2.2) eG_14) 4) 1).trans (congrFun (congrFun (congrArg (fun q => q.2.2) eG_12) 4) 1))).trans (hv_4_1)) dX2_passUnit_192 ?_
        refine lv_aload_n hx hb dX2_passUnit_195 rfl (lv_at hl 0 rfl) ?_
        refine S_getR (n := 3) (C := RX2) (T := TX2) (N := 3) hx hb hg iX2 hown hK hW kd_4 rfl 0 (lt_b rfl) (hg (Cond.fieldLink RX2 9 "SlabWalk$Formulas" "tokens" "LSlabWalk$Tokens;") m301) (fun _ h9 => h9) rfl dX2_passUnit_196 ?_
        refine S_getI (v := (G.1 3 3)) (C := RX9) (T := TX9) (N := 9) hx hb hg iX9 hown hK hW kd_3 rfl 3 (lt_b rfl) (hg (Cond.fieldLink RX2 30 "SlabWalk$Tokens" "kind" "I") m263) (fun _ h9 => h9) rfl ((gp_ne eG_14 (by decide)).trans ((gp_ne eG_12 (by decide)).trans (rfl))) dX2_passUnit_199 ?_
        refine ic_0 hx hb dX2_passUnit_202 ?_
        refine S_callv (va_runV (As := [.int (G.1 3 3), .int 0]) (rest := []) ⟨hx, hb, hml, hown, hts⟩ (k_emit_1 l D k A a z G_14 (G.1 3 3) 0 ) (cwV 2 hts (gd_V hgd m855 m856 m857 m118 m858) rfl rfl rfl hd_X6_emit ⟨show 0 + 1 ≤ fn + 8 from by omega, show 8 + (3 + 11) + (0) ≤ ln + 169 from by omega⟩) (pre_W hW hB_G_14 hK hZ hS kd_1 rfl) rfl rfl hl.1 rfl (lv_room (Nat.le_of_ble_eq_true rfl)) dX2_passUnit_203 ⟨Nat.le_of_ble_eq_true rfl, Nat.le_of_ble_eq_true rfl⟩) hS (fun G_24 H locs hpo hW hS => ?_)
        have hX_27 : P_emit_1 (G.1 3 3) 0 G_14 G_24 := hpo
        obtain ⟨hB_G_24, hq_25, -⟩ := hpo
        have hF := hF.call9 hq_25 rfl rfl
        refine lv_aload_n hx hb dX2_passUnit_206 rfl (lv_at hl 0 rfl) ?_
        refine S_getR (n := 3) (C := RX2) (T := TX2) (N := 3) hx hb hg iX2 hown hK hW kd_4 rfl 0 (lt_b rfl) (hg (Cond.fieldLink RX2 9 "SlabWalk$Formulas" "tokens" "LSlabWalk$Tokens;") m301) (fun _ h9 => h9) rfl dX2_passUnit_207 ?_
        refine S_calli (va_runV (As := []) (rest := []) ⟨hx, hb, hml, hown, hts⟩ (k_tAdvance l D k A a z G_24  ) (cwV 0 hts (gd_V hgd m854 m639 m640 m120 m641) rfl rfl rfl hd_X9_advance ⟨show 6 + 1 ≤ fn + 8 from by omega, show 8 + (2 + 11) + (127) ≤ ln + 169 from by omega⟩) (pre_W hW hB_G_24 hK hZ hS kd_3 rfl) rfl rfl hl.1 rfl (lv_room (Nat.le_of_ble_eq_true rfl)) dX2_passUnit_210 ⟨Nat.le_of_ble_eq_true rfl, Nat.le_of_ble_eq_true rfl⟩) hS (fun r_28 G_29 H locs hpo hW hS => ?_)
        have hX_32 : P_tAdvance G_24 r_28 G_29 := hpo
        obtain ⟨hB_G_29, hq_30, f_33, -⟩ := hpo
        have hF := hF.call9 hq_30 rfl rfl
        exact W.zret (v := r_28) hx hb hr (nar_z ((by first | (clear ha_p0 hd b_1 c_2 b_9 c_10 ty_11 ty_13 c_22; omega) | omega)) ((by first | (clear ha_p0 hd b_1 c_2 b_9 c_10 ty_11 ty_13 c_22; omega) | omega))) (fun t ht _ => ⟨⟨r_28, G_29, rfl, (P_fUnit_1_s_mk ⟨hB_G_29, hF, ⟨(by first | (clear ha_p0 hd b_1 c_2 b_9 c_10 ty_11 ty_13 c_22; omega) | omega), (by first | (clear ha_p0 hd b_1 c_2 b_9 c_10 ty_11 ty_13 c_22; omega) | omega)⟩, (Or.inr ⟨c_2, (Or.inl ⟨c_10, ⟨y_11, ty_11, ⟨y_13, ty_13, (Or.inr ⟨(xI_ne (Y := 40) rfl rfl c_15), (Or.inl ⟨c_22, ⟨G_14, hB_G_14, (Fr.put (rs := []) (fs := [(1, 12), (4, 2)]) (Fr.put (rs := []) (fs := [(1, 12), (4, 2)]) Fr.rf eG_12 (Or.inr (by decide))) eG_14 (Or.inr (by decide))), (gp_eq eG_14), ((gp_ne eG_14 (by decide)).trans (gp_eq eG_12)), ⟨G_24, hX_27, ⟨r_28, G_29, hX_32, ⟨rfl, rfl⟩⟩⟩⟩⟩)⟩)⟩⟩⟩)⟩)⟩), wd_t ht hW⟩, hS.F ht⟩) hS.2.2 dX2_passUnit_213
      by_cases c_34 : (G.1 3 3) = 140
      · refine lv_lookup (tgt := 191) hx hb dX2_passUnit_60 (by decide) (off := 131) (by rw [c_34]; decide) (by decide) ?_
        have c_34 : (G.1 3 3).toInt = 140 := xI_eq rfl rfl c_34
        refine lv_aload_n hx hb dX2_passUnit_191 rfl (lv_at hl 0 rfl) ?_
        refine S_getV (n := 1) (C := RX2) (T := TX2) (N := 3) hx hb hg iX2 hown hK hW kd_4 rfl 1 (lt_b rfl) (hg (Cond.fieldLink RX2 15 "SlabWalk$Formulas" "paving" "LSlabWalk$Paving;") m302) (fun _ h9 => h9) rfl ((((congrFun (congrFun (congrArg (fun q => q.2.2) eG_14) 4) 1).trans (congrFun (congrFun (congrArg (fun q => q.2.2) eG_12) 4) 1))).trans (hv_4_1)) dX2_passUnit_192 ?_
        refine lv_aload_n hx hb dX2_passUnit_195 rfl (lv_at hl 0 rfl) ?_
        refine S_getR (n := 3) (C := RX2) (T := TX2) (N := 3) hx hb hg iX2 hown hK hW kd_4 rfl 0 (lt_b rfl) (hg (Cond.fieldLink RX2 9 "SlabWalk$Formulas" "tokens" "LSlabWalk$Tokens;") m301) (fun _ h9 => h9) rfl dX2_passUnit_196 ?_
        refine S_getI (v := (G.1 3 3)) (C := RX9) (T := TX9) (N := 9) hx hb hg iX9 hown hK hW kd_3 rfl 3 (lt_b rfl) (hg (Cond.fieldLink RX2 30 "SlabWalk$Tokens" "kind" "I") m263) (fun _ h9 => h9) rfl ((gp_ne eG_14 (by decide)).trans ((gp_ne eG_12 (by decide)).trans (rfl))) dX2_passUnit_199 ?_
        refine ic_0 hx hb dX2_passUnit_202 ?_
        refine S_callv (va_runV (As := [.int (G.1 3 3), .int 0]) (rest := []) ⟨hx, hb, hml, hown, hts⟩ (k_emit_1 l D k A a z G_14 (G.1 3 3) 0 ) (cwV 2 hts (gd_V hgd m855 m856 m857 m118 m858) rfl rfl rfl hd_X6_emit ⟨show 0 + 1 ≤ fn + 8 from by omega, show 8 + (3 + 11) + (0) ≤ ln + 169 from by omega⟩) (pre_W hW hB_G_14 hK hZ hS kd_1 rfl) rfl rfl hl.1 rfl (lv_room (Nat.le_of_ble_eq_true rfl)) dX2_passUnit_203 ⟨Nat.le_of_ble_eq_true rfl, Nat.le_of_ble_eq_true rfl⟩) hS (fun G_36 H locs hpo hW hS => ?_)
        have hX_39 : P_emit_1 (G.1 3 3) 0 G_14 G_36 := hpo
        obtain ⟨hB_G_36, hq_37, -⟩ := hpo
        have hF := hF.call9 hq_37 rfl rfl
        refine lv_aload_n hx hb dX2_passUnit_206 rfl (lv_at hl 0 rfl) ?_
        refine S_getR (n := 3) (C := RX2) (T := TX2) (N := 3) hx hb hg iX2 hown hK hW kd_4 rfl 0 (lt_b rfl) (hg (Cond.fieldLink RX2 9 "SlabWalk$Formulas" "tokens" "LSlabWalk$Tokens;") m301) (fun _ h9 => h9) rfl dX2_passUnit_207 ?_
        refine S_calli (va_runV (As := []) (rest := []) ⟨hx, hb, hml, hown, hts⟩ (k_tAdvance l D k A a z G_36  ) (cwV 0 hts (gd_V hgd m854 m639 m640 m120 m641) rfl rfl rfl hd_X9_advance ⟨show 6 + 1 ≤ fn + 8 from by omega, show 8 + (2 + 11) + (127) ≤ ln + 169 from by omega⟩) (pre_W hW hB_G_36 hK hZ hS kd_3 rfl) rfl rfl hl.1 rfl (lv_room (Nat.le_of_ble_eq_true rfl)) dX2_passUnit_210 ⟨Nat.le_of_ble_eq_true rfl, Nat.le_of_ble_eq_true rfl⟩) hS (fun r_40 G_41 H locs hpo hW hS => ?_)
        have hX_44 : P_tAdvance G_36 r_40 G_41 := hpo
        obtain ⟨hB_G_41, hq_42, f_45, -⟩ := hpo
        have hF := hF.call9 hq_42 rfl rfl
        exact W.zret (v := r_40) hx hb hr (nar_z ((by first | (clear ha_p0 hd b_1 c_2 b_9 c_10 ty_11 ty_13 c_34; omega) | omega)) ((by first | (clear ha_p0 hd b_1 c_2 b_9 c_10 ty_11 ty_13 c_34; omega) | omega))) (fun t ht _ => ⟨⟨r_40, G_41, rfl, (P_fUnit_1_s_mk ⟨hB_G_41, hF, ⟨(by first | (clear ha_p0 hd b_1 c_2 b_9 c_10 ty_11 ty_13 c_34; omega) | omega), (by first | (clear ha_p0 hd b_1 c_2 b_9 c_10 ty_11 ty_13 c_34; omega) | omega)⟩, (Or.inr ⟨c_2, (Or.inl ⟨c_10, ⟨y_11, ty_11, ⟨y_13, ty_13, (Or.inr ⟨(xI_ne (Y := 40) rfl rfl c_15), (Or.inr ⟨(xI_ne (Y := 139) rfl rfl c_22), (Or.inl ⟨c_34, ⟨G_14, hB_G_14, (Fr.put (rs := []) (fs := [(1, 12), (4, 2)]) (Fr.put (rs := []) (fs := [(1, 12), (4, 2)]) Fr.rf eG_12 (Or.inr (by decide))) eG_14 (Or.inr (by decide))), (gp_eq eG_14), ((gp_ne eG_14 (by decide)).trans (gp_eq eG_12)), ⟨G_36, hX_39, ⟨r_40, G_41, hX_44, ⟨rfl, rfl⟩⟩⟩⟩⟩)⟩)⟩)⟩⟩⟩)⟩)⟩), wd_t ht hW⟩, hS.F ht⟩) hS.2.2 dX2_passUnit_213
      by_cases c_46 : (G.1 3 3) = 141
      · refine lv_lookup (tgt := 191) hx hb dX2_passUnit_60 (by decide) (off := 131) (by rw [c_46]; decide) (by decide) ?_
        have c_46 : (G.1 3 3).toInt = 141 := xI_eq rfl rfl c_46
        refine lv_aload_n hx hb dX2_passUnit_191 rfl (lv_at hl 0 rfl) ?_
        refine S_getV (n := 1) (C := RX2) (T := TX2) (N := 3) hx hb hg iX2 hown hK hW kd_4 rfl 1 (lt_b rfl) (hg (Cond.fieldLink RX2 15 "SlabWalk$Formulas" "paving" "LSlabWalk$Paving;") m302) (fun _ h9 => h9) rfl ((((congrFun (congrFun (congrArg (fun q => q.2.2) eG_14) 4) 1).trans (congrFun (congrFun (congrArg (fun q => q.2.2) eG_12) 4) 1))).trans (hv_4_1)) dX2_passUnit_192 ?_
        refine lv_aload_n hx hb dX2_passUnit_195 rfl (lv_at hl 0 rfl) ?_
        refine S_getR (n := 3) (C := RX2) (T := TX2) (N := 3) hx hb hg iX2 hown hK hW kd_4 rfl 0 (lt_b rfl) (hg (Cond.fieldLink RX2 9 "SlabWalk$Formulas" "tokens" "LSlabWalk$Tokens;") m301) (fun _ h9 => h9) rfl dX2_passUnit_196 ?_
        refine S_getI (v := (G.1 3 3)) (C := RX9) (T := TX9) (N := 9) hx hb hg iX9 hown hK hW kd_3 rfl 3 (lt_b rfl) (hg (Cond.fieldLink RX2 30 "SlabWalk$Tokens" "kind" "I") m263) (fun _ h9 => h9) rfl ((gp_ne eG_14 (by decide)).trans ((gp_ne eG_12 (by decide)).trans (rfl))) dX2_passUnit_199 ?_
        refine ic_0 hx hb dX2_passUnit_202 ?_
        refine S_callv (va_runV (As := [.int (G.1 3 3), .int 0]) (rest := []) ⟨hx, hb, hml, hown, hts⟩ (k_emit_1 l D k A a z G_14 (G.1 3 3) 0 ) (cwV 2 hts (gd_V hgd m855 m856 m857 m118 m858) rfl rfl rfl hd_X6_emit ⟨show 0 + 1 ≤ fn + 8 from by omega, show 8 + (3 + 11) + (0) ≤ ln + 169 from by omega⟩) (pre_W hW hB_G_14 hK hZ hS kd_1 rfl) rfl rfl hl.1 rfl (lv_room (Nat.le_of_ble_eq_true rfl)) dX2_passUnit_203 ⟨Nat.le_of_ble_eq_true rfl, Nat.le_of_ble_eq_true rfl⟩) hS (fun G_48 H locs hpo hW hS => ?_)
        have hX_51 : P_emit_1 (G.1 3 3) 0 G_14 G_48 := hpo
        obtain ⟨hB_G_48, hq_49, -⟩ := hpo
        have hF := hF.call9 hq_49 rfl rfl
        refine lv_aload_n hx hb dX2_passUnit_206 rfl (lv_at hl 0 rfl) ?_
        refine S_getR (n := 3) (C := RX2) (T := TX2) (N := 3) hx hb hg iX2 hown hK hW kd_4 rfl 0 (lt_b rfl) (hg (Cond.fieldLink RX2 9 "SlabWalk$Formulas" "tokens" "LSlabWalk$Tokens;") m301) (fun _ h9 => h9) rfl dX2_passUnit_207 ?_
        refine S_calli (va_runV (As := []) (rest := []) ⟨hx, hb, hml, hown, hts⟩ (k_tAdvance l D k A a z G_48  ) (cwV 0 hts (gd_V hgd m854 m639 m640 m120 m641) rfl rfl rfl hd_X9_advance ⟨show 6 + 1 ≤ fn + 8 from by omega, show 8 + (2 + 11) + (127) ≤ ln + 169 from by omega⟩) (pre_W hW hB_G_48 hK hZ hS kd_3 rfl) rfl rfl hl.1 rfl (lv_room (Nat.le_of_ble_eq_true rfl)) dX2_passUnit_210 ⟨Nat.le_of_ble_eq_true rfl, Nat.le_of_ble_eq_true rfl⟩) hS (fun r_52 G_53 H locs hpo hW hS => ?_)
        have hX_56 : P_tAdvance G_48 r_52 G_53 := hpo
        obtain ⟨hB_G_53, hq_54, f_57, -⟩ := hpo
        have hF := hF.call9 hq_54 rfl rfl
        exact W.zret (v := r_52) hx hb hr (nar_z ((by first | (clear ha_p0 hd b_1 c_2 b_9 c_10 ty_11 ty_13 c_46; omega) | omega)) ((by first | (clear ha_p0 hd b_1 c_2 b_9 c_10 ty_11 ty_13 c_46; omega) | omega))) (fun t ht _ => ⟨⟨r_52, G_53, rfl, (P_fUnit_1_s_mk ⟨hB_G_53, hF, ⟨(by first | (clear ha_p0 hd b_1 c_2 b_9 c_10 ty_11 ty_13 c_46; omega) | omega), (by first | (clear ha_p0 hd b_1 c_2 b_9 c_10 ty_11 ty_13 c_46; omega) | omega)⟩, (Or.inr ⟨c_2, (Or.inl ⟨c_10, ⟨y_11, ty_11, ⟨y_13, ty_13, (Or.inr ⟨(xI_ne (Y := 40) rfl rfl c_15), (Or.inr ⟨(xI_ne (Y := 139) rfl rfl c_22), (Or.inr ⟨(xI_ne (Y := 140) rfl rfl c_34), (Or.inl ⟨c_46, ⟨G_14, hB_G_14, (Fr.put (rs := []) (fs := [(1, 12), (4, 2)]) (Fr.put (rs := []) (fs := [(1, 12), (4, 2)]) Fr.rf eG_12 (Or.inr (by decide))) eG_14 (Or.inr (by decide))), (gp_eq eG_14), ((gp_ne eG_14 (by decide)).trans (gp_eq eG_12)), ⟨G_48, hX_51, ⟨r_52, G_53, hX_56, ⟨rfl, rfl⟩⟩⟩⟩⟩)⟩)⟩)⟩)⟩⟩⟩)⟩)⟩), wd_t ht hW⟩, hS.F ht⟩) hS.2.2 dX2_passUnit_213
      by_cases c_58 : (G.1 3 3) = 142
      · refine lv_lookup (tgt := 191) hx hb dX2_passUnit_60 (by decide) (off := 131) (by rw [c_58]; decide) (by decide) ?_
        have c_58 : (G.1 3 3).toInt = 142 := xI_eq rfl rfl c_58
        refine lv_aload_n hx hb dX2_passUnit_191 rfl (lv_at hl 0 rfl) ?_
        refine S_getV (n := 1) (C := RX2) (T := TX2) (N := 3) hx hb hg iX2 hown hK hW kd_4 rfl 1 (lt_b rfl) (hg (Cond.fieldLink RX2 15 "SlabWalk$Formulas" "paving" "LSlabWalk$Paving;") m302) (fun _ h9 => h9) rfl ((((congrFun (congrFun (congrArg (fun q => q.2.2) eG_14) 4) 1).trans (congrFun (congrFun (congrArg (fun q => q.2.2) eG_12) 4) 1))).trans (hv_4_1)) dX2_passUnit_192 ?_
        refine lv_aload_n hx hb dX2_passUnit_195 rfl (lv_at hl 0 rfl) ?_
        refine S_getR (n := 3) (C := RX2) (T := TX2) (N := 3) hx hb hg iX2 hown hK hW kd_4 rfl 0 (lt_b rfl) (hg (Cond.fieldLink RX2 9 "SlabWalk$Formulas" "tokens" "LSlabWalk$Tokens;") m301) (fun _ h9 => h9) rfl dX2_passUnit_196 ?_
        refine S_getI (v := (G.1 3 3)) (C := RX9) (T := TX9) (N := 9) hx hb hg iX9 hown hK hW kd_3 rfl 3 (lt_b rfl) (hg (Cond.fieldLink RX2 30 "SlabWalk$Tokens" "kind" "I") m263) (fun _ h9 => h9) rfl ((gp_ne eG_14 (by decide)).trans ((gp_ne eG_12 (by decide)).trans (rfl))) dX2_passUnit_199 ?_
        refine ic_0 hx hb dX2_passUnit_202 ?_
        refine S_callv (va_runV (As := [.int (G.1 3 3), .int 0]) (rest := []) ⟨hx, hb, hml, hown, hts⟩ (k_emit_1 l D k A a z G_14 (G.1 3 3) 0 ) (cwV 2 hts (gd_V hgd m855 m856 m857 m118 m858) rfl rfl rfl hd_X6_emit ⟨show 0 + 1 ≤ fn + 8 from by omega, show 8 + (3 + 11) + (0) ≤ ln + 169 from by omega⟩) (pre_W hW hB_G_14 hK hZ hS kd_1 rfl) rfl rfl hl.1 rfl (lv_room (Nat.le_of_ble_eq_true rfl)) dX2_passUnit_203 ⟨Nat.le_of_ble_eq_true rfl, Nat.le_of_ble_eq_true rfl⟩) hS (fun G_60 H locs hpo hW hS => ?_)
        have hX_63 : P_emit_1 (G.1 3 3) 0 G_14 G_60 := hpo
        obtain ⟨hB_G_60, hq_61, -⟩ := hpo
        have hF := hF.call9 hq_61 rfl rfl
        refine lv_aload_n hx hb dX2_passUnit_206 rfl (lv_at hl 0 rfl) ?_
        refine S_getR (n := 3) (C := RX2) (T := TX2) (N := 3) hx hb hg iX2 hown hK hW kd_4 rfl 0 (lt_b rfl) (hg (Cond.fieldLink RX2 9 "SlabWalk$Formulas" "tokens" "LSlabWalk$Tokens;") m301) (fun _ h9 => h9) rfl dX2_passUnit_207 ?_
        refine S_calli (va_runV (As := []) (rest := []) ⟨hx, hb, hml, hown, hts⟩ (k_tAdvance l D k A a z G_60  ) (cwV 0 hts (gd_V hgd m854 m639 m640 m120 m641) rfl rfl rfl hd_X9_advance ⟨show 6 + 1 ≤ fn + 8 from by omega, show 8 + (2 + 11) + (127) ≤ ln + 169 from by omega⟩) (pre_W hW hB_G_60 hK hZ hS kd_3 rfl) rfl rfl hl.1 rfl (lv_room (Nat.le_of_ble_eq_true rfl)) dX2_passUnit_210 ⟨Nat.le_of_ble_eq_true rfl, Nat.le_of_ble_eq_true rfl⟩) hS (fun r_64 G_65 H locs hpo hW hS => ?_)
        have hX_68 : P_tAdvance G_60 r_64 G_65 := hpo
        obtain ⟨hB_G_65, hq_66, f_69, -⟩ := hpo
        have hF := hF.call9 hq_66 rfl rfl
        exact W.zret (v := r_64) hx hb hr (nar_z ((by first | (clear ha_p0 hd b_1 c_2 b_9 c_10 ty_11 ty_13 c_58; omega) | omega)) ((by first | (clear ha_p0 hd b_1 c_2 b_9 c_10 ty_11 ty_13 c_58; omega) | omega))) (fun t ht _ => ⟨⟨r_64, G_65, rfl, (P_fUnit_1_s_mk ⟨hB_G_65, hF, ⟨(by first | (clear ha_p0 hd b_1 c_2 b_9 c_10 ty_11 ty_13 c_58; omega) | omega), (by first | (clear ha_p0 hd b_1 c_2 b_9 c_10 ty_11 ty_13 c_58; omega) | omega)⟩, (Or.inr ⟨c_2, (Or.inl ⟨c_10, ⟨y_11, ty_11, ⟨y_13, ty_13, (Or.inr ⟨(xI_ne (Y := 40) rfl rfl c_15), (Or.inr ⟨(xI_ne (Y := 139) rfl rfl c_22), (Or.inr ⟨(xI_ne (Y := 140) rfl rfl c_34), (Or.inr ⟨(xI_ne (Y := 141) rfl rfl c_46), (Or.inl ⟨c_58, ⟨G_14, hB_G_14, (Fr.put (rs := []) (fs := [(1, 12), (4, 2)]) (Fr.put (rs := []) (fs := [(1, 12), (4, 2)]) Fr.rf eG_12 (Or.inr (by decide))) eG_14 (Or.inr (by decide))), (gp_eq eG_14), ((gp_ne eG_14 (by decide)).trans (gp_eq eG_12)), ⟨G_60, hX_63, ⟨r_64, G_65, hX_68, ⟨rfl, rfl⟩⟩⟩⟩⟩)⟩)⟩)⟩)⟩)⟩⟩⟩)⟩)⟩), wd_t ht hW⟩, hS.F ht⟩) hS.2.2 dX2_passUnit_213
      by_cases c_70 : (G.1 3 3) = 143
      · refine lv_lookup (tgt := 191) hx hb dX2_passUnit_60 (by decide) (off := 131) (by rw [c_70]; decide) (by decide) ?_
        have c_70 : (G.1 3 3).toInt = 143 := xI_eq rfl rfl c_70
        refine lv_aload_n hx hb dX2_passUnit_191 rfl (lv_at hl 0 rfl) ?_
        refine S_getV (n := 1) (C := RX2) (T := TX2) (N := 3) hx hb hg iX2 hown hK hW kd_4 rfl 1 (lt_b rfl) (hg (Cond.fieldLink RX2 15 "SlabWalk$Formulas" "paving" "LSlabWalk$Paving;") m302) (fun _ h9 => h9) rfl ((((congrFun (congrFun (congrArg (fun q => q.2.2) eG_14) 4) 1).trans (congrFun (congrFun (congrArg (fun q => q.2.2) eG_12) 4) 1))).trans (hv_4_1)) dX2_passUnit_192 ?_
        refine lv_aload_n hx hb dX2_passUnit_195 rfl (lv_at hl 0 rfl) ?_
        refine S_getR (n := 3) (C := RX2) (T := TX2) (N := 3) hx hb hg iX2 hown hK hW kd_4 rfl 0 (lt_b rfl) (hg (Cond.fieldLink RX2 9 "SlabWalk$Formulas" "tokens" "LSlabWalk$Tokens;") m301) (fun _ h9 => h9) rfl dX2_passUnit_196 ?_
        refine S_getI (v := (G.1 3 3)) (C := RX9) (T := TX9) (N := 9) hx hb hg iX9 hown hK hW kd_3 rfl 3 (lt_b rfl) (hg (Cond.fieldLink RX2 30 "SlabWalk$Tokens" "kind" "I") m263) (fun _ h9 => h9) rfl ((gp_ne eG_14 (by decide)).trans ((gp_ne eG_12 (by decide)).trans (rfl))) dX2_passUnit_199 ?_
        refine ic_0 hx hb dX2_passUnit_202 ?_
        refine S_callv (va_runV (As := [.int (G.1 3 3), .int 0]) (rest := []) ⟨hx, hb, hml, hown, hts⟩ (k_emit_1 l D k A a z G_14 (G.1 3 3) 0 ) (cwV 2 hts (gd_V hgd m855 m856 m857 m118 m858) rfl rfl rfl hd_X6_emit ⟨show 0 + 1 ≤ fn + 8 from by omega, show 8 + (3 + 11) + (0) ≤ ln + 169 from by omega⟩) (pre_W hW hB_G_14 hK hZ hS kd_1 rfl) rfl rfl hl.1 rfl (lv_room (Nat.le_of_ble_eq_true rfl)) dX2_passUnit_203 ⟨Nat.le_of_ble_eq_true rfl, Nat.le_of_ble_eq_true rfl⟩) hS (fun G_72 H locs hpo hW hS => ?_)
        have hX_75 : P_emit_1 (G.1 3 3) 0 G_14 G_72 := hpo
        obtain ⟨hB_G_72, hq_73, -⟩ := hpo
        have hF := hF.call9 hq_73 rfl rfl
        refine lv_aload_n hx hb dX2_passUnit_206 rfl (lv_at hl 0 rfl) ?_
        refine S_getR (n := 3) (C := RX2) (T := TX2) (N := 3) hx hb hg iX2 hown hK hW kd_4 rfl 0 (lt_b rfl) (hg (Cond.fieldLink RX2 9 "SlabWalk$Formulas" "tokens" "LSlabWalk$Tokens;") m301) (fun _ h9 => h9) rfl dX2_passUnit_207 ?_
        refine S_calli (va_runV (As := []) (rest := []) ⟨hx, hb, hml, hown, hts⟩ (k_tAdvance l D k A a z G_72  ) (cwV 0 hts (gd_V hgd m854 m639 m640 m120 m641) rfl rfl rfl hd_X9_advance ⟨show 6 + 1 ≤ fn + 8 from by omega, show 8 + (2 + 11) + (127) ≤ ln + 169 from by omega⟩) (pre_W hW hB_G_72 hK hZ hS kd_3 rfl) rfl rfl hl.1 rfl (lv_room (Nat.le_of_ble_eq_true rfl)) dX2_passUnit_210 ⟨Nat.le_of_ble_eq_true rfl, Nat.le_of_ble_eq_true rfl⟩) hS (fun r_76 G_77 H locs hpo hW hS => ?_)
        have hX_80 : P_tAdvance G_72 r_76 G_77 := hpo
        obtain ⟨hB_G_77, hq_78, f_81, -⟩ := hpo
        have hF := hF.call9 hq_78 rfl rfl
        exact W.zret (v := r_76) hx hb hr (nar_z ((by first | (clear ha_p0 hd b_1 c_2 b_9 c_10 ty_11 ty_13 c_70; omega) | omega)) ((by first | (clear ha_p0 hd b_1 c_2 b_9 c_10 ty_11 ty_13 c_70; omega) | omega))) (fun t ht _ => ⟨⟨r_76, G_77, rfl, (P_fUnit_1_s_mk ⟨hB_G_77, hF, ⟨(by first | (clear ha_p0 hd b_1 c_2 b_9 c_10 ty_11 ty_13 c_70; omega) | omega), (by first | (clear ha_p0 hd b_1 c_2 b_9 c_10 ty_11 ty_13 c_70; omega) | omega)⟩, (Or.inr ⟨c_2, (Or.inl ⟨c_10, ⟨y_11, ty_11, ⟨y_13, ty_13, (Or.inr ⟨(xI_ne (Y := 40) rfl rfl c_15), (Or.inr ⟨(xI_ne (Y := 139) rfl rfl c_22), (Or.inr ⟨(xI_ne (Y := 140) rfl rfl c_34), (Or.inr ⟨(xI_ne (Y := 141) rfl rfl c_46), (Or.inr ⟨(xI_ne (Y := 142) rfl rfl c_58), (Or.inl ⟨c_70, ⟨G_14, hB_G_14, (Fr.put (rs := []) (fs := [(1, 12), (4, 2)]) (Fr.put (rs := []) (fs := [(1, 12), (4, 2)]) Fr.rf eG_12 (Or.inr (by decide))) eG_14 (Or.inr (by decide))), (gp_eq eG_14), ((gp_ne eG_14 (by decide)).trans (gp_eq eG_12)), ⟨G_72, hX_75, ⟨r_76, G_77, hX_80, ⟨rfl, rfl⟩⟩⟩⟩⟩)⟩)⟩)⟩)⟩)⟩)⟩⟩⟩)⟩)⟩), wd_t ht hW⟩, hS.F ht⟩) hS.2.2 dX2_passUnit_213
      by_cases c_82 : (G.1 3 3) = 147
      · refine lv_lookup (tgt := 191) hx hb dX2_passUnit_60 (by decide) (off := 131) (by rw [c_82]; decide) (by decide) ?_
        have c_82 : (G.1 3 3).toInt = 147 := xI_eq rfl rfl c_82
        refine lv_aload_n hx hb dX2_passUnit_191 rfl (lv_at hl 0 rfl) ?_
        refine S_getV (n := 1) (C := RX2) (T := TX2) (N := 3) hx hb hg iX2 hown hK hW kd_4 rfl 1 (lt_b rfl) (hg (Cond.fieldLink RX2 15 "SlabWalk$Formulas" "paving" "LSlabWalk$Paving;") m302) (fun _ h9 => h9) rfl ((((congrFun (congrFun (congrArg (fun q => q.2.2) eG_14) 4) 1).trans (congrFun (congrFun (congrArg (fun q => q.2.2) eG_12) 4) 1))).trans (hv_4_1)) dX2_passUnit_192 ?_
        refine lv_aload_n hx hb dX2_passUnit_195 rfl (lv_at hl 0 rfl) ?_
        refine S_getR (n := 3) (C := RX2) (T := TX2) (N := 3) hx hb hg iX2 hown hK hW kd_4 rfl 0 (lt_b rfl) (hg (Cond.fieldLink RX2 9 "SlabWalk$Formulas" "tokens" "LSlabWalk$Tokens;") m301) (fun _ h9 => h9) rfl dX2_passUnit_196 ?_
        refine S_getI (v := (G.1 3 3)) (C := RX9) (T := TX9) (N := 9) hx hb hg iX9 hown hK hW kd_3 rfl 3 (lt_b rfl) (hg (Cond.fieldLink RX2 30 "SlabWalk$Tokens" "kind" "I") m263) (fun _ h9 => h9) rfl ((gp_ne eG_14 (by decide)).trans ((gp_ne eG_12 (by decide)).trans (rfl))) dX2_passUnit_199 ?_
        refine ic_0 hx hb dX2_passUnit_202 ?_
        refine S_callv (va_runV (As := [.int (G.1 3 3), .int 0]) (rest := []) ⟨hx, hb, hml, hown, hts⟩ (k_emit_1 l D k A a z G_14 (G.1 3 3) 0 ) (cwV 2 hts (gd_V hgd m855 m856 m857 m118 m858) rfl rfl rfl hd_X6_emit ⟨show 0 + 1 ≤ fn + 8 from by omega, show 8 + (3 + 11) + (0) ≤ ln + 169 from by omega⟩) (pre_W hW hB_G_14 hK hZ hS kd_1 rfl) rfl rfl hl.1 rfl (lv_room (Nat.le_of_ble_eq_true rfl)) dX2_passUnit_203 ⟨Nat.le_of_ble_eq_true rfl, Nat.le_of_ble_eq_true rfl⟩) hS (fun G_84 H locs hpo hW hS => ?_)
        have hX_87 : P_emit_1 (G.1 3 3) 0 G_14 G_84 := hpo
        obtain ⟨hB_G_84, hq_85, -⟩ := hpo
        have hF := hF.call9 hq_85 rfl rfl
        refine lv_aload_n hx hb dX2_passUnit_206 rfl (lv_at hl 0 rfl) ?_
        refine S_getR (n := 3) (C := RX2) (T := TX2) (N := 3) hx hb hg iX2 hown hK hW kd_4 rfl 0 (lt_b rfl) (hg (Cond.fieldLink RX2 9 "SlabWalk$Formulas" "tokens" "LSlabWalk$Tokens;") m301) (fun _ h9 => h9) rfl dX2_passUnit_207 ?_
        refine S_calli (va_runV (As := []) (rest := []) ⟨hx, hb, hml, hown, hts⟩ (k_tAdvance l D k A a z G_84  ) (cwV 0 hts (gd_V hgd m854 m639 m640 m120 m641) rfl rfl rfl hd_X9_advance ⟨show 6 + 1 ≤ fn + 8 from by omega, show 8 + (2 + 11) + (127) ≤ ln + 169 from by omega⟩) (pre_W hW hB_G_84 hK hZ hS kd_3 rfl) rfl rfl hl.1 rfl (lv_room (Nat.le_of_ble_eq_true rfl)) dX2_passUnit_210 ⟨Nat.le_of_ble_eq_true rfl, Nat.le_of_ble_eq_true rfl⟩) hS (fun r_88 G_89 H locs hpo hW hS => ?_)
        have hX_92 : P_tAdvance G_84 r_88 G_89 := hpo
        obtain ⟨hB_G_89, hq_90, f_93, -⟩ := hpo
        have hF := hF.call9 hq_90 rfl rfl
        exact W.zret (v := r_88) hx hb hr (nar_z ((by first | (clear ha_p0 hd b_1 c_2 b_9 c_10 ty_11 ty_13 c_82; omega) | omega)) ((by first | (clear ha_p0 hd b_1 c_2 b_9 c_10 ty_11 ty_13 c_82; omega) | omega))) (fun t ht _ => ⟨⟨r_88, G_89, rfl, (P_fUnit_1_s_mk ⟨hB_G_89, hF, ⟨(by first | (clear ha_p0 hd b_1 c_2 b_9 c_10 ty_11 ty_13 c_82; omega) | omega), (by first | (clear ha_p0 hd b_1 c_2 b_9 c_10 ty_11 ty_13 c_82; omega) | omega)⟩, (Or.inr ⟨c_2, (Or.inl ⟨c_10, ⟨y_11, ty_11, ⟨y_13, ty_13, (Or.inr ⟨(xI_ne (Y := 40) rfl rfl c_15), (Or.inr ⟨(xI_ne (Y := 139) rfl rfl c_22), (Or.inr ⟨(xI_ne (Y := 140) rfl rfl c_34), (Or.inr ⟨(xI_ne (Y := 141) rfl rfl c_46), (Or.inr ⟨(xI_ne (Y := 142) rfl rfl c_58), (Or.inr ⟨(xI_ne (Y := 143) rfl rfl c_70), (Or.inl ⟨c_82, ⟨G_14, hB_G_14, (Fr.put (rs := []) (fs := [(1, 12), (4, 2)]) (Fr.put (rs := []) (fs := [(1, 12), (4, 2)]) Fr.rf eG_12 (Or.inr (by decide))) eG_14 (Or.inr (by decide))), (gp_eq eG_14), ((gp_ne eG_14 (by decide)).trans (gp_eq eG_12)), ⟨G_84, hX_87, ⟨r_88, G_89, hX_92, ⟨rfl, rfl⟩⟩⟩⟩⟩)⟩)⟩)⟩)⟩)⟩)⟩)⟩⟩⟩)⟩)⟩), wd_t ht hW⟩, hS.F ht⟩) hS.2.2 dX2_passUnit_213
      by_cases c_94 : (G.1 3 3) = 148
      · refine lv_lookup (tgt := 191) hx hb dX2_passUnit_60 (by decide) (off := 131) (by rw [c_94]; decide) (by decide) ?_
        have c_94 : (G.1 3 3).toInt = 148 := xI_eq rfl rfl c_94
        refine lv_aload_n hx hb dX2_passUnit_191 rfl (lv_at hl 0 rfl) ?_
        refine S_getV (n := 1) (C := RX2) (T := TX2) (N := 3) hx hb hg iX2 hown hK hW kd_4 rfl 1 (lt_b rfl) (hg (Cond.fieldLink RX2 15 "SlabWalk$Formulas" "paving" "LSlabWalk$Paving;") m302) (fun _ h9 => h9) rfl ((((congrFun (congrFun (congrArg (fun q => q.2.2) eG_14) 4) 1).trans (congrFun (congrFun (congrArg (fun q => q.2.2) eG_12) 4) 1))).trans (hv_4_1)) dX2_passUnit_192 ?_
        refine lv_aload_n hx hb dX2_passUnit_195 rfl (lv_at hl 0 rfl) ?_
        refine S_getR (n := 3) (C := RX2) (T := TX2) (N := 3) hx hb hg iX2 hown hK hW kd_4 rfl 0 (lt_b rfl) (hg (Cond.fieldLink RX2 9 "SlabWalk$Formulas" "tokens" "LSlabWalk$Tokens;") m301) (fun _ h9 => h9) rfl dX2_passUnit_196 ?_
        refine S_getI (v := (G.1 3 3)) (C := RX9) (T := TX9) (N := 9) hx hb hg iX9 hown hK hW kd_3 rfl 3 (lt_b rfl) (hg (Cond.fieldLink RX2 30 "SlabWalk$Tokens" "kind" "I") m263) (fun _ h9 => h9) rfl ((gp_ne eG_14 (by decide)).trans ((gp_ne eG_12 (by decide)).trans (rfl))) dX2_passUnit_199 ?_
        refine ic_0 hx hb dX2_passUnit_202 ?_
        refine S_callv (va_runV (As := [.int (G.1 3 3), .int 0]) (rest := []) ⟨hx, hb, hml, hown, hts⟩ (k_emit_1 l D k A a z G_14 (G.1 3 3) 0 ) (cwV 2 hts (gd_V hgd m855 m856 m857 m118 m858) rfl rfl rfl hd_X6_emit ⟨show 0 + 1 ≤ fn + 8 from by omega, show 8 + (3 + 11) + (0) ≤ ln + 169 from by omega⟩) (pre_W hW hB_G_14 hK hZ hS kd_1 rfl) rfl rfl hl.1 rfl (lv_room (Nat.le_of_ble_eq_true rfl)) dX2_passUnit_203 ⟨Nat.le_of_ble_eq_true rfl, Nat.le_of_ble_eq_true rfl⟩) hS (fun G_96 H locs hpo hW hS => ?_)
        have hX_99 : P_emit_1 (G.1 3 3) 0 G_14 G_96 := hpo
        obtain ⟨hB_G_96, hq_97, -⟩ := hpo
        have hF := hF.call9 hq_97 rfl rfl
        refine lv_aload_n hx hb dX2_passUnit_206 rfl (lv_at hl 0 rfl) ?_
        refine S_getR (n := 3) (C := RX2) (T := TX2) (N := 3) hx hb hg iX2 hown hK hW kd_4 rfl 0 (lt_b rfl) (hg (Cond.fieldLink RX2 9 "SlabWalk$Formulas" "tokens" "LSlabWalk$Tokens;") m301) (fun _ h9 => h9) rfl dX2_passUnit_207 ?_
        refine S_calli (va_runV (As := []) (rest := []) ⟨hx, hb, hml, hown, hts⟩ (k_tAdvance l D k A a z G_96  ) (cwV 0 hts (gd_V hgd m854 m639 m640 m120 m641) rfl rfl rfl hd_X9_advance ⟨show 6 + 1 ≤ fn + 8 from by omega, show 8 + (2 + 11) + (127) ≤ ln + 169 from by omega⟩) (pre_W hW hB_G_96 hK hZ hS kd_3 rfl) rfl rfl hl.1 rfl (lv_room (Nat.le_of_ble_eq_true rfl)) dX2_passUnit_210 ⟨Nat.le_of_ble_eq_true rfl, Nat.le_of_ble_eq_true rfl⟩) hS (fun r_100 G_101 H locs hpo hW hS => ?_)
        have hX_104 : P_tAdvance G_96 r_100 G_101 := hpo
        obtain ⟨hB_G_101, hq_102, f_105, -⟩ := hpo
        have hF := hF.call9 hq_102 rfl rfl
        exact W.zret (v := r_100) hx hb hr (nar_z ((by first | (clear ha_p0 hd b_1 c_2 b_9 c_10 ty_11 ty_13 c_94; omega) | omega)) ((by first | (clear ha_p0 hd b_1 c_2 b_9 c_10 ty_11 ty_13 c_94; omega) | omega))) (fun t ht _ => ⟨⟨r_100, G_101, rfl, (P_fUnit_1_s_mk ⟨hB_G_101, hF, ⟨(by first | (clear ha_p0 hd b_1 c_2 b_9 c_10 ty_11 ty_13 c_94; omega) | omega), (by first | (clear ha_p0 hd b_1 c_2 b_9 c_10 ty_11 ty_13 c_94; omega) | omega)⟩, (Or.inr ⟨c_2, (Or.inl ⟨c_10, ⟨y_11, ty_11, ⟨y_13, ty_13, (Or.inr ⟨(xI_ne (Y := 40) rfl rfl c_15), (Or.inr ⟨(xI_ne (Y := 139) rfl rfl c_22), (Or.inr ⟨(xI_ne (Y := 140) rfl rfl c_34), (Or.inr ⟨(xI_ne (Y := 141) rfl rfl c_46), (Or.inr ⟨(xI_ne (Y := 142) rfl rfl c_58), (Or.inr ⟨(xI_ne (Y := 143) rfl rfl c_70), (Or.inr ⟨(xI_ne (Y := 147) rfl rfl c_82), (Or.inl ⟨c_94, ⟨G_14, hB_G_14, (Fr.put (rs := []) (fs := [(1, 12), (4, 2)]) (Fr.put (rs := []) (fs := [(1, 12), (4, 2)]) Fr.rf eG_12 (Or.inr (by decide))) eG_14 (Or.inr (by decide))), (gp_eq eG_14), ((gp_ne eG_14 (by decide)).trans (gp_eq eG_12)), ⟨G_96, hX_99, ⟨r_100, G_101, hX_104, ⟨rfl, rfl⟩⟩⟩⟩⟩)⟩)⟩)⟩)⟩)⟩)⟩)⟩)⟩⟩⟩)⟩)⟩), wd_t ht hW⟩, hS.F ht⟩) hS.2.2 dX2_passUnit_213
      by_cases c_106 : (G.1 3 3) = 149
      · refine lv_lookup (tgt := 191) hx hb dX2_passUnit_60 (by decide) (off := 131) (by rw [c_106]; decide) (by decide) ?_
        have c_106 : (G.1 3 3).toInt = 149 := xI_eq rfl rfl c_106
        refine lv_aload_n hx hb dX2_passUnit_191 rfl (lv_at hl 0 rfl) ?_
        refine S_getV (n := 1) (C := RX2) (T := TX2) (N := 3) hx hb hg iX2 hown hK hW kd_4 rfl 1 (lt_b rfl) (hg (Cond.fieldLink RX2 15 "SlabWalk$Formulas" "paving" "LSlabWalk$Paving;") m302) (fun _ h9 => h9) rfl ((((congrFun (congrFun (congrArg (fun q => q.2.2) eG_14) 4) 1).trans (congrFun (congrFun (congrArg (fun q => q.2.2) eG_12) 4) 1))).trans (hv_4_1)) dX2_passUnit_192 ?_
        refine lv_aload_n hx hb dX2_passUnit_195 rfl (lv_at hl 0 rfl) ?_
        refine S_getR (n := 3) (C := RX2) (T := TX2) (N := 3) hx hb hg iX2 hown hK hW kd_4 rfl 0 (lt_b rfl) (hg (Cond.fieldLink RX2 9 "SlabWalk$Formulas" "tokens" "LSlabWalk$Tokens;") m301) (fun _ h9 => h9) rfl dX2_passUnit_196 ?_
        refine S_getI (v := (G.1 3 3)) (C := RX9) (T := TX9) (N := 9) hx hb hg iX9 hown hK hW kd_3 rfl 3 (lt_b rfl) (hg (Cond.fieldLink RX2 30 "SlabWalk$Tokens" "kind" "I") m263) (fun _ h9 => h9) rfl ((gp_ne eG_14 (by decide)).trans ((gp_ne eG_12 (by decide)).trans (rfl))) dX2_passUnit_199 ?_
        refine ic_0 hx hb dX2_passUnit_202 ?_
        refine S_callv (va_runV (As := [.int (G.1 3 3), .int 0]) (rest := []) ⟨hx, hb, hml, hown, hts⟩ (k_emit_1 l D k A a z G_14 (G.1 3 3) 0 ) (cwV 2 hts (gd_V hgd m855 m856 m857 m118 m858) rfl rfl rfl hd_X6_emit ⟨show 0 + 1 ≤ fn + 8 from by omega, show 8 + (3 + 11) + (0) ≤ ln + 169 from by omega⟩) (pre_W hW hB_G_14 hK hZ hS kd_1 rfl) rfl rfl hl.1 rfl (lv_room (Nat.le_of_ble_eq_true rfl)) dX2_passUnit_203 ⟨Nat.le_of_ble_eq_true rfl, Nat.le_of_ble_eq_true rfl⟩) hS (fun G_108 H locs hpo hW hS => ?_)
        have hX_111 : P_emit_1 (G.1 3 3) 0 G_14 G_108 := hpo
        obtain ⟨hB_G_108, hq_109, -⟩ := hpo
        have hF := hF.call9 hq_109 rfl rfl
        refine lv_aload_n hx hb dX2_passUnit_206 rfl (lv_at hl 0 rfl) ?_
        refine S_getR (n := 3) (C := RX2) (T := TX2) (N := 3) hx hb hg iX2 hown hK hW kd_4 rfl 0 (lt_b rfl) (hg (Cond.fieldLink RX2 9 "SlabWalk$Formulas" "tokens" "LSlabWalk$Tokens;") m301) (fun _ h9 => h9) rfl dX2_passUnit_207 ?_
        refine S_calli (va_runV (As := []) (rest := []) ⟨hx, hb, hml, hown, hts⟩ (k_tAdvance l D k A a z G_108  ) (cwV 0 hts (gd_V hgd m854 m639 m640 m120 m641) rfl rfl rfl hd_X9_advance ⟨show 6 + 1 ≤ fn + 8 from by omega, show 8 + (2 + 11) + (127) ≤ ln + 169 from by omega⟩) (pre_W hW hB_G_108 hK hZ hS kd_3 rfl) rfl rfl hl.1 rfl (lv_room (Nat.le_of_ble_eq_true rfl)) dX2_passUnit_210 ⟨Nat.le_of_ble_eq_true rfl, Nat.le_of_ble_eq_true rfl⟩) hS (fun r_112 G_113 H locs hpo hW hS => ?_)
        have hX_116 : P_tAdvance G_108 r_112 G_113 := hpo
        obtain ⟨hB_G_113, hq_114, f_117, -⟩ := hpo
        have hF := hF.call9 hq_114 rfl rfl
        exact W.zret (v := r_112) hx hb hr (nar_z ((by first | (clear ha_p0 hd b_1 c_2 b_9 c_10 ty_11 ty_13 c_106; omega) | omega)) ((by first | (clear ha_p0 hd b_1 c_2 b_9 c_10 ty_11 ty_13 c_106; omega) | omega))) (fun t ht _ => ⟨⟨r_112, G_113, rfl, (P_fUnit_1_s_mk ⟨hB_G_113, hF, ⟨(by first | (clear ha_p0 hd b_1 c_2 b_9 c_10 ty_11 ty_13 c_106; omega) | omega), (by first | (clear ha_p0 hd b_1 c_2 b_9 c_10 ty_11 ty_13 c_106; omega) | omega)⟩, (Or.inr ⟨c_2, (Or.inl ⟨c_10, ⟨y_11, ty_11, ⟨y_13, ty_13, (Or.inr ⟨(xI_ne (Y := 40) rfl rfl c_15), (Or.inr ⟨(xI_ne (Y := 139) rfl rfl c_22), (Or.inr ⟨(xI_ne (Y := 140) rfl rfl c_34), (Or.inr ⟨(xI_ne (Y := 141) rfl rfl c_46), (Or.inr ⟨(xI_ne (Y := 142) rfl rfl c_58), (Or.inr ⟨(xI_ne (Y := 143) rfl rfl c_70), (Or.inr ⟨(xI_ne (Y := 147) rfl rfl c_82), (Or.inr ⟨(xI_ne (Y := 148) rfl rfl c_94), (Or.inl ⟨c_106, ⟨G_14, hB_G_14, (Fr.put (rs := []) (fs := [(1, 12), (4, 2)]) (Fr.put (rs := []) (fs := [(1, 12), (4, 2)]) Fr.rf eG_12 (Or.inr (by decide))) eG_14 (Or.inr (by decide))), (gp_eq eG_14), ((gp_ne eG_14 (by decide)).trans (gp_eq eG_12)), ⟨G_108, hX_111, ⟨r_112, G_113, hX_116, ⟨rfl, rfl⟩⟩⟩⟩⟩)⟩)⟩)⟩)⟩)⟩)⟩)⟩)⟩)⟩⟩⟩)⟩)⟩), wd_t ht hW⟩, hS.F ht⟩) hS.2.2 dX2_passUnit_213
      by_cases c_118 : (G.1 3 3) = 150
      · refine lv_lookup (tgt := 191) hx hb dX2_passUnit_60 (by decide) (off := 131) (by rw [c_118]; decide) (by decide) ?_
        have c_118 : (G.1 3 3).toInt = 150 := xI_eq rfl rfl c_118
        refine lv_aload_n hx hb dX2_passUnit_191 rfl (lv_at hl 0 rfl) ?_
        refine S_getV (n := 1) (C := RX2) (T := TX2) (N := 3) hx hb hg iX2 hown hK hW kd_4 rfl 1 (lt_b rfl) (hg (Cond.fieldLink RX2 15 "SlabWalk$Formulas" "paving" "LSlabWalk$Paving;") m302) (fun _ h9 => h9) rfl ((((congrFun (congrFun (congrArg (fun q => q.2.2) eG_14) 4) 1).trans (congrFun (congrFun (congrArg (fun q => q.2.2) eG_12) 4) 1))).trans (hv_4_1)) dX2_passUnit_192 ?_
        refine lv_aload_n hx hb dX2_passUnit_195 rfl (lv_at hl 0 rfl) ?_
        refine S_getR (n := 3) (C := RX2) (T := TX2) (N := 3) hx hb hg iX2 hown hK hW kd_4 rfl 0 (lt_b rfl) (hg (Cond.fieldLink RX2 9 "SlabWalk$Formulas" "tokens" "LSlabWalk$Tokens;") m301) (fun _ h9 => h9) rfl dX2_passUnit_196 ?_
        refine S_getI (v := (G.1 3 3)) (C := RX9) (T := TX9) (N := 9) hx hb hg iX9 hown hK hW kd_3 rfl 3 (lt_b rfl) (hg (Cond.fieldLink RX2 30 "SlabWalk$Tokens" "kind" "I") m263) (fun _ h9 => h9) rfl ((gp_ne eG_14 (by decide)).trans ((gp_ne eG_12 (by decide)).trans (rfl))) dX2_passUnit_199 ?_
        refine ic_0 hx hb dX2_passUnit_202 ?_
        refine S_callv (va_runV (As := [.int (G.1 3 3), .int 0]) (rest := []) ⟨hx, hb, hml, hown, hts⟩ (k_emit_1 l D k A a z G_14 (G.1 3 3) 0 ) (cwV 2 hts (gd_V hgd m855 m856 m857 m118 m858) rfl rfl rfl hd_X6_emit ⟨show 0 + 1 ≤ fn + 8 from by omega, show 8 + (3 + 11) + (0) ≤ ln + 169 from by omega⟩) (pre_W hW hB_G_14 hK hZ hS kd_1 rfl) rfl rfl hl.1 rfl (lv_room (Nat.le_of_ble_eq_true rfl)) dX2_passUnit_203 ⟨Nat.le_of_ble_eq_true rfl, Nat.le_of_ble_eq_true rfl⟩) hS (fun G_120 H locs hpo hW hS => ?_)
        have hX_123 : P_emit_1 (G.1 3 3) 0 G_14 G_120 := hpo
        obtain ⟨hB_G_120, hq_121, -⟩ := hpo
        have hF := hF.call9 hq_121 rfl rfl
        refine lv_aload_n hx hb dX2_passUnit_206 rfl (lv_at hl 0 rfl) ?_
        refine S_getR (n := 3) (C := RX2) (T := TX2) (N := 3) hx hb hg iX2 hown hK hW kd_4 rfl 0 (lt_b rfl) (hg (Cond.fieldLink RX2 9 "SlabWalk$Formulas" "tokens" "LSlabWalk$Tokens;") m301) (fun _ h9 => h9) rfl dX2_passUnit_207 ?_
        refine S_calli (va_runV (As := []) (rest := []) ⟨hx, hb, hml, hown, hts⟩ (k_tAdvance l D k A a z G_120  ) (cwV 0 hts (gd_V hgd m854 m639 m640 m120 m641) rfl rfl rfl hd_X9_advance ⟨show 6 + 1 ≤ fn + 8 from by omega, show 8 + (2 + 11) + (127) ≤ ln + 169 from by omega⟩) (pre_W hW hB_G_120 hK hZ hS kd_3 rfl) rfl rfl hl.1 rfl (lv_room (Nat.le_of_ble_eq_true rfl)) dX2_passUnit_210 ⟨Nat.le_of_ble_eq_true rfl, Nat.le_of_ble_eq_true rfl⟩) hS (fun r_124 G_125 H locs hpo hW hS => ?_)
        have hX_128 : P_tAdvance G_120 r_124 G_125 := hpo
        obtain ⟨hB_G_125, hq_126, f_129, -⟩ := hpo
        have hF := hF.call9 hq_126 rfl rfl
        exact W.zret (v := r_124) hx hb hr (nar_z ((by first | (clear ha_p0 hd b_1 c_2 b_9 c_10 ty_11 ty_13 c_118; omega) | omega)) ((by first | (clear ha_p0 hd b_1 c_2 b_9 c_10 ty_11 ty_13 c_118; omega) | omega))) (fun t ht _ => ⟨⟨r_124, G_125, rfl, (P_fUnit_1_s_mk ⟨hB_G_125, hF, ⟨(by first | (clear ha_p0 hd b_1 c_2 b_9 c_10 ty_11 ty_13 c_118; omega) | omega), (by first | (clear ha_p0 hd b_1 c_2 b_9 c_10 ty_11 ty_13 c_118; omega) | omega)⟩, (Or.inr ⟨c_2, (Or.inl ⟨c_10, ⟨y_11, ty_11, ⟨y_13, ty_13, (Or.inr ⟨(xI_ne (Y := 40) rfl rfl c_15), (Or.inr ⟨(xI_ne (Y := 139) rfl rfl c_22), (Or.inr ⟨(xI_ne (Y := 140) rfl rfl c_34), (Or.inr ⟨(xI_ne (Y := 141) rfl rfl c_46), (Or.inr ⟨(xI_ne (Y := 142) rfl rfl c_58), (Or.inr ⟨(xI_ne (Y := 143) rfl rfl c_70), (Or.inr ⟨(xI_ne (Y := 147) rfl rfl c_82), (Or.inr ⟨(xI_ne (Y := 148) rfl rfl c_94), (Or.inr ⟨(xI_ne (Y := 149) rfl rfl c_106), (Or.inl ⟨c_118, ⟨G_14, hB_G_14, (Fr.put (rs := []) (fs := [(1, 12), (4, 2)]) (Fr.put (rs := []) (fs := [(1, 12), (4, 2)]) Fr.rf eG_12 (Or.inr (by decide))) eG_14 (Or.inr (by decide))), (gp_eq eG_14), ((gp_ne eG_14 (by decide)).trans (gp_eq eG_12)), ⟨G_120, hX_123, ⟨r_124, G_125, hX_128, ⟨rfl, rfl⟩⟩⟩⟩⟩)⟩)⟩)⟩)⟩)⟩)⟩)⟩)⟩)⟩)⟩⟩⟩)⟩)⟩), wd_t ht hW⟩, hS.F ht⟩) hS.2.2 dX2_passUnit_213
      by_cases c_130 : (G.1 3 3) = 201
      · refine lv_lookup (tgt := 166) hx hb dX2_passUnit_60 (by decide) (off := 106) (by rw [c_130]; decide) (by decide) ?_
        have c_130 : (G.1 3 3).toInt = 201 := xI_eq rfl rfl c_130
        refine lv_aload_n hx hb dX2_passUnit_166 rfl (lv_at hl 0 rfl) ?_
        refine S_getV (n := 1) (C := RX2) (T := TX2) (N := 3) hx hb hg iX2 hown hK hW kd_4 rfl 1 (lt_b rfl) (hg (Cond.fieldLink RX2 15 "SlabWalk$Formulas" "paving" "LSlabWalk$Paving;") m302) (fun _ h9 => h9) rfl ((((congrFun (congrFun (congrArg (fun q => q.2.2) eG_14) 4) 1).trans (congrFun (congrFun (congrArg (fun q => q.2.2) eG_12) 4) 1))).trans (hv_4_1)) dX2_passUnit_167 ?_
        refine lv_sipush (v := 201) hx hb dX2_passUnit_170 (by decide) ?_
        refine lv_aload_n hx hb dX2_passUnit_173 rfl (lv_at hl 0 rfl) ?_
        refine S_getR (n := 3) (C := RX2) (T := TX2) (N := 3) hx hb hg iX2 hown hK hW kd_4 rfl 0 (lt_b rfl) (hg (Cond.fieldLink RX2 9 "SlabWalk$Formulas" "tokens" "LSlabWalk$Tokens;") m301) (fun _ h9 => h9) rfl dX2_passUnit_174 ?_
        refine S_getI (v := (G.1 3 5)) (C := RX9) (T := TX9) (N := 9) hx hb hg iX9 hown hK hW kd_3 rfl 5 (lt_b rfl) (hg (Cond.fieldLink RX2 70 "SlabWalk$Tokens" "number" "I") m267) (fun _ h9 => h9) rfl ((gp_ne eG_14 (by decide)).trans (gp_ne eG_12 (by decide))) dX2_passUnit_177 ?_
        refine S_callv (va_runV (As := [.int 201, .int (G.1 3 5)]) (rest := []) ⟨hx, hb, hml, hown, hts⟩ (k_emit_1 l D k A a z G_14 201 (G.1 3 5) ) (cwV 2 hts (gd_V hgd m855 m856 m857 m118 m858) rfl rfl rfl hd_X6_emit ⟨show 0 + 1 ≤ fn + 8 from by omega, show 8 + (3 + 11) + (0) ≤ ln + 169 from by omega⟩) (pre_W hW hB_G_14 hK hZ hS kd_1 rfl) rfl rfl hl.1 rfl (lv_room (Nat.le_of_ble_eq_true rfl)) dX2_passUnit_180 ⟨Nat.le_of_ble_eq_true rfl, Nat.le_of_ble_eq_true rfl⟩) hS (fun G_132 H locs hpo hW hS => ?_)
        have hX_135 : P_emit_1 201 (G.1 3 5) G_14 G_132 := hpo
        obtain ⟨hB_G_132, hq_133, -⟩ := hpo
        have hF := hF.call9 hq_133 rfl rfl
        refine lv_aload_n hx hb dX2_passUnit_183 rfl (lv_at hl 0 rfl) ?_
        refine S_getR (n := 3) (C := RX2) (T := TX2) (N := 3) hx hb hg iX2 hown hK hW kd_4 rfl 0 (lt_b rfl) (hg (Cond.fieldLink RX2 9 "SlabWalk$Formulas" "tokens" "LSlabWalk$Tokens;") m301) (fun _ h9 => h9) rfl dX2_passUnit_184 ?_
        refine S_calli (va_runV (As := []) (rest := []) ⟨hx, hb, hml, hown, hts⟩ (k_tAdvance l D k A a z G_132  ) (cwV 0 hts (gd_V hgd m854 m639 m640 m120 m641) rfl rfl rfl hd_X9_advance ⟨show 6 + 1 ≤ fn + 8 from by omega, show 8 + (2 + 11) + (127) ≤ ln + 169 from by omega⟩) (pre_W hW hB_G_132 hK hZ hS kd_3 rfl) rfl rfl hl.1 rfl (lv_room (Nat.le_of_ble_eq_true rfl)) dX2_passUnit_187 ⟨Nat.le_of_ble_eq_true rfl, Nat.le_of_ble_eq_true rfl⟩) hS (fun r_136 G_137 H locs hpo hW hS => ?_)
        have hX_140 : P_tAdvance G_132 r_136 G_137 := hpo
        obtain ⟨hB_G_137, hq_138, f_141, -⟩ := hpo
        have hF := hF.call9 hq_138 rfl rfl
        exact W.zret (v := r_136) hx hb hr (nar_z ((by first | (clear ha_p0 hd b_1 c_2 b_9 c_10 ty_11 ty_13 c_130; omega) | omega)) ((by first | (clear ha_p0 hd b_1 c_2 b_9 c_10 ty_11 ty_13 c_130; omega) | omega))) (fun t ht _ => ⟨⟨r_136, G_137, rfl, (P_fUnit_1_s_mk ⟨hB_G_137, hF, ⟨(by first | (clear ha_p0 hd b_1 c_2 b_9 c_10 ty_11 ty_13 c_130; omega) | omega), (by first | (clear ha_p0 hd b_1 c_2 b_9 c_10 ty_11 ty_13 c_130; omega) | omega)⟩, (Or.inr ⟨c_2, (Or.inl ⟨c_10, ⟨y_11, ty_11, ⟨y_13, ty_13, (Or.inr ⟨(xI_ne (Y := 40) rfl rfl c_15), (Or.inr ⟨(xI_ne (Y := 139) rfl rfl c_22), (Or.inr ⟨(xI_ne (Y := 140) rfl rfl c_34), (Or.inr ⟨(xI_ne (Y := 141) rfl rfl c_46), (Or.inr ⟨(xI_ne (Y := 142) rfl rfl c_58), (Or.inr ⟨(xI_ne (Y := 143) rfl rfl c_70), (Or.inr ⟨(xI_ne (Y := 147) rfl rfl c_82), (Or.inr ⟨(xI_ne (Y := 148) rfl rfl c_94), (Or.inr ⟨(xI_ne (Y := 149) rfl rfl c_106), (Or.inr ⟨(xI_ne (Y := 150) rfl rfl c_118), (Or.inl ⟨c_130, ⟨G_14, hB_G_14, (Fr.put (rs := []) (fs := [(1, 12), (4, 2)]) (Fr.put (rs := []) (fs := [(1, 12), (4, 2)]) Fr.rf eG_12 (Or.inr (by decide))) eG_14 (Or.inr (by decide))), (gp_eq eG_14), ((gp_ne eG_14 (by decide)).trans (gp_eq eG_12)), ⟨G_132, hX_135, ⟨r_136, G_137, hX_140, ⟨rfl, rfl⟩⟩⟩⟩⟩)⟩)⟩)⟩)⟩)⟩)⟩)⟩)⟩)⟩)⟩)⟩⟩⟩)⟩)⟩), wd_t ht hW⟩, hS.F ht⟩) hS.2.2 dX2_passUnit_190
      refine lv_lookup (tgt := 214) hx hb dX2_passUnit_60 (by decide) (off := 154) (by show Op.lookupswitch.offset [(40, 100), (139, 131), (140, 131), (141, 131), (142, 131), (143, 131), (147, 131), (148, 131), (149, 131), (150, 131), (201, 106)] _ _ = _; have c_15 := xI_ne (Y := 40) rfl rfl c_15; have c_22 := xI_ne (Y := 139) rfl rfl c_22; have c_34 := xI_ne (Y := 140) rfl rfl c_34; have c_46 := xI_ne (Y := 141) rfl rfl c_46; have c_58 := xI_ne (Y := 142) rfl rfl c_58; have c_70 := xI_ne (Y := 143) rfl rfl c_70; have c_82 := xI_ne (Y := 147) rfl rfl c_82; have c_94 := xI_ne (Y := 148) rfl rfl c_94; have c_106 := xI_ne (Y := 149) rfl rfl c_106; have c_118 := xI_ne (Y := 150) rfl rfl c_118; have c_130 := xI_ne (Y := 201) rfl rfl c_130; rw [Op.lookupswitch.offset_cons, if_neg (by omega), Op.lookupswitch.offset_cons, if_neg (by omega), Op.lookupswitch.offset_cons, if_neg (by omega), Op.lookupswitch.offset_cons, if_neg (by omega), Op.lookupswitch.offset_cons, if_neg (by omega), Op.lookupswitch.offset_cons, if_neg (by omega), Op.lookupswitch.offset_cons, if_neg (by omega), Op.lookupswitch.offset_cons, if_neg (by omega), Op.lookupswitch.offset_cons, if_neg (by omega), Op.lookupswitch.offset_cons, if_neg (by omega), Op.lookupswitch.offset_cons, if_neg (by omega), Op.lookupswitch.offset_nil]) (by decide) ?_
      have c_15 := xI_ne (Y := 40) rfl rfl c_15
      have c_22 := xI_ne (Y := 139) rfl rfl c_22
      have c_34 := xI_ne (Y := 140) rfl rfl c_34
      have c_46 := xI_ne (Y := 141) rfl rfl c_46
      have c_58 := xI_ne (Y := 142) rfl rfl c_58
      have c_70 := xI_ne (Y := 143) rfl rfl c_70
      have c_82 := xI_ne (Y := 147) rfl rfl c_82
      have c_94 := xI_ne (Y := 148) rfl rfl c_94
      have c_106 := xI_ne (Y := 149) rfl rfl c_106
      have c_118 := xI_ne (Y := 150) rfl rfl c_118
      have c_130 := xI_ne (Y := 201) rfl rfl c_130
      refine lv_aload_n hx hb dX2_passUnit_214 rfl (lv_at hl 0 rfl) ?_
      refine S_getR (n := 3) (C := RX2) (T := TX2) (N := 3) hx hb hg iX2 hown hK hW kd_4 rfl 0 (lt_b rfl) (hg (Cond.fieldLink RX2 9 "SlabWalk$Formulas" "tokens" "LSlabWalk$Tokens;") m301) (fun _ h9 => h9) rfl dX2_passUnit_215 ?_
      refine ic_2 hx hb dX2_passUnit_218 ?_
      refine S_calli (va_runV (As := [.int 2]) (rest := []) ⟨hx, hb, hml, hown, hts⟩ (k_tRefuse l D k A a z G_14 2 ⟨by decide, by decide⟩) (cwV 1 hts (gd_V hgd m849 m779 m780 m120 m781) rfl rfl rfl hd_X9_refuse ⟨show 0 + 1 ≤ fn + 8 from by omega, show 8 + (2 + 11) + (0) ≤ ln + 169 from by omega⟩) (pre_W hW hB_G_14 hK hZ hS kd_3 rfl) rfl rfl hl.1 rfl (lv_room (Nat.le_of_ble_eq_true rfl)) dX2_passUnit_219 ⟨Nat.le_of_ble_eq_true rfl, Nat.le_of_ble_eq_true rfl⟩) hS (fun r_142 G_143 H locs hpo hW hS => ?_)
      have hX_146 : P_tRefuse 2 G_14 r_142 G_143 := hpo
      obtain ⟨hB_G_143, hq_144, f_147, -⟩ := hpo
      have hF := hF.call9 hq_144 rfl rfl
      exact W.zret (v := r_142) hx hb hr (nar_z ((by first | (clear ha_p0 hd b_1 c_2 b_9 c_10 ty_11 ty_13; omega) | omega)) ((by first | (clear ha_p0 hd b_1 c_2 b_9 c_10 ty_11 ty_13; omega) | omega))) (fun t ht _ => ⟨⟨r_142, G_143, rfl, (P_fUnit_1_s_mk ⟨hB_G_143, hF, ⟨(by first | (clear ha_p0 hd b_1 c_2 b_9 c_10 ty_11 ty_13; omega) | omega), (by first | (clear ha_p0 hd b_1 c_2 b_9 c_10 ty_11 ty_13; omega) | omega)⟩, (Or.inr ⟨c_2, (Or.inl ⟨c_10, ⟨y_11, ty_11, ⟨y_13, ty_13, (Or.inr ⟨c_15, (Or.inr ⟨c_22, (Or.inr ⟨c_34, (Or.inr ⟨c_46, (Or.inr ⟨c_58, (Or.inr ⟨c_70, (Or.inr ⟨c_82, (Or.inr ⟨c_94, (Or.inr ⟨c_106, (Or.inr ⟨c_118, (Or.inr ⟨c_130, ⟨G_14, hB_G_14, (Fr.put (rs := []) (fs := [(1, 12), (4, 2)]) (Fr.put (rs := []) (fs := [(1, 12), (4, 2)]) Fr.rf eG_12 (Or.inr (by decide))) eG_14 (Or.inr (by decide))), (gp_eq eG_14), ((gp_ne eG_14 (by decide)).trans (gp_eq eG_12)), ⟨r_142, G_143, hX_146, ⟨rfl, rfl⟩⟩⟩⟩)⟩)⟩)⟩)⟩)⟩)⟩)⟩)⟩)⟩)⟩)⟩⟩⟩)⟩)⟩), wd_t ht hW⟩, hS.F ht⟩) hS.2.2 dX2_passUnit_222
    · have c_10 : 90 ≤ (G.1 1 12).toInt := xI_nlt rfl rfl c_10
      refine lv_aload_n hx hb dX2_passUnit_21 rfl (lv_at hl 0 rfl) ?_
      refine S_getR (n := 3) (C := RX2) (T := TX2) (N := 3) hx hb hg iX2 hown hK hW kd_4 rfl 0 (lt_b rfl) (hg (Cond.fieldLink RX2 9 "SlabWalk$Formulas" "tokens" "LSlabWalk$Tokens;") m301) (fun _ h9 => h9) rfl dX2_passUnit_22 ?_
      refine ic_2 hx hb dX2_passUnit_25 ?_
      refine S_calli (va_runV (As := [.int 2]) (rest := []) ⟨hx, hb, hml, hown, hts⟩ (k_tRefuse l D k A a z G 2 ⟨by decide, by decide⟩) (cwV 1 hts (gd_V hgd m849 m779 m780 m120 m781) rfl rfl rfl hd_X9_refuse ⟨show 0 + 1 ≤ fn + 8 from by omega, show 8 + (2 + 11) + (0) ≤ ln + 169 from by omega⟩) (pre_W hW hB_G hK hZ hS kd_3 rfl) rfl rfl hl.1 rfl (lv_room (Nat.le_of_ble_eq_true rfl)) dX2_passUnit_26 ⟨Nat.le_of_ble_eq_true rfl, Nat.le_of_ble_eq_true rfl⟩) hS (fun r_148 G_149 H locs hpo hW hS => ?_)
      have hX_152 : P_tRefuse 2 G r_148 G_149 := hpo
      obtain ⟨hB_G_149, hq_150, f_153, -⟩ := hpo
      have hF := hF.call9 hq_150 rfl rfl
      exact W.zret (v := r_148) hx hb hr (nar_z ((by first | (clear ha_p0 hd b_1 c_2 b_9 c_10; omega) | omega)) ((by first | (clear ha_p0 hd b_1 c_2 b_9 c_10; omega) | omega))) (fun t ht _ => ⟨⟨r_148, G_149, rfl, (P_fUnit_1_s_mk ⟨hB_G_149, hF, ⟨(by first | (clear ha_p0 hd b_1 c_2 b_9 c_10; omega) | omega), (by first | (clear ha_p0 hd b_1 c_2 b_9 c_10; omega) | omega)⟩, (Or.inr ⟨c_2, (Or.inr ⟨c_10, ⟨r_148, G_149, hX_152, ⟨rfl, rfl⟩⟩⟩)⟩)⟩), wd_t ht hW⟩, hS.F ht⟩) hS.2.2 dX2_passUnit_29

set_option maxHeartbeats 4000000 in
set_option maxRecDepth 100000 in
theorem k_fTerm_1_s (l : Launch) (D : va_G) (k : KT) (A : Nat → Prop) (a : Nat → Nat) (z : SK) (fn ln n : Nat) (E O : XR) (hEb : ∀ (p0 : Int32) (G : GS) (r : Int32) (G1 : GS), E p0 G r G1 → Bd G1 ∧ Fr [17] [(1, 12), (1, 13), (3, 2), (3, 3), (3, 4), (3, 5), (3, 6), (3, 7), (3, 8), (4, 2)] G G1 ∧ (0 ≤ r.toInt ∧ r.toInt ≤ 1)) (hOb : ∀ (p0 : Int32) (G : GS) (r : Int32) (G1 : GS), O p0 G r G1 → Bd G1 ∧ Fr [17] [(1, 12), (1, 13), (3, 2), (3, 3), (3, 4), (3, 5), (3, 6), (3, 7), (3, 8), (4, 2)] G G1 ∧ (0 ≤ r.toInt ∧ r.toInt ≤ 1)) (hE : ∀ (G : GS) (p0 : Int32) (ha_p0 : 0 ≤ p0.toInt ∧ p0.toInt ≤ 7) (hv_4_1 : G.2.2 4 1 = 1) (hd : 8 ≤ p0.toInt + (n : Int)), Met l yX2_passEither (WS yX2_passEither cX2_passEither 3 (some .boolean)) ({ frames := fn + 2, cells := 0, slots := 0, locals := ln + 43 }) (va_Pc [.ref (a 4), .int p0] (cW D k A a z G)) (va_Qi (fun (r : Int32) (G1 : GS) => E p0 G r G1) (fun (G1 : GS) t => Wd D k A a G1 t.heap) A) 0 0 A) (hO : ∀ (G : GS) (p0 : Int32) (ha_p0 : 0 ≤ p0.toInt ∧ p0.toInt ≤ 7) (hv_4_1 : G.2.2 4 1 = 1) (hd : 8 ≤ p0.toInt + (n : Int)), Met l yX2_passOne (WS yX2_passOne cX2_passOne 2 (some .boolean)) ({ frames := fn + 0, cells := 0, slots := 0, locals := ln + 0 }) (va_Pc [.ref (a 4), .int p0] (cW D k A a z G)) (va_Qi (fun (r : Int32) (G1 : GS) => O p0 G r G1) (fun (G1 : GS) t => Wd D k A a G1 t.heap) A) 0 0 A) (G : GS) (p0 : Int32) (ha_p0 : 0 ≤ p0.toInt ∧ p0.toInt ≤ 7) (hv_4_1 : G.2.2 4 1 = 1) (hd : 8 ≤ p0.toInt + (n : Int) + 1) : Met l yX2_passTerm (WS yX2_passTerm cX2_passTerm 4 (some .boolean)) ({ frames := fn + 9, cells := 0, slots := 0, locals := ln + 190 }) (va_Pc [.ref (a 4), .int p0] (cW D k A a z G)) (va_Qi (fun (r : Int32) (G1 : GS) => P_fTerm_1_s E O p0 G r G1) (fun (G1 : GS) t => Wd D k A a G1 t.heap) A) 0 0 A := by
  refine Met.ofW (cc := cX2_passTerm) (maxL := 4) (ret := (some .boolean)) (by decide) rfl ?_
  intro p e s m args below meth c s₁ B hml hv
  obtain ⟨rfl, hW, hB_G, hK, hZ⟩ := hv
  have hx := B.exec
  have hb := B.bytes
  have hr := B.returns
  have hts := atoms_spec (ws := WS yX2_passTerm cX2_passTerm 4 (some .boolean)) B.pre
  have hgd : ∀ w ∈ gd, w ∈ WS yX2_passTerm cX2_passTerm 4 (some .boolean) := fun w h => List.mem_cons_of_mem _ h
  have hg : ∀ w ∈ gd, w.before _ s = true := fun w h => hts w (hgd w h)
  have hown : s.vm.findClass RX2 = some m.cls := findClass_of_methodNamed B.named
  have hS : va_S A s.heap s.heap [] := va_S.rf
  have hF : Fr [17] [(1, 12), (1, 13), (3, 2), (3, 3), (3, 4), (3, 5), (3, 6), (3, 7), (3, 8), (4, 2)] G G := Fr.rf
  have hl := lv_entry ([.ref (a 4), .int p0]) (n := 4) (Nat.le_of_ble_eq_true rfl)
  rw [lg_entry_eq]
  generalize (lg_sl ([.ref (a 4), .int p0]) ++ List.replicate (4 - (lg_sl ([.ref (a 4), .int p0])).length) Slot.unset).toArray = ls at hl ⊢
  have hl : lv_has ls 4 [(0, .ref (a 4)), (1, .int p0)] := hl
  refine lv_aload_n hx hb dX2_passTerm_0 rfl (lv_at hl 0 rfl) ?_
  refine lv_iload_n hx hb dX2_passTerm_1 rfl (lv_at hl 1 rfl) ?_
  refine S_calli (va_runV (As := [.int p0]) (rest := []) ⟨hx, hb, hml, hown, hts⟩ (k_fUnit_1_s l D k A a z fn ln n E O hEb hOb hE hO G p0 ⟨by omega, by omega⟩ hv_4_1 (by omega)) (cwV 1 hts (gd_V hgd m845 m847 m22 m121 m848) rfl rfl rfl hd_X2_passUnit ⟨show fn + 8 + 1 ≤ fn + 9 from by omega, show 8 + (2 + 11) + (ln + 169) ≤ ln + 190 from by omega⟩) (pre_W hW hB_G hK hZ hS kd_4 rfl) rfl rfl hl.1 rfl (lv_room (Nat.le_of_ble_eq_true rfl)) dX2_passTerm_2 ⟨Nat.le_of_ble_eq_true rfl, Nat.le_of_ble_eq_true rfl⟩) hS (fun r_1 G_2 H locs hpo hW hS => ?_)
  have hX_5 : P_fUnit_1_s E O p0 G r_1 G_2 := hpo
  obtain ⟨hB_G_2, hq_3, f_6, -⟩ := hpo
  have hF := hF.call9 hq_3 rfl rfl
  refine lv_if_ne (tgt := 10) hx hb dX2_passTerm_5 rfl (fun c_7 => ?_) (fun c_7 => ?_)
  · have c_7 : r_1.toInt ≠ 0 := xI_ne rfl rfl c_7
    refine ic_0 hx hb dX2_passTerm_10 ?_
    refine lv_istore_n (lv' := [(2, .int 0), (0, .ref (a 4)), (1, .int p0)]) hx hb dX2_passTerm_11 rfl hl (lt_b rfl) rfl (fun ls hl => ?_)
    have qc_14 : (0 : Int32).toInt = 0 := rfl
    refine loop_N (Inv := fun n H locs ls => ∃ (G_8 : GS) (x_12 : Int32), (n : Int) = 1600 - x_12.toInt ∧ (0 ≤ x_12.toInt ∧ x_12.toInt ≤ 1600) ∧ Rc (St_k_fTerm_1_s_1 E O p0) (0, G_2) (x_12, G_8) ∧ Wd D k A a G_8 H ∧ Bd G_8 ∧ Fr [17] [(1, 12), (1, 13), (3, 2), (3, 3), (3, 4), (3, 5), (3, 6), (3, 7), (3, 8), (4, 2)] G G_8 ∧ Fr [17] [(1, 12), (1, 13), (3, 2), (3, 3), (3, 4), (3, 5), (3, 6), (3, 7), (3, 8), (4, 2)] G_2 G_8 ∧ va_S A s.heap H locs ∧ lv_has ls 4 [(2, .int x_12), (0, .ref (a 4)), (1, .int p0)]) (fun n_11 H locs ls ih_10 hI => ?_) (1600 - 0 : Int).toNat ⟨G_2, 0, (Int.toNat_of_nonneg ((by first | (clear ha_p0 hd f_6 c_7; omega) | omega))), ⟨(by first | (clear ha_p0 hd f_6 c_7; omega) | omega), (by first | (clear ha_p0 hd f_6 c_7; omega) | omega)⟩, Rc.rf, hW, hB_G_2, hF, Fr.rf, hS, lv_sub hl [0, 1, 2] rfl⟩
    obtain ⟨G_8, x_12, hn_16, f_15, hX_13, hW, hB_G_8, hF, hq_9, hS, hl⟩ := hI
    refine lv_iload_n hx hb dX2_passTerm_12 rfl (lv_at hl 0 rfl) ?_
    refine lv_sipush (v := 1600) hx hb dX2_passTerm_13 (by decide) ?_
    refine lv_icmp_ge (tgt := 73) hx hb dX2_passTerm_16 rfl (fun c_17 => ?_) (fun c_17 => ?_)
    · have c_17 : 1600 ≤ x_12.toInt := xI_le rfl rfl c_17
      refine ic_1 hx hb dX2_passTerm_73 ?_
      exact W.zret (v := 1) hx hb hr (by decide) (fun t ht _ => ⟨⟨1, G_8, rfl, (P_fTerm_1_s_mk ⟨hB_G_8, hF, ⟨by decide, by decide⟩, ⟨r_1, G_2, hX_5, (Or.inr ⟨c_7, ⟨x_12, G_8, hX_13, f_15, hB_G_8, hq_9, (Or.inl ⟨c_17, ⟨rfl, rfl⟩⟩)⟩⟩)⟩⟩), wd_t ht hW⟩, hS.F ht⟩) hS.2.2 dX2_passTerm_74
    · have c_17 : x_12.toInt < 1600 := xI_nle rfl rfl c_17
      refine lv_aload_n hx hb dX2_passTerm_19 rfl (lv_at hl 1 rfl) ?_
      refine S_getR (n := 3) (C := RX2) (T := TX2) (N := 3) hx hb hg iX2 hown hK hW kd_4 rfl 0 (lt_b rfl) (hg (Cond.fieldLink RX2 9 "SlabWalk$Formulas" "tokens" "LSlabWalk$Tokens;") m301) (fun _ h9 => h9) rfl dX2_passTerm_20 ?_
      refine S_getI (v := (G_8.1 3 3)) (C := RX9) (T := TX9) (N := 9) hx hb hg iX9 hown hK hW kd_3 rfl 3 (lt_b rfl) (hg (Cond.fieldLink RX2 30 "SlabWalk$Tokens" "kind" "I") m263) (fun _ h9 => h9) rfl rfl dX2_passTerm_23 ?_
      refine S_calli (va_runS (As := [.int (G_8.1 3 3)]) (rest := []) ⟨hx, hb, hml, hown, hts⟩ (k_fTimes l D k A a z G_8 (G_8.1 3 3) ) (va_cwS 1 hts (gd_S hgd m859 m860 m121 m861) rfl rfl rfl hd_X2_isTimes.2 ⟨show 0 + 1 ≤ fn + 9 from by omega, show 8 + (1 + 11) + (0) ≤ ln + 190 from by omega⟩) (pre_S hW hB_G_8 hK hZ hS) rfl rfl hl.1 rfl (lv_room (Nat.le_of_ble_eq_true rfl)) dX2_passTerm_26 ⟨Nat.le_of_ble_eq_true rfl, Nat.le_of_ble_eq_true rfl⟩) hS (fun r_18 G_19 H locs hpo hW hS => ?_)
      have hX_22 : P_fTimes (G_8.1 3 3) G_8 r_18 G_19 := hpo
      obtain ⟨hB_G_19, hq_20, f_23, -⟩ := hpo
      have hF := hF.call9 hq_20 rfl rfl
      refine lv_if_eq (tgt := 73) hx hb dX2_passTerm_29 rfl (fun c_24 => ?_) (fun c_24 => ?_)
      · have c_24 : r_18.toInt = 0 := xI_eq rfl rfl c_24
        refine ic_1 hx hb dX2_passTerm_73 ?_
        exact W.zret (v := 1) hx hb hr (by decide) (fun t ht _ => ⟨⟨1, G_19, rfl, (P_fTerm_1_s_mk ⟨hB_G_19, hF, ⟨by decide, by decide⟩, ⟨r_1, G_2, hX_5, (Or.inr ⟨c_7, ⟨x_12, G_8, hX_13, f_15, hB_G_8, hq_9, (Or.inr ⟨c_17, ⟨r_18, G_19, hX_22, (Or.inl ⟨c_24, ⟨rfl, rfl⟩⟩)⟩⟩)⟩⟩)⟩⟩), wd_t ht hW⟩, hS.F ht⟩) hS.2.2 dX2_passTerm_74
      · have c_24 : r_18.toInt ≠ 0 := xI_ne rfl rfl c_24
        refine lv_aload_n hx hb dX2_passTerm_32 rfl (lv_at hl 1 rfl) ?_
        refine S_getR (n := 3) (C := RX2) (T := TX2) (N := 3) hx hb hg iX2 hown hK hW kd_4 rfl 0 (lt_b rfl) (hg (Cond.fieldLink RX2 9 "SlabWalk$Formulas" "tokens" "LSlabWalk$Tokens;") m301) (fun _ h9 => h9) rfl dX2_passTerm_33 ?_
        refine S_getI (v := (G_8.1 3 3)) (C := RX9) (T := TX9) (N := 9) hx hb hg iX9 hown hK hW kd_3 rfl 3 (lt_b rfl) (hg (Cond.fieldLink RX2 30 "SlabWalk$Tokens" "kind" "I") m263) (fun _ h9 => h9) rfl ((hq_20.i9 3 3 rfl rfl).trans (rfl)) dX2_passTerm_36 ?_
        refine lv_istore_n (lv' := [(3, .int (G_8.1 3 3)), (2, .int x_12), (0, .ref (a 4)), (1, .int p0)]) hx hb dX2_passTerm_39 rfl hl (lt_b rfl) rfl (fun ls hl => ?_)
        refine lv_aload_n hx hb dX2_passTerm_40 rfl (lv_at hl 2 rfl) ?_
        refine S_getR (n := 3) (C := RX2) (T := TX2) (N := 3) hx hb hg iX2 hown hK hW kd_4 rfl 0 (lt_b rfl) (hg (Cond.fieldLink RX2 9 "SlabWalk$Formulas" "tokens" "LSlabWalk$Tokens;") m301) (fun _ h9 => h9) rfl dX2_passTerm_41 ?_
        refine S_calli (va_runV (As := []) (rest := []) ⟨hx, hb, hml, hown, hts⟩ (k_tAdvance l D k A a z G_19  ) (cwV 0 hts (gd_V hgd m854 m639 m640 m120 m641) rfl rfl rfl hd_X9_advance ⟨show 6 + 1 ≤ fn + 9 from by omega, show 8 + (2 + 11) + (127) ≤ ln + 190 from by omega⟩) (pre_W hW hB_G_19 hK hZ hS kd_3 rfl) rfl rfl hl.1 rfl (lv_room (Nat.le_of_ble_eq_true rfl)) dX2_passTerm_44 ⟨Nat.le_of_ble_eq_true rfl, Nat.le_of_ble_eq_true rfl⟩) hS (fun r_25 G_26 H locs hpo hW hS => ?_)
        have hX_29 : P_tAdvance G_19 r_25 G_26 := hpo
        obtain ⟨hB_G_26, hq_27, f_30, -⟩ := hpo
        have hF := hF.call9 hq_27 rfl rfl
        refine lv_pop hx hb dX2_passTerm_47 rfl ?_
        refine lv_aload_n hx hb dX2_passTerm_48 rfl (lv_at hl 2 rfl) ?_
        refine lv_iload_n hx hb dX2_passTerm_49 rfl (lv_at hl 3 rfl) ?_
        refine S_calli (va_runV (As := [.int p0]) (rest := []) ⟨hx, hb, hml, hown, hts⟩ (k_fUnit_1_s l D k A a z fn ln n E O hEb hOb hE hO G_26 p0 ⟨(by first | (clear f_6 c_7 hn_16 f_15 c_17 f_23 c_24 f_30; omega) | omega), (by first | (clear f_6 c_7 hn_16 f_15 c_17 f_23 c_24 f_30; omega) | omega)⟩ ((((hq_27.r9 4 1 rfl rfl).trans ((hq_20.r9 4 1 rfl rfl).trans ((hq_9.r9 4 1 rfl rfl).trans (hq_3.r9 4 1 rfl rfl))))).trans (hv_4_1)) ((by first | (clear f_6 c_7 hn_16 f_15 c_17 f_23 c_24 f_30; omega) | omega))) (cwV 1 hts (gd_V hgd m845 m847 m22 m121 m848) rfl rfl rfl hd_X2_passUnit ⟨show fn + 8 + 1 ≤ fn + 9 from by omega, show 8 + (2 + 11) + (ln + 169) ≤ ln + 190 from by omega⟩) (pre_W hW hB_G_26 hK hZ hS kd_4 rfl) rfl rfl hl.1 rfl (lv_room (Nat.le_of_ble_eq_true rfl)) dX2_passTerm_50 ⟨Nat.le_of_ble_eq_true rfl, Nat.le_of_ble_eq_true rfl⟩) hS (fun r_31 G_32 H locs hpo hW hS => ?_)
        have hX_35 : P_fUnit_1_s E O p0 G_26 r_31 G_32 := hpo
        obtain ⟨hB_G_32, hq_33, f_36, -⟩ := hpo
        have hF := hF.call9 hq_33 rfl rfl
        refine lv_if_ne (tgt := 58) hx hb dX2_passTerm_53 rfl (fun c_37 => ?_) (fun c_37 => ?_)
        · have c_37 : r_31.toInt ≠ 0 := xI_ne rfl rfl c_37
          refine lv_aload_n hx hb dX2_passTerm_58 rfl (lv_at hl 2 rfl) ?_
          refine S_getV (n := 1) (C := RX2) (T := TX2) (N := 3) hx hb hg iX2 hown hK hW kd_4 rfl 1 (lt_b rfl) (hg (Cond.fieldLink RX2 15 "SlabWalk$Formulas" "paving" "LSlabWalk$Paving;") m302) (fun _ h9 => h9) rfl ((((hq_33.r9 4 1 rfl rfl).trans ((hq_27.r9 4 1 rfl rfl).trans ((hq_20.r9 4 1 rfl rfl).trans ((hq_9.r9 4 1 rfl rfl).trans (hq_3.r9 4 1 rfl rfl)))))).trans (hv_4_1)) dX2_passTerm_59 ?_
          refine lv_iload_n hx hb dX2_passTerm_62 rfl (lv_at hl 0 rfl) ?_
          refine ic_0 hx hb dX2_passTerm_63 ?_
          refine S_callv (va_runV (As := [.int (G_8.1 3 3), .int 0]) (rest := []) ⟨hx, hb, hml, hown, hts⟩ (k_emit_1 l D k A a z G_32 (G_8.1 3 3) 0 ) (cwV 2 hts (gd_V hgd m855 m856 m857 m118 m858) rfl rfl rfl hd_X6_emit ⟨show 0 + 1 ≤ fn + 9 from by omega, show 8 + (3 + 11) + (0) ≤ ln + 190 from by omega⟩) (pre_W hW hB_G_32 hK hZ hS kd_1 rfl) rfl rfl hl.1 rfl (lv_room (Nat.le_of_ble_eq_true rfl)) dX2_passTerm_64 ⟨Nat.le_of_ble_eq_true rfl, Nat.le_of_ble_eq_true rfl⟩) hS (fun G_39 H locs hpo hW hS => ?_)
          have hX_42 : P_emit_1 (G_8.1 3 3) 0 G_32 G_39 := hpo
          obtain ⟨hB_G_39, hq_40, -⟩ := hpo
          have hF := hF.call9 hq_40 rfl rfl
          obtain ⟨y_43, ey_43⟩ : ∃ q, q = x_12 + 1 := ⟨_, rfl⟩
          have ty_43 : y_43.toInt = x_12.toInt + 1 := xI_add rfl rfl ey_43 ((by first | (clear ha_p0 hd f_6 c_7 hn_16 f_23 c_24 f_30 f_36 c_37; omega) | omega)) ((by first | (clear ha_p0 hd f_6 c_7 hn_16 f_23 c_24 f_30 f_36 c_37; omega) | omega))
          refine lv_iinc (v := y_43) (lv' := [(2, .int y_43), (3, .int (G_8.1 3 3)), (0, .ref (a 4)), (1, .int p0)]) hx hb dX2_passTerm_67 hl (k := 1) rfl (by rw [ey_43]; rfl) (lt_b rfl) rfl (fun ls hl => ?_)
          refine lv_goto (tgt := 12) hx hb dX2_passTerm_70 rfl ?_
          exact ih_10 (1600 - y_43.toInt : Int).toNat ((by first | (clear ha_p0 hd f_6 c_7 f_23 c_24 f_30 f_36 c_37; omega) | omega)) _ _ _ ⟨G_39, y_43, (Int.toNat_of_nonneg ((by first | (clear ha_p0 hd f_6 c_7 hn_16 f_23 c_24 f_30 f_36 c_37; omega) | omega))), ⟨(by first | (clear ha_p0 hd f_6 c_7 hn_16 f_23 c_24 f_30 f_36 c_37; omega) | omega), (by first | (clear ha_p0 hd f_6 c_7 hn_16 f_23 c_24 f_30 f_36 c_37; omega) | omega)⟩, (hX_13.st (St_k_fTerm_1_s_1_mk ⟨x_12, G_8, y_43, G_39, rfl, rfl, f_15, hB_G_8, ⟨c_17, ⟨r_18, G_19, hX_22, ⟨c_24, ⟨r_25, G_26, hX_29, ⟨r_31, G_32, hX_35, ⟨c_37, ⟨G_39, hX_42, ⟨y_43, ty_43, ⟨rfl, rfl⟩⟩⟩⟩⟩⟩⟩⟩⟩⟩)), hW, hB_G_39, hF, (Fr.call9 (rs := [17]) (fs := [(1, 12), (1, 13), (3, 2), (3, 3), (3, 4), (3, 5), (3, 6), (3, 7), (3, 8), (4, 2)]) (Fr.call9 (rs := [17]) (fs := [(1, 12), (1, 13), (3, 2), (3, 3), (3, 4), (3, 5), (3, 6), (3, 7), (3, 8), (4, 2)]) (Fr.call9 (rs := [17]) (fs := [(1, 12), (1, 13), (3, 2), (3, 3), (3, 4), (3, 5), (3, 6), (3, 7), (3, 8), (4, 2)]) (Fr.call9 (rs := [17]) (fs := [(1, 12), (1, 13), (3, 2), (3, 3), (3, 4), (3, 5), (3, 6), (3, 7), (3, 8), (4, 2)]) (Fr.call9 (rs := [17]) (fs := [(1, 12), (1, 13), (3, 2), (3, 3), (3, 4), (3, 5), (3, 6), (3, 7), (3, 8), (4, 2)]) Fr.rf hq_9 rfl rfl) hq_20 rfl rfl) hq_27 rfl rfl) hq_33 rfl rfl) hq_40 rfl rfl), hS, lv_sub hl [0, 2, 3] rfl⟩
        · have c_37 : r_31.toInt = 0 := xI_eq rfl rfl c_37
          refine ic_0 hx hb dX2_passTerm_56 ?_
          exact W.zret (v := 0) hx hb hr (by decide) (fun t ht _ => ⟨⟨0, G_32, rfl, (P_fTerm_1_s_mk ⟨hB_G_32, hF, ⟨by decide, by decide⟩, ⟨r_1, G_2, hX_5, (Or.inr ⟨c_7, ⟨x_12, G_8, hX_13, f_15, hB_G_8, hq_9, (Or.inr ⟨c_17, ⟨r_18, G_19, hX_22, (Or.inr ⟨c_24, ⟨r_25, G_26, hX_29, ⟨r_31, G_32, hX_35, ⟨c_37, ⟨rfl, rfl⟩⟩⟩⟩⟩)⟩⟩)⟩⟩)⟩⟩), wd_t ht hW⟩, hS.F ht⟩) hS.2.2 dX2_passTerm_57
  · have c_7 : r_1.toInt = 0 := xI_eq rfl rfl c_7
    refine ic_0 hx hb dX2_passTerm_8 ?_
    exact W.zret (v := 0) hx hb hr (by decide) (fun t ht _ => ⟨⟨0, G_2, rfl, (P_fTerm_1_s_mk ⟨hB_G_2, hF, ⟨by decide, by decide⟩, ⟨r_1, G_2, hX_5, (Or.inl ⟨c_7, ⟨rfl, rfl⟩⟩)⟩⟩), wd_t ht hW⟩, hS.F ht⟩) hS.2.2 dX2_passTerm_9

set_option maxHeartbeats 4000000 in
set_option maxRecDepth 100000 in
theorem k_fSum_1_s (l : Launch) (D : va_G) (k : KT) (A : Nat → Prop) (a : Nat → Nat) (z : SK) (fn ln n : Nat) (E O : XR) (hEb : ∀ (p0 : Int32) (G : GS) (r : Int32) (G1 : GS), E p0 G r G1 → Bd G1 ∧ Fr [17] [(1, 12), (1, 13), (3, 2), (3, 3), (3, 4), (3, 5), (3, 6), (3, 7), (3, 8), (4, 2)] G G1 ∧ (0 ≤ r.toInt ∧ r.toInt ≤ 1)) (hOb : ∀ (p0 : Int32) (G : GS) (r : Int32) (G1 : GS), O p0 G r G1 → Bd G1 ∧ Fr [17] [(1, 12), (1, 13), (3, 2), (3, 3), (3, 4), (3, 5), (3, 6), (3, 7), (3, 8), (4, 2)] G G1 ∧ (0 ≤ r.toInt ∧ r.toInt ≤ 1)) (hE : ∀ (G : GS) (p0 : Int32) (ha_p0 : 0 ≤ p0.toInt ∧ p0.toInt ≤ 7) (hv_4_1 : G.2.2 4 1 = 1) (hd : 8 ≤ p0.toInt + (n : Int)), Met l yX2_passEither (WS yX2_passEither cX2_passEither 3 (some .boolean)) ({ frames := fn + 2, cells := 0, slots := 0, locals := ln + 43 }) (va_Pc [.ref (a 4), .int p0] (cW D k A a z G)) (va_Qi (fun (r : Int32) (G1 : GS) => E p0 G r G1) (fun (G1 : GS) t => Wd D k A a G1 t.heap) A) 0 0 A) (hO : ∀ (G : GS) (p0 : Int32) (ha_p0 : 0 ≤ p0.toInt ∧ p0.toInt ≤ 7) (hv_4_1 : G.2.2 4 1 = 1) (hd : 8 ≤ p0.toInt + (n : Int)), Met l yX2_passOne (WS yX2_passOne cX2_passOne 2 (some .boolean)) ({ frames := fn + 0, cells := 0, slots := 0, locals := ln + 0 }) (va_Pc [.ref (a 4), .int p0] (cW D k A a z G)) (va_Qi (fun (r : Int32) (G1 : GS) => O p0 G r G1) (fun (G1 : GS) t => Wd D k A a G1 t.heap) A) 0 0 A) (G : GS) (p0 : Int32) (ha_p0 : 0 ≤ p0.toInt ∧ p0.toInt ≤ 7) (hv_4_1 : G.2.2 4 1 = 1) (hd : 8 ≤ p0.toInt + (n : Int) + 1) : Met l yX2_passSum (WS yX2_passSum cX2_passSum 4 (some .boolean)) ({ frames := fn + 10, cells := 0, slots := 0, locals := ln + 213 }) (va_Pc [.ref (a 4), .int p0] (cW D k A a z G)) (va_Qi (fun (r : Int32) (G1 : GS) => P_fSum_1_s E O p0 G r G1) (fun (G1 : GS) t => Wd D k A a G1 t.heap) A) 0 0 A := by
  refine Met.ofW (cc := cX2_passSum) (maxL := 4) (ret := (some .boolean)) (by decide) rfl ?_
  intro p e s m args below meth c s₁ B hml hv
  obtain ⟨rfl, hW, hB_G, hK, hZ⟩ := hv
  have hx := B.exec
  have hb := B.bytes
  have hr := B.returns
  have hts := atoms_spec (ws := WS yX2_passSum cX2_passSum 4 (some .boolean)) B.pre
  have hgd : ∀ w ∈ gd, w ∈ WS yX2_passSum cX2_passSum 4 (some .boolean) := fun w h => List.mem_cons_of_mem _ h
  have hg : ∀ w ∈ gd, w.before _ s = true := fun w h => hts w (hgd w h)
  have hown : s.vm.findClass RX2 = some m.cls := findClass_of_methodNamed B.named
  have hS : va_S A s.heap s.heap [] := va_S.rf
  have hF : Fr [17] [(1, 12), (1, 13), (3, 2), (3, 3), (3, 4), (3, 5), (3, 6), (3, 7), (3, 8), (4, 2)] G G := Fr.rf
  have hl := lv_entry ([.ref (a 4), .int p0]) (n := 4) (Nat.le_of_ble_eq_true rfl)
  rw [lg_entry_eq]
  generalize (lg_sl ([.ref (a 4), .int p0]) ++ List.replicate (4 - (lg_sl ([.ref (a 4), .int p0])).length) Slot.unset).toArray = ls at hl ⊢
  have hl : lv_has ls 4 [(0, .ref (a 4)), (1, .int p0)] := hl
  refine lv_aload_n hx hb dX2_passSum_0 rfl (lv_at hl 0 rfl) ?_
  refine lv_iload_n hx hb dX2_passSum_1 rfl (lv_at hl 1 rfl) ?_
  refine S_calli (va_runV (As := [.int p0]) (rest := []) ⟨hx, hb, hml, hown, hts⟩ (k_fTerm_1_s l D k A a z fn ln n E O hEb hOb hE hO G p0 ⟨by omega, by omega⟩ hv_4_1 (by omega)) (cwV 1 hts (gd_V hgd m841 m843 m21 m121 m844) rfl rfl rfl hd_X2_passTerm ⟨show fn + 9 + 1 ≤ fn + 10 from by omega, show 8 + (4 + 11) + (ln + 190) ≤ ln + 213 from by omega⟩) (pre_W hW hB_G hK hZ hS kd_4 rfl) rfl rfl hl.1 rfl (lv_room (Nat.le_of_ble_eq_true rfl)) dX2_passSum_2 ⟨Nat.le_of_ble_eq_true rfl, Nat.le_of_ble_eq_true rfl⟩) hS (fun r_1 G_2 H locs hpo hW hS => ?_)
  have hX_5 : P_fTerm_1_s E O p0 G r_1 G_2 := hpo
  obtain ⟨hB_G_2, hq_3, f_6, -⟩ := hpo
  have hF := hF.call9 hq_3 rfl rfl
  refine lv_if_ne (tgt := 10) hx hb dX2_passSum_5 rfl (fun c_7 => ?_) (fun c_7 => ?_)
  · have c_7 : r_1.toInt ≠ 0 := xI_ne rfl rfl c_7
    refine ic_0 hx hb dX2_passSum_10 ?_
    refine lv_istore_n (lv' := [(2, .int 0), (0, .ref (a 4)), (1, .int p0)]) hx hb dX2_passSum_11 rfl hl (lt_b rfl) rfl (fun ls hl => ?_)
    have qc_14 : (0 : Int32).toInt = 0 := rfl
    refine loop_N (Inv := fun n H locs ls => ∃ (G_8 : GS) (x_12 : Int32), (n : Int) = 1600 - x_12.toInt ∧ (0 ≤ x_12.toInt ∧ x_12.toInt ≤ 1600) ∧ Rc (St_k_fSum_1_s_1 E O p0) (0, G_2) (x_12, G_8) ∧ Wd D k A a G_8 H ∧ Bd G_8 ∧ Fr [17] [(1, 12), (1, 13), (3, 2), (3, 3), (3, 4), (3, 5), (3, 6), (3, 7), (3, 8), (4, 2)] G G_8 ∧ Fr [17] [(1, 12), (1, 13), (3, 2), (3, 3), (3, 4), (3, 5), (3, 6), (3, 7), (3, 8), (4, 2)] G_2 G_8 ∧ va_S A s.heap H locs ∧ lv_has ls 4 [(2, .int x_12), (0, .ref (a 4)), (1, .int p0)]) (fun n_11 H locs ls ih_10 hI => ?_) (1600 - 0 : Int).toNat ⟨G_2, 0, (Int.toNat_of_nonneg ((by first | (clear ha_p0 hd f_6 c_7; omega) | omega))), ⟨(by first | (clear ha_p0 hd f_6 c_7; omega) | omega), (by first | (clear ha_p0 hd f_6 c_7; omega) | omega)⟩, Rc.rf, hW, hB_G_2, hF, Fr.rf, hS, lv_sub hl [0, 1, 2] rfl⟩
    obtain ⟨G_8, x_12, hn_16, f_15, hX_13, hW, hB_G_8, hF, hq_9, hS, hl⟩ := hI
    refine lv_iload_n hx hb dX2_passSum_12 rfl (lv_at hl 0 rfl) ?_
    refine lv_sipush (v := 1600) hx hb dX2_passSum_13 (by decide) ?_
    refine lv_icmp_ge (tgt := 84) hx hb dX2_passSum_16 rfl (fun c_17 => ?_) (fun c_17 => ?_)
    · have c_17 : 1600 ≤ x_12.toInt := xI_le rfl rfl c_17
      refine ic_1 hx hb dX2_passSum_84 ?_
      exact W.zret (v := 1) hx hb hr (by decide) (fun t ht _ => ⟨⟨1, G_8, rfl, (P_fSum_1_s_mk ⟨hB_G_8, hF, ⟨by decide, by decide⟩, ⟨r_1, G_2, hX_5, (Or.inr ⟨c_7, ⟨x_12, G_8, hX_13, f_15, hB_G_8, hq_9, (Or.inl ⟨c_17, ⟨rfl, rfl⟩⟩)⟩⟩)⟩⟩), wd_t ht hW⟩, hS.F ht⟩) hS.2.2 dX2_passSum_85
    · have c_17 : x_12.toInt < 1600 := xI_nle rfl rfl c_17
      refine lv_aload_n hx hb dX2_passSum_19 rfl (lv_at hl 1 rfl) ?_
      refine S_getR (n := 3) (C := RX2) (T := TX2) (N := 3) hx hb hg iX2 hown hK hW kd_4 rfl 0 (lt_b rfl) (hg (Cond.fieldLink RX2 9 "SlabWalk$Formulas" "tokens" "LSlabWalk$Tokens;") m301) (fun _ h9 => h9) rfl dX2_passSum_20 ?_
      refine S_getI (v := (G_8.1 3 3)) (C := RX9) (T := TX9) (N := 9) hx hb hg iX9 hown hK hW kd_3 rfl 3 (lt_b rfl) (hg (Cond.fieldLink RX2 30 "SlabWalk$Tokens" "kind" "I") m263) (fun _ h9 => h9) rfl rfl dX2_passSum_23 ?_
      refine lv_bipush (v := 43) hx hb dX2_passSum_26 (by decide) ?_
      refine W.cut (σ := Unit) (pcJ := 43) (J := fun y H locs ls => ∃ (G_21 : GS), Jn_k_fSum_1_s_2 E O G_8 G_21 ∧ Wd D k A a G_21 H ∧ Bd G_21 ∧ Fr [17] [(1, 12), (1, 13), (3, 2), (3, 3), (3, 4), (3, 5), (3, 6), (3, 7), (3, 8), (4, 2)] G G_21 ∧ Fr [] [] G_8 G_21 ∧ va_S A s.heap H locs ∧ lv_has ls 4 [(2, .int x_12), (0, .ref (a 4)), (1, .int p0)]) (stJ := fun _ => []) ?_ (fun hJ_22 => ?_)
      · intro y H locs ls hI
        obtain ⟨G_21, hX_24, hW, hB_G_21, hF, hq_23, hS, hl⟩ := hI
        refine lv_aload_n hx hb dX2_passSum_43 rfl (lv_at hl 1 rfl) ?_
        refine S_getR (n := 3) (C := RX2) (T := TX2) (N := 3) hx hb hg iX2 hown hK hW kd_4 rfl 0 (lt_b rfl) (hg (Cond.fieldLink RX2 9 "SlabWalk$Formulas" "tokens" "LSlabWalk$Tokens;") m301) (fun _ h9 => h9) rfl dX2_passSum_44 ?_
        refine S_getI (v := (G_8.1 3 3)) (C := RX9) (T := TX9) (N := 9) hx hb hg iX9 hown hK hW kd_3 rfl 3 (lt_b rfl) (hg (Cond.fieldLink RX2 30 "SlabWalk$Tokens" "kind" "I") m263) (fun _ h9 => h9) rfl ((hq_23.i9 3 3 rfl rfl).trans (rfl)) dX2_passSum_47 ?_
        refine lv_istore_n (lv' := [(3, .int (G_8.1 3 3)), (2, .int x_12), (0, .ref (a 4)), (1, .int p0)]) hx hb dX2_passSum_50 rfl hl (lt_b rfl) rfl (fun ls hl => ?_)
        refine lv_aload_n hx hb dX2_passSum_51 rfl (lv_at hl 2 rfl) ?_
        refine S_getR (n := 3) (C := RX2) (T := TX2) (N := 3) hx hb hg iX2 hown hK hW kd_4 rfl 0 (lt_b rfl) (hg (Cond.fieldLink RX2 9 "SlabWalk$Formulas" "tokens" "LSlabWalk$Tokens;") m301) (fun _ h9 => h9) rfl dX2_passSum_52 ?_
        refine S_calli (va_runV (As := []) (rest := []) ⟨hx, hb, hml, hown, hts⟩ (k_tAdvance l D k A a z G_21  ) (cwV 0 hts (gd_V hgd m854 m639 m640 m120 m641) rfl rfl rfl hd_X9_advance ⟨show 6 + 1 ≤ fn + 10 from by omega, show 8 + (2 + 11) + (127) ≤ ln + 213 from by omega⟩) (pre_W hW hB_G_21 hK hZ hS kd_3 rfl) rfl rfl hl.1 rfl (lv_room (Nat.le_of_ble_eq_true rfl)) dX2_passSum_55 ⟨Nat.le_of_ble_eq_true rfl, Nat.le_of_ble_eq_true rfl⟩) hS (fun r_25 G_26 H locs hpo hW hS => ?_)
        have hX_29 : P_tAdvance G_21 r_25 G_26 := hpo
        obtain ⟨hB_G_26, hq_27, f_30, -⟩ := hpo
        have hF := hF.call9 hq_27 rfl rfl
        refine lv_pop hx hb dX2_passSum_58 rfl ?_
        refine lv_aload_n hx hb dX2_passSum_59 rfl (lv_at hl 2 rfl) ?_
        refine lv_iload_n hx hb dX2_passSum_60 rfl (lv_at hl 3 rfl) ?_
        refine S_calli (va_runV (As := [.int p0]) (rest := []) ⟨hx, hb, hml, hown, hts⟩ (k_fTerm_1_s l D k A a z fn ln n E O hEb hOb hE hO G_26 p0 ⟨(by first | (clear f_6 c_7 hn_16 f_15 c_17 f_30; omega) | omega), (by first | (clear f_6 c_7 hn_16 f_15 c_17 f_30; omega) | omega)⟩ ((((hq_27.r9 4 1 rfl rfl).trans ((hq_23.r9 4 1 rfl rfl).trans ((hq_9.r9 4 1 rfl rfl).trans (hq_3.r9 4 1 rfl rfl))))).trans (hv_4_1)) ((by first | (clear f_6 c_7 hn_16 f_15 c_17 f_30; omega) | omega))) (cwV 1 hts (gd_V hgd m841 m843 m21 m121 m844) rfl rfl rfl hd_X2_passTerm ⟨show fn + 9 + 1 ≤ fn + 10 from by omega, show 8 + (4 + 11) + (ln + 190) ≤ ln + 213 from by omega⟩) (pre_W hW hB_G_26 hK hZ hS kd_4 rfl) rfl rfl hl.1 rfl (lv_room (Nat.le_of_ble_eq_true rfl)) dX2_passSum_61 ⟨Nat.le_of_ble_eq_true rfl, Nat.le_of_ble_eq_true rfl⟩) hS (fun r_31 G_32 H locs hpo hW hS => ?_)
        have hX_35 : P_fTerm_1_s E O p0 G_26 r_31 G_32 := hpo
        obtain ⟨hB_G_32, hq_33, f_36, -⟩ := hpo
        have hF := hF.call9 hq_33 rfl rfl
        refine lv_if_ne (tgt := 69) hx hb dX2_passSum_64 rfl (fun c_37 => ?_) (fun c_37 => ?_)
        · have c_37 : r_31.toInt ≠ 0 := xI_ne rfl rfl c_37
          refine lv_aload_n hx hb dX2_passSum_69 rfl (lv_at hl 2 rfl) ?_
          refine S_getV (n := 1) (C := RX2) (T := TX2) (N := 3) hx hb hg iX2 hown hK hW kd_4 rfl 1 (lt_b rfl) (hg (Cond.fieldLink RX2 15 "SlabWalk$Formulas" "paving" "LSlabWalk$Paving;") m302) (fun _ h9 => h9) rfl ((((hq_33.r9 4 1 rfl rfl).trans ((hq_27.r9 4 1 rfl rfl).trans ((hq_23.r9 4 1 rfl rfl).trans ((hq_9.r9 4 1 rfl rfl).trans (hq_3.r9 4 1 rfl rfl)))))).trans (hv_4_1)) dX2_passSum_70 ?_
          refine lv_iload_n hx hb dX2_passSum_73 rfl (lv_at hl 0 rfl) ?_
          refine ic_0 hx hb dX2_passSum_74 ?_
          refine S_callv (va_runV (As := [.int (G_8.1 3 3), .int 0]) (rest := []) ⟨hx, hb, hml, hown, hts⟩ (k_emit_1 l D k A a z G_32 (G_8.1 3 3) 0 ) (cwV 2 hts (gd_V hgd m855 m856 m857 m118 m858) rfl rfl rfl hd_X6_emit ⟨show 0 + 1 ≤ fn + 10 from by omega, show 8 + (3 + 11) + (0) ≤ ln + 213 from by omega⟩) (pre_W hW hB_G_32 hK hZ hS kd_1 rfl) rfl rfl hl.1 rfl (lv_room (Nat.le_of_ble_eq_true rfl)) dX2_passSum_75 ⟨Nat.le_of_ble_eq_true rfl, Nat.le_of_ble_eq_true rfl⟩) hS (fun G_39 H locs hpo hW hS => ?_)
          have hX_42 : P_emit_1 (G_8.1 3 3) 0 G_32 G_39 := hpo
          obtain ⟨hB_G_39, hq_40, -⟩ := hpo
          have hF := hF.call9 hq_40 rfl rfl
          obtain ⟨y_43, ey_43⟩ : ∃ q, q = x_12 + 1 := ⟨_, rfl⟩
          have ty_43 : y_43.toInt = x_12.toInt + 1 := xI_add rfl rfl ey_43 ((by first | (clear ha_p0 hd f_6 c_7 hn_16 f_30 f_36 c_37; omega) | omega)) ((by first | (clear ha_p0 hd f_6 c_7 hn_16 f_30 f_36 c_37; omega) | omega))
          refine lv_iinc (v := y_43) (lv' := [(2, .int y_43), (3, .int (G_8.1 3 3)), (0, .ref (a 4)), (1, .int p0)]) hx hb dX2_passSum_78 hl (k := 1) rfl (by rw [ey_43]; rfl) (lt_b rfl) rfl (fun ls hl => ?_)
          refine lv_goto (tgt := 12) hx hb dX2_passSum_81 rfl ?_
          exact ih_10 (1600 - y_43.toInt : Int).toNat ((by first | (clear ha_p0 hd f_6 c_7 f_30 f_36 c_37; omega) | omega)) _ _ _ ⟨G_39, y_43, (Int.toNat_of_nonneg ((by first | (clear ha_p0 hd f_6 c_7 hn_16 f_30 f_36 c_37; omega) | omega))), ⟨(by first | (clear ha_p0 hd f_6 c_7 hn_16 f_30 f_36 c_37; omega) | omega), (by first | (clear ha_p0 hd f_6 c_7 hn_16 f_30 f_36 c_37; omega) | omega)⟩, (hX_13.st (St_k_fSum_1_s_1_mk ⟨x_12, G_8, y_43, G_39, rfl, rfl, f_15, hB_G_8, ⟨c_17, ⟨G_21, hX_24, hB_G_21, hq_23, ⟨r_25, G_26, hX_29, ⟨r_31, G_32, hX_35, ⟨c_37, ⟨G_39, hX_42, ⟨y_43, ty_43, ⟨rfl, rfl⟩⟩⟩⟩⟩⟩⟩⟩⟩)), hW, hB_G_39, hF, (Fr.call9 (rs := [17]) (fs := [(1, 12), (1, 13), (3, 2), (3, 3), (3, 4), (3, 5), (3, 6), (3, 7), (3, 8), (4, 2)]) (Fr.call9 (rs := [17]) (fs := [(1, 12), (1, 13), (3, 2), (3, 3), (3, 4), (3, 5), (3, 6), (3, 7), (3, 8), (4, 2)]) (Fr.call9 (rs := [17]) (fs := [(1, 12), (1, 13), (3, 2), (3, 3), (3, 4), (3, 5), (3, 6), (3, 7), (3, 8), (4, 2)]) (Fr.call9 (rs := [17]) (fs := [(1, 12), (1, 13), (3, 2), (3, 3), (3, 4), (3, 5), (3, 6), (3, 7), (3, 8), (4, 2)]) (Fr.call9 (rs := [17]) (fs := [(1, 12), (1, 13), (3, 2), (3, 3), (3, 4), (3, 5), (3, 6), (3, 7), (3, 8), (4, 2)]) Fr.rf hq_9 rfl rfl) hq_23 rfl rfl) hq_27 rfl rfl) hq_33 rfl rfl) hq_40 rfl rfl), hS, lv_sub hl [0, 2, 3] rfl⟩
        · have c_37 : r_31.toInt = 0 := xI_eq rfl rfl c_37
          refine ic_0 hx hb dX2_passSum_67 ?_
          exact W.zret (v := 0) hx hb hr (by decide) (fun t ht _ => ⟨⟨0, G_32, rfl, (P_fSum_1_s_mk ⟨hB_G_32, hF, ⟨by decide, by decide⟩, ⟨r_1, G_2, hX_5, (Or.inr ⟨c_7, ⟨x_12, G_8, hX_13, f_15, hB_G_8, hq_9, (Or.inr ⟨c_17, (Or.inr ⟨G_21, hX_24, hB_G_21, hq_23, ⟨r_25, G_26, hX_29, ⟨r_31, G_32, hX_35, ⟨c_37, ⟨rfl, rfl⟩⟩⟩⟩⟩)⟩)⟩⟩)⟩⟩), wd_t ht hW⟩, hS.F ht⟩) hS.2.2 dX2_passSum_68
      refine lv_icmp_eq (tgt := 43) hx hb dX2_passSum_28 rfl (fun c_44 => ?_) (fun c_44 => ?_)
      · have c_44 : (G_8.1 3 3).toInt = 43 := xI_eq rfl rfl c_44
        exact hJ_22 () _ _ _ ⟨G_8, (Jn_k_fSum_1_s_2_mk (Or.inl ⟨c_44, rfl⟩)), hW, hB_G_8, hF, (Fr.rf (rs := []) (fs := [])), hS, lv_sub hl [0, 1, 2] rfl⟩
      · have c_44 : (G_8.1 3 3).toInt ≠ 43 := xI_ne rfl rfl c_44
        refine lv_aload_n hx hb dX2_passSum_31 rfl (lv_at hl 1 rfl) ?_
        refine S_getR (n := 3) (C := RX2) (T := TX2) (N := 3) hx hb hg iX2 hown hK hW kd_4 rfl 0 (lt_b rfl) (hg (Cond.fieldLink RX2 9 "SlabWalk$Formulas" "tokens" "LSlabWalk$Tokens;") m301) (fun _ h9 => h9) rfl dX2_passSum_32 ?_
        refine S_getI (v := (G_8.1 3 3)) (C := RX9) (T := TX9) (N := 9) hx hb hg iX9 hown hK hW kd_3 rfl 3 (lt_b rfl) (hg (Cond.fieldLink RX2 30 "SlabWalk$Tokens" "kind" "I") m263) (fun _ h9 => h9) rfl rfl dX2_passSum_35 ?_
        refine lv_bipush (v := 45) hx hb dX2_passSum_38 (by decide) ?_
        refine lv_icmp_ne (tgt := 84) hx hb dX2_passSum_40 rfl (fun c_45 => ?_) (fun c_45 => ?_)
        · have c_45 : (G_8.1 3 3).toInt ≠ 45 := xI_ne rfl rfl c_45
          refine ic_1 hx hb dX2_passSum_84 ?_
          exact W.zret (v := 1) hx hb hr (by decide) (fun t ht _ => ⟨⟨1, G_8, rfl, (P_fSum_1_s_mk ⟨hB_G_8, hF, ⟨by decide, by decide⟩, ⟨r_1, G_2, hX_5, (Or.inr ⟨c_7, ⟨x_12, G_8, hX_13, f_15, hB_G_8, hq_9, (Or.inr ⟨c_17, (Or.inl ⟨c_44, ⟨c_45, ⟨rfl, rfl⟩⟩⟩)⟩)⟩⟩)⟩⟩), wd_t ht hW⟩, hS.F ht⟩) hS.2.2 dX2_passSum_85
        · have c_45 : (G_8.1 3 3).toInt = 45 := xI_eq rfl rfl c_45
          exact hJ_22 () _ _ _ ⟨G_8, (Jn_k_fSum_1_s_2_mk (Or.inr ⟨c_44, ⟨c_45, rfl⟩⟩)), hW, hB_G_8, hF, (Fr.rf (rs := []) (fs := [])), hS, lv_sub hl [0, 1, 2] rfl⟩
  · have c_7 : r_1.toInt = 0 := xI_eq rfl rfl c_7
    refine ic_0 hx hb dX2_passSum_8 ?_
    exact W.zret (v := 0) hx hb hr (by decide) (fun t ht _ => ⟨⟨0, G_2, rfl, (P_fSum_1_s_mk ⟨hB_G_2, hF, ⟨by decide, by decide⟩, ⟨r_1, G_2, hX_5, (Or.inl ⟨c_7, ⟨rfl, rfl⟩⟩)⟩⟩), wd_t ht hW⟩, hS.F ht⟩) hS.2.2 dX2_passSum_9

set_option maxHeartbeats 4000000 in
set_option maxRecDepth 100000 in
theorem k_fRelation_1_s (l : Launch) (D : va_G) (k : KT) (A : Nat → Prop) (a : Nat → Nat) (z : SK) (fn ln n : Nat) (E O : XR) (hEb : ∀ (p0 : Int32) (G : GS) (r : Int32) (G1 : GS), E p0 G r G1 → Bd G1 ∧ Fr [17] [(1, 12), (1, 13), (3, 2), (3, 3), (3, 4), (3, 5), (3, 6), (3, 7), (3, 8), (4, 2)] G G1 ∧ (0 ≤ r.toInt ∧ r.toInt ≤ 1)) (hOb : ∀ (p0 : Int32) (G : GS) (r : Int32) (G1 : GS), O p0 G r G1 → Bd G1 ∧ Fr [17] [(1, 12), (1, 13), (3, 2), (3, 3), (3, 4), (3, 5), (3, 6), (3, 7), (3, 8), (4, 2)] G G1 ∧ (0 ≤ r.toInt ∧ r.toInt ≤ 1)) (hE : ∀ (G : GS) (p0 : Int32) (ha_p0 : 0 ≤ p0.toInt ∧ p0.toInt ≤ 7) (hv_4_1 : G.2.2 4 1 = 1) (hd : 8 ≤ p0.toInt + (n : Int)), Met l yX2_passEither (WS yX2_passEither cX2_passEither 3 (some .boolean)) ({ frames := fn + 2, cells := 0, slots := 0, locals := ln + 43 }) (va_Pc [.ref (a 4), .int p0] (cW D k A a z G)) (va_Qi (fun (r : Int32) (G1 : GS) => E p0 G r G1) (fun (G1 : GS) t => Wd D k A a G1 t.heap) A) 0 0 A) (hO : ∀ (G : GS) (p0 : Int32) (ha_p0 : 0 ≤ p0.toInt ∧ p0.toInt ≤ 7) (hv_4_1 : G.2.2 4 1 = 1) (hd : 8 ≤ p0.toInt + (n : Int)), Met l yX2_passOne (WS yX2_passOne cX2_passOne 2 (some .boolean)) ({ frames := fn + 0, cells := 0, slots := 0, locals := ln + 0 }) (va_Pc [.ref (a 4), .int p0] (cW D k A a z G)) (va_Qi (fun (r : Int32) (G1 : GS) => O p0 G r G1) (fun (G1 : GS) t => Wd D k A a G1 t.heap) A) 0 0 A) (G : GS) (p0 : Int32) (ha_p0 : 0 ≤ p0.toInt ∧ p0.toInt ≤ 7) (hv_4_1 : G.2.2 4 1 = 1) (hd : 8 ≤ p0.toInt + (n : Int) + 1) : Met l yX2_passRelation (WS yX2_passRelation cX2_passRelation 3 (some .boolean)) ({ frames := fn + 11, cells := 0, slots := 0, locals := ln + 236 }) (va_Pc [.ref (a 4), .int p0] (cW D k A a z G)) (va_Qi (fun (r : Int32) (G1 : GS) => P_fRelation_1_s E O p0 G r G1) (fun (G1 : GS) t => Wd D k A a G1 t.heap) A) 0 0 A := by
  refine Met.ofW (cc := cX2_passRelation) (maxL := 3) (ret := (some .boolean)) (by decide) rfl ?_
  intro p e s m args below meth c s₁ B hml hv
  obtain ⟨rfl, hW, hB_G, hK, hZ⟩ := hv
  have hx := B.exec
  have hb := B.bytes
  have hr := B.returns
  have hts := atoms_spec (ws := WS yX2_passRelation cX2_passRelation 3 (some .boolean)) B.pre
  have hgd : ∀ w ∈ gd, w ∈ WS yX2_passRelation cX2_passRelation 3 (some .boolean) := fun w h => List.mem_cons_of_mem _ h
  have hg : ∀ w ∈ gd, w.before _ s = true := fun w h => hts w (hgd w h)
  have hown : s.vm.findClass RX2 = some m.cls := findClass_of_methodNamed B.named
  have hS : va_S A s.heap s.heap [] := va_S.rf
  have hF : Fr [17] [(1, 12), (1, 13), (3, 2), (3, 3), (3, 4), (3, 5), (3, 6), (3, 7), (3, 8), (4, 2)] G G := Fr.rf
  have hl := lv_entry ([.ref (a 4), .int p0]) (n := 3) (Nat.le_of_ble_eq_true rfl)
  rw [lg_entry_eq]
  generalize (lg_sl ([.ref (a 4), .int p0]) ++ List.replicate (3 - (lg_sl ([.ref (a 4), .int p0])).length) Slot.unset).toArray = ls at hl ⊢
  have hl : lv_has ls 3 [(0, .ref (a 4)), (1, .int p0)] := hl
  refine lv_aload_n hx hb dX2_passRelation_0 rfl (lv_at hl 0 rfl) ?_
  refine lv_iload_n hx hb dX2_passRelation_1 rfl (lv_at hl 1 rfl) ?_
  refine S_calli (va_runV (As := [.int p0]) (rest := []) ⟨hx, hb, hml, hown, hts⟩ (k_fSum_1_s l D k A a z fn ln n E O hEb hOb hE hO G p0 ⟨by omega, by omega⟩ hv_4_1 (by omega)) (cwV 1 hts (gd_V hgd m837 m839 m20 m121 m840) rfl rfl rfl hd_X2_passSum ⟨show fn + 10 + 1 ≤ fn + 11 from by omega, show 8 + (4 + 11) + (ln + 213) ≤ ln + 236 from by omega⟩) (pre_W hW hB_G hK hZ hS kd_4 rfl) rfl rfl hl.1 rfl (lv_room (Nat.le_of_ble_eq_true rfl)) dX2_passRelation_2 ⟨Nat.le_of_ble_eq_true rfl, Nat.le_of_ble_eq_true rfl⟩) hS (fun r_1 G_2 H locs hpo hW hS => ?_)
  have hX_5 : P_fSum_1_s E O p0 G r_1 G_2 := hpo
  obtain ⟨hB_G_2, hq_3, f_6, -⟩ := hpo
  have hF := hF.call9 hq_3 rfl rfl
  refine lv_if_ne (tgt := 10) hx hb dX2_passRelation_5 rfl (fun c_7 => ?_) (fun c_7 => ?_)
  · have c_7 : r_1.toInt ≠ 0 := xI_ne rfl rfl c_7
    refine lv_aload_n hx hb dX2_passRelation_10 rfl (lv_at hl 0 rfl) ?_
    refine S_getR (n := 3) (C := RX2) (T := TX2) (N := 3) hx hb hg iX2 hown hK hW kd_4 rfl 0 (lt_b rfl) (hg (Cond.fieldLink RX2 9 "SlabWalk$Formulas" "tokens" "LSlabWalk$Tokens;") m301) (fun _ h9 => h9) rfl dX2_passRelation_11 ?_
    refine S_getI (v := (G_2.1 3 3)) (C := RX9) (T := TX9) (N := 9) hx hb hg iX9 hown hK hW kd_3 rfl 3 (lt_b rfl) (hg (Cond.fieldLink RX2 30 "SlabWalk$Tokens" "kind" "I") m263) (fun _ h9 => h9) rfl rfl dX2_passRelation_14 ?_
    refine lv_istore_n (lv' := [(2, .int (G_2.1 3 3)), (0, .ref (a 4)), (1, .int p0)]) hx hb dX2_passRelation_17 rfl hl (lt_b rfl) rfl (fun ls hl => ?_)
    refine lv_iload_n hx hb dX2_passRelation_18 rfl (lv_at hl 0 rfl) ?_
    refine lv_bipush (v := 60) hx hb dX2_passRelation_19 (by decide) ?_
    refine W.cut (σ := Unit) (pcJ := 38) (J := fun y H locs ls => ∃ (G_11 : GS), Jn_k_fRelation_1_s_1 E O G_2 G_11 ∧ Wd D k A a G_11 H ∧ Bd G_11 ∧ Fr [17] [(1, 12), (1, 13), (3, 2), (3, 3), (3, 4), (3, 5), (3, 6), (3, 7), (3, 8), (4, 2)] G G_11 ∧ Fr [] [] G_2 G_11 ∧ va_S A s.heap H locs ∧ lv_has ls 3 [(2, .int (G_2.1 3 3)), (0, .ref (a 4)), (1, .int p0)]) (stJ := fun _ => []) ?_ (fun hJ_12 => ?_)
    · intro y H locs ls hI
      obtain ⟨G_11, hX_14, hW, hB_G_11, hF, hq_13, hS, hl⟩ := hI
      refine lv_aload_n hx hb dX2_passRelation_38 rfl (lv_at hl 1 rfl) ?_
      refine S_getR (n := 3) (C := RX2) (T := TX2) (N := 3) hx hb hg iX2 hown hK hW kd_4 rfl 0 (lt_b rfl) (hg (Cond.fieldLink RX2 9 "SlabWalk$Formulas" "tokens" "LSlabWalk$Tokens;") m301) (fun _ h9 => h9) rfl dX2_passRelation_39 ?_
      refine S_calli (va_runV (As := []) (rest := []) ⟨hx, hb, hml, hown, hts⟩ (k_tAdvance l D k A a z G_11  ) (cwV 0 hts (gd_V hgd m854 m639 m640 m120 m641) rfl rfl rfl hd_X9_advance ⟨show 6 + 1 ≤ fn + 11 from by omega, show 8 + (2 + 11) + (127) ≤ ln + 236 from by omega⟩) (pre_W hW hB_G_11 hK hZ hS kd_3 rfl) rfl rfl hl.1 rfl (lv_room (Nat.le_of_ble_eq_true rfl)) dX2_passRelation_42 ⟨Nat.le_of_ble_eq_true rfl, Nat.le_of_ble_eq_true rfl⟩) hS (fun r_15 G_16 H locs hpo hW hS => ?_)
      have hX_19 : P_tAdvance G_11 r_15 G_16 := hpo
      obtain ⟨hB_G_16, hq_17, f_20, -⟩ := hpo
      have hF := hF.call9 hq_17 rfl rfl
      refine lv_pop hx hb dX2_passRelation_45 rfl ?_
      refine lv_aload_n hx hb dX2_passRelation_46 rfl (lv_at hl 1 rfl) ?_
      refine lv_iload_n hx hb dX2_passRelation_47 rfl (lv_at hl 2 rfl) ?_
      refine S_calli (va_runV (As := [.int p0]) (rest := []) ⟨hx, hb, hml, hown, hts⟩ (k_fSum_1_s l D k A a z fn ln n E O hEb hOb hE hO G_16 p0 ⟨(by first | (clear f_6 c_7 f_20; omega) | omega), (by first | (clear f_6 c_7 f_20; omega) | omega)⟩ ((((hq_17.r9 4 1 rfl rfl).trans ((hq_13.r9 4 1 rfl rfl).trans (hq_3.r9 4 1 rfl rfl)))).trans (hv_4_1)) ((by first | (clear f_6 c_7 f_20; omega) | omega))) (cwV 1 hts (gd_V hgd m837 m839 m20 m121 m840) rfl rfl rfl hd_X2_passSum ⟨show fn + 10 + 1 ≤ fn + 11 from by omega, show 8 + (4 + 11) + (ln + 213) ≤ ln + 236 from by omega⟩) (pre_W hW hB_G_16 hK hZ hS kd_4 rfl) rfl rfl hl.1 rfl (lv_room (Nat.le_of_ble_eq_true rfl)) dX2_passRelation_48 ⟨Nat.le_of_ble_eq_true rfl, Nat.le_of_ble_eq_true rfl⟩) hS (fun r_21 G_22 H locs hpo hW hS => ?_)
      have hX_25 : P_fSum_1_s E O p0 G_16 r_21 G_22 := hpo
      obtain ⟨hB_G_22, hq_23, f_26, -⟩ := hpo
      have hF := hF.call9 hq_23 rfl rfl
      refine lv_if_ne (tgt := 56) hx hb dX2_passRelation_51 rfl (fun c_27 => ?_) (fun c_27 => ?_)
      · have c_27 : r_21.toInt ≠ 0 := xI_ne rfl rfl c_27
        refine lv_aload_n hx hb dX2_passRelation_56 rfl (lv_at hl 1 rfl) ?_
        refine S_getV (n := 1) (C := RX2) (T := TX2) (N := 3) hx hb hg iX2 hown hK hW kd_4 rfl 1 (lt_b rfl) (hg (Cond.fieldLink RX2 15 "SlabWalk$Formulas" "paving" "LSlabWalk$Paving;") m302) (fun _ h9 => h9) rfl ((((hq_23.r9 4 1 rfl rfl).trans ((hq_17.r9 4 1 rfl rfl).trans ((hq_13.r9 4 1 rfl rfl).trans (hq_3.r9 4 1 rfl rfl))))).trans (hv_4_1)) dX2_passRelation_57 ?_
        refine lv_iload_n hx hb dX2_passRelation_60 rfl (lv_at hl 0 rfl) ?_
        refine ic_0 hx hb dX2_passRelation_61 ?_
        refine S_callv (va_runV (As := [.int (G_2.1 3 3), .int 0]) (rest := []) ⟨hx, hb, hml, hown, hts⟩ (k_emit_1 l D k A a z G_22 (G_2.1 3 3) 0 ) (cwV 2 hts (gd_V hgd m855 m856 m857 m118 m858) rfl rfl rfl hd_X6_emit ⟨show 0 + 1 ≤ fn + 11 from by omega, show 8 + (3 + 11) + (0) ≤ ln + 236 from by omega⟩) (pre_W hW hB_G_22 hK hZ hS kd_1 rfl) rfl rfl hl.1 rfl (lv_room (Nat.le_of_ble_eq_true rfl)) dX2_passRelation_62 ⟨Nat.le_of_ble_eq_true rfl, Nat.le_of_ble_eq_true rfl⟩) hS (fun G_29 H locs hpo hW hS => ?_)
        have hX_32 : P_emit_1 (G_2.1 3 3) 0 G_22 G_29 := hpo
        obtain ⟨hB_G_29, hq_30, -⟩ := hpo
        have hF := hF.call9 hq_30 rfl rfl
        refine ic_1 hx hb dX2_passRelation_65 ?_
        exact W.zret (v := 1) hx hb hr (by decide) (fun t ht _ => ⟨⟨1, G_29, rfl, (P_fRelation_1_s_mk ⟨hB_G_29, hF, ⟨by decide, by decide⟩, ⟨r_1, G_2, hX_5, (Or.inr ⟨c_7, (Or.inr ⟨G_11, hX_14, hB_G_11, hq_13, ⟨r_15, G_16, hX_19, ⟨r_21, G_22, hX_25, (Or.inr ⟨c_27, ⟨G_29, hX_32, ⟨rfl, rfl⟩⟩⟩)⟩⟩⟩)⟩)⟩⟩), wd_t ht hW⟩, hS.F ht⟩) hS.2.2 dX2_passRelation_66
      · have c_27 : r_21.toInt = 0 := xI_eq rfl rfl c_27
        refine ic_0 hx hb dX2_passRelation_54 ?_
        exact W.zret (v := 0) hx hb hr (by decide) (fun t ht _ => ⟨⟨0, G_22, rfl, (P_fRelation_1_s_mk ⟨hB_G_22, hF, ⟨by decide, by decide⟩, ⟨r_1, G_2, hX_5, (Or.inr ⟨c_7, (Or.inr ⟨G_11, hX_14, hB_G_11, hq_13, ⟨r_15, G_16, hX_19, ⟨r_21, G_22, hX_25, (Or.inl ⟨c_27, ⟨rfl, rfl⟩⟩)⟩⟩⟩)⟩)⟩⟩), wd_t ht hW⟩, hS.F ht⟩) hS.2.2 dX2_passRelation_55
    refine lv_icmp_eq (tgt := 38) hx hb dX2_passRelation_21 rfl (fun c_33 => ?_) (fun c_33 => ?_)
    · have c_33 : (G_2.1 3 3).toInt = 60 := xI_eq rfl rfl c_33
      exact hJ_12 () _ _ _ ⟨G_2, (Jn_k_fRelation_1_s_1_mk (Or.inl ⟨c_33, rfl⟩)), hW, hB_G_2, hF, (Fr.rf (rs := []) (fs := [])), hS, lv_sub hl [0, 1, 2] rfl⟩
    · have c_33 : (G_2.1 3 3).toInt ≠ 60 := xI_ne rfl rfl c_33
      refine lv_iload_n hx hb dX2_passRelation_24 rfl (lv_at hl 0 rfl) ?_
      refine lv_bipush (v := 62) hx hb dX2_passRelation_25 (by decide) ?_
      refine lv_icmp_eq (tgt := 38) hx hb dX2_passRelation_27 rfl (fun c_34 => ?_) (fun c_34 => ?_)
      · have c_34 : (G_2.1 3 3).toInt = 62 := xI_eq rfl rfl c_34
        exact hJ_12 () _ _ _ ⟨G_2, (Jn_k_fRelation_1_s_1_mk (Or.inr ⟨c_33, (Or.inl ⟨c_34, rfl⟩)⟩)), hW, hB_G_2, hF, (Fr.rf (rs := []) (fs := [])), hS, lv_sub hl [0, 1, 2] rfl⟩
      · have c_34 : (G_2.1 3 3).toInt ≠ 62 := xI_ne rfl rfl c_34
        refine lv_iload_n hx hb dX2_passRelation_30 rfl (lv_at hl 0 rfl) ?_
        refine lv_bipush (v := 61) hx hb dX2_passRelation_31 (by decide) ?_
        refine lv_icmp_eq (tgt := 38) hx hb dX2_passRelation_33 rfl (fun c_35 => ?_) (fun c_35 => ?_)
        · have c_35 : (G_2.1 3 3).toInt = 61 := xI_eq rfl rfl c_35
          exact hJ_12 () _ _ _ ⟨G_2, (Jn_k_fRelation_1_s_1_mk (Or.inr ⟨c_33, (Or.inr ⟨c_34, ⟨c_35, rfl⟩⟩)⟩)), hW, hB_G_2, hF, (Fr.rf (rs := []) (fs := [])), hS, lv_sub hl [0, 1, 2] rfl⟩
        · have c_35 : (G_2.1 3 3).toInt ≠ 61 := xI_ne rfl rfl c_35
          refine ic_1 hx hb dX2_passRelation_36 ?_
          exact W.zret (v := 1) hx hb hr (by decide) (fun t ht _ => ⟨⟨1, G_2, rfl, (P_fRelation_1_s_mk ⟨hB_G_2, hF, ⟨by decide, by decide⟩, ⟨r_1, G_2, hX_5, (Or.inr ⟨c_7, (Or.inl ⟨c_33, ⟨c_34, ⟨c_35, ⟨rfl, rfl⟩⟩⟩⟩)⟩)⟩⟩), wd_t ht hW⟩, hS.F ht⟩) hS.2.2 dX2_passRelation_37
  · have c_7 : r_1.toInt = 0 := xI_eq rfl rfl c_7
    refine ic_0 hx hb dX2_passRelation_8 ?_
    exact W.zret (v := 0) hx hb hr (by decide) (fun t ht _ => ⟨⟨0, G_2, rfl, (P_fRelation_1_s_mk ⟨hB_G_2, hF, ⟨by decide, by decide⟩, ⟨r_1, G_2, hX_5, (Or.inl ⟨c_7, ⟨rfl, rfl⟩⟩)⟩⟩), wd_t ht hW⟩, hS.F ht⟩) hS.2.2 dX2_passRelation_9

set_option maxHeartbeats 4000000 in
set_option maxRecDepth 100000 in
theorem k_fOne_1_s (l : Launch) (D : va_G) (k : KT) (A : Nat → Prop) (a : Nat → Nat) (z : SK) (fn ln n : Nat) (E O : XR) (hEb : ∀ (p0 : Int32) (G : GS) (r : Int32) (G1 : GS), E p0 G r G1 → Bd G1 ∧ Fr [17] [(1, 12), (1, 13), (3, 2), (3, 3), (3, 4), (3, 5), (3, 6), (3, 7), (3, 8), (4, 2)] G G1 ∧ (0 ≤ r.toInt ∧ r.toInt ≤ 1)) (hOb : ∀ (p0 : Int32) (G : GS) (r : Int32) (G1 : GS), O p0 G r G1 → Bd G1 ∧ Fr [17] [(1, 12), (1, 13), (3, 2), (3, 3), (3, 4), (3, 5), (3, 6), (3, 7), (3, 8), (4, 2)] G G1 ∧ (0 ≤ r.toInt ∧ r.toInt ≤ 1)) (hE : ∀ (G : GS) (p0 : Int32) (ha_p0 : 0 ≤ p0.toInt ∧ p0.toInt ≤ 7) (hv_4_1 : G.2.2 4 1 = 1) (hd : 8 ≤ p0.toInt + (n : Int)), Met l yX2_passEither (WS yX2_passEither cX2_passEither 3 (some .boolean)) ({ frames := fn + 2, cells := 0, slots := 0, locals := ln + 43 }) (va_Pc [.ref (a 4), .int p0] (cW D k A a z G)) (va_Qi (fun (r : Int32) (G1 : GS) => E p0 G r G1) (fun (G1 : GS) t => Wd D k A a G1 t.heap) A) 0 0 A) (hO : ∀ (G : GS) (p0 : Int32) (ha_p0 : 0 ≤ p0.toInt ∧ p0.toInt ≤ 7) (hv_4_1 : G.2.2 4 1 = 1) (hd : 8 ≤ p0.toInt + (n : Int)), Met l yX2_passOne (WS yX2_passOne cX2_passOne 2 (some .boolean)) ({ frames := fn + 0, cells := 0, slots := 0, locals := ln + 0 }) (va_Pc [.ref (a 4), .int p0] (cW D k A a z G)) (va_Qi (fun (r : Int32) (G1 : GS) => O p0 G r G1) (fun (G1 : GS) t => Wd D k A a G1 t.heap) A) 0 0 A) (G : GS) (p0 : Int32) (ha_p0 : 0 ≤ p0.toInt ∧ p0.toInt ≤ 7) (hv_4_1 : G.2.2 4 1 = 1) (hd : 8 ≤ p0.toInt + (n : Int) + 1) : Met l yX2_passOne (WS yX2_passOne cX2_passOne 2 (some .boolean)) ({ frames := fn + 12, cells := 0, slots := 0, locals := ln + 258 }) (va_Pc [.ref (a 4), .int p0] (cW D k A a z G)) (va_Qi (fun (r : Int32) (G1 : GS) => P_fOne_1_s E O p0 G r G1) (fun (G1 : GS) t => Wd D k A a G1 t.heap) A) 0 0 A := by
  refine Met.ofW (cc := cX2_passOne) (maxL := 2) (ret := (some .boolean)) (by decide) rfl ?_
  intro p e s m args below meth c s₁ B hml hv
  obtain ⟨rfl, hW, hB_G, hK, hZ⟩ := hv
  have hx := B.exec
  have hb := B.bytes
  have hr := B.returns
  have hts := atoms_spec (ws := WS yX2_passOne cX2_passOne 2 (some .boolean)) B.pre
  have hgd : ∀ w ∈ gd, w ∈ WS yX2_passOne cX2_passOne 2 (some .boolean) := fun w h => List.mem_cons_of_mem _ h
  have hg : ∀ w ∈ gd, w.before _ s = true := fun w h => hts w (hgd w h)
  have hown : s.vm.findClass RX2 = some m.cls := findClass_of_methodNamed B.named
  have hS : va_S A s.heap s.heap [] := va_S.rf
  have hF : Fr [17] [(1, 12), (1, 13), (3, 2), (3, 3), (3, 4), (3, 5), (3, 6), (3, 7), (3, 8), (4, 2)] G G := Fr.rf
  have hl := lv_entry ([.ref (a 4), .int p0]) (n := 2) (Nat.le_of_ble_eq_true rfl)
  rw [lg_entry_eq]
  generalize (lg_sl ([.ref (a 4), .int p0]) ++ List.replicate (2 - (lg_sl ([.ref (a 4), .int p0])).length) Slot.unset).toArray = ls at hl ⊢
  have hl : lv_has ls 2 [(0, .ref (a 4)), (1, .int p0)] := hl
  refine lv_aload_n hx hb dX2_passOne_0 rfl (lv_at hl 0 rfl) ?_
  refine S_getR (n := 3) (C := RX2) (T := TX2) (N := 3) hx hb hg iX2 hown hK hW kd_4 rfl 0 (lt_b rfl) (hg (Cond.fieldLink RX2 9 "SlabWalk$Formulas" "tokens" "LSlabWalk$Tokens;") m301) (fun _ h9 => h9) rfl dX2_passOne_1 ?_
  refine S_getI (v := (G.1 3 3)) (C := RX9) (T := TX9) (N := 9) hx hb hg iX9 hown hK hW kd_3 rfl 3 (lt_b rfl) (hg (Cond.fieldLink RX2 30 "SlabWalk$Tokens" "kind" "I") m263) (fun _ h9 => h9) rfl rfl dX2_passOne_4 ?_
  refine lv_sipush (v := 146) hx hb dX2_passOne_7 (by decide) ?_
  refine lv_icmp_eq (tgt := 19) hx hb dX2_passOne_10 rfl (fun c_1 => ?_) (fun c_1 => ?_)
  · have c_1 : (G.1 3 3).toInt = 146 := xI_eq rfl rfl c_1
    refine lv_iload_n hx hb dX2_passOne_19 rfl (lv_at hl 1 rfl) ?_
    refine lv_bipush (v := 6) hx hb dX2_passOne_20 (by decide) ?_
    refine lv_icmp_le (tgt := 34) hx hb dX2_passOne_22 rfl (fun c_2 => ?_) (fun c_2 => ?_)
    · have c_2 : p0.toInt ≤ 6 := xI_le rfl rfl c_2
      refine lv_aload_n hx hb dX2_passOne_34 rfl (lv_at hl 0 rfl) ?_
      refine S_getR (n := 3) (C := RX2) (T := TX2) (N := 3) hx hb hg iX2 hown hK hW kd_4 rfl 0 (lt_b rfl) (hg (Cond.fieldLink RX2 9 "SlabWalk$Formulas" "tokens" "LSlabWalk$Tokens;") m301) (fun _ h9 => h9) rfl dX2_passOne_35 ?_
      refine S_calli (va_runV (As := []) (rest := []) ⟨hx, hb, hml, hown, hts⟩ (k_tAdvance l D k A a z G  ) (cwV 0 hts (gd_V hgd m854 m639 m640 m120 m641) rfl rfl rfl hd_X9_advance ⟨show 6 + 1 ≤ fn + 12 from by omega, show 8 + (2 + 11) + (127) ≤ ln + 258 from by omega⟩) (pre_W hW hB_G hK hZ hS kd_3 rfl) rfl rfl hl.1 rfl (lv_room (Nat.le_of_ble_eq_true rfl)) dX2_passOne_38 ⟨Nat.le_of_ble_eq_true rfl, Nat.le_of_ble_eq_true rfl⟩) hS (fun r_3 G_4 H locs hpo hW hS => ?_)
      have hX_7 : P_tAdvance G r_3 G_4 := hpo
      obtain ⟨hB_G_4, hq_5, f_8, -⟩ := hpo
      have hF := hF.call9 hq_5 rfl rfl
      refine lv_pop hx hb dX2_passOne_41 rfl ?_
      refine lv_aload_n hx hb dX2_passOne_42 rfl (lv_at hl 0 rfl) ?_
      refine lv_iload_n hx hb dX2_passOne_43 rfl (lv_at hl 1 rfl) ?_
      refine ic_1 hx hb dX2_passOne_44 ?_
      refine lv_iadd hx hb dX2_passOne_45 ?_
      refine lv_topi (fun y_9 ey_9 => ?_)
      have ty_9 : y_9.toInt = p0.toInt + 1 := xI_add rfl rfl ey_9 (by omega) (by omega)
      refine S_calli (va_runV (As := [.int y_9]) (rest := []) ⟨hx, hb, hml, hown, hts⟩ (hO G_4 y_9 ⟨by omega, by omega⟩ (((hq_5.r9 4 1 rfl rfl)).trans (hv_4_1)) (by omega)) (cwV 1 hts (gd_V hgd m829 m831 m18 m121 m832) rfl rfl rfl hd_X2_passOne ⟨show fn + 0 + 1 ≤ fn + 12 from by omega, show 8 + (2 + 11) + (ln + 0) ≤ ln + 258 from by omega⟩) (pre_W hW hB_G_4 hK hZ hS kd_4 rfl) rfl rfl hl.1 rfl (lv_room (Nat.le_of_ble_eq_true rfl)) dX2_passOne_46 ⟨Nat.le_of_ble_eq_true rfl, Nat.le_of_ble_eq_true rfl⟩) hS (fun r_10 G_11 H locs hpo hW hS => ?_)
      have hX_14 : O y_9 G_4 r_10 G_11 := hpo
      obtain ⟨hB_G_11, hq_12, f_15⟩ := hOb _ _ _ _ hpo
      have hF := hF.call9 hq_12 rfl rfl
      refine lv_if_ne (tgt := 54) hx hb dX2_passOne_49 rfl (fun c_16 => ?_) (fun c_16 => ?_)
      · have c_16 : r_10.toInt ≠ 0 := xI_ne rfl rfl c_16
        refine lv_aload_n hx hb dX2_passOne_54 rfl (lv_at hl 0 rfl) ?_
        refine S_getV (n := 1) (C := RX2) (T := TX2) (N := 3) hx hb hg iX2 hown hK hW kd_4 rfl 1 (lt_b rfl) (hg (Cond.fieldLink RX2 15 "SlabWalk$Formulas" "paving" "LSlabWalk$Paving;") m302) (fun _ h9 => h9) rfl ((((hq_12.r9 4 1 rfl rfl).trans (hq_5.r9 4 1 rfl rfl))).trans (hv_4_1)) dX2_passOne_55 ?_
        refine lv_sipush (v := 146) hx hb dX2_passOne_58 (by decide) ?_
        refine ic_0 hx hb dX2_passOne_61 ?_
        refine S_callv (va_runV (As := [.int 146, .int 0]) (rest := []) ⟨hx, hb, hml, hown, hts⟩ (k_emit_1 l D k A a z G_11 146 0 ) (cwV 2 hts (gd_V hgd m855 m856 m857 m118 m858) rfl rfl rfl hd_X6_emit ⟨show 0 + 1 ≤ fn + 12 from by omega, show 8 + (3 + 11) + (0) ≤ ln + 258 from by omega⟩) (pre_W hW hB_G_11 hK hZ hS kd_1 rfl) rfl rfl hl.1 rfl (lv_room (Nat.le_of_ble_eq_true rfl)) dX2_passOne_62 ⟨Nat.le_of_ble_eq_true rfl, Nat.le_of_ble_eq_true rfl⟩) hS (fun G_18 H locs hpo hW hS => ?_)
        have hX_21 : P_emit_1 146 0 G_11 G_18 := hpo
        obtain ⟨hB_G_18, hq_19, -⟩ := hpo
        have hF := hF.call9 hq_19 rfl rfl
        refine ic_1 hx hb dX2_passOne_65 ?_
        exact W.zret (v := 1) hx hb hr (by decide) (fun t ht _ => ⟨⟨1, G_18, rfl, (P_fOne_1_s_mk ⟨hB_G_18, hF, ⟨by decide, by decide⟩, (Or.inl ⟨c_1, (Or.inl ⟨c_2, ⟨r_3, G_4, hX_7, ⟨y_9, ty_9, ⟨r_10, G_11, hX_14, (Or.inr ⟨c_16, ⟨G_18, hX_21, ⟨rfl, rfl⟩⟩⟩)⟩⟩⟩⟩)⟩)⟩), wd_t ht hW⟩, hS.F ht⟩) hS.2.2 dX2_passOne_66
      · have c_16 : r_10.toInt = 0 := xI_eq rfl rfl c_16
        refine ic_0 hx hb dX2_passOne_52 ?_
        exact W.zret (v := 0) hx hb hr (by decide) (fun t ht _ => ⟨⟨0, G_11, rfl, (P_fOne_1_s_mk ⟨hB_G_11, hF, ⟨by decide, by decide⟩, (Or.inl ⟨c_1, (Or.inl ⟨c_2, ⟨r_3, G_4, hX_7, ⟨y_9, ty_9, ⟨r_10, G_11, hX_14, (Or.inl ⟨c_16, ⟨rfl, rfl⟩⟩)⟩⟩⟩⟩)⟩)⟩), wd_t ht hW⟩, hS.F ht⟩) hS.2.2 dX2_passOne_53
    · have c_2 : 6 < p0.toInt := xI_nle rfl rfl c_2
      refine lv_aload_n hx hb dX2_passOne_25 rfl (lv_at hl 0 rfl) ?_
      refine S_getR (n := 3) (C := RX2) (T := TX2) (N := 3) hx hb hg iX2 hown hK hW kd_4 rfl 0 (lt_b rfl) (hg (Cond.fieldLink RX2 9 "SlabWalk$Formulas" "tokens" "LSlabWalk$Tokens;") m301) (fun _ h9 => h9) rfl dX2_passOne_26 ?_
      refine ic_2 hx hb dX2_passOne_29 ?_
      refine S_calli (va_runV (As := [.int 2]) (rest := []) ⟨hx, hb, hml, hown, hts⟩ (k_tRefuse l D k A a z G 2 ⟨by decide, by decide⟩) (cwV 1 hts (gd_V hgd m849 m779 m780 m120 m781) rfl rfl rfl hd_X9_refuse ⟨show 0 + 1 ≤ fn + 12 from by omega, show 8 + (2 + 11) + (0) ≤ ln + 258 from by omega⟩) (pre_W hW hB_G hK hZ hS kd_3 rfl) rfl rfl hl.1 rfl (lv_room (Nat.le_of_ble_eq_true rfl)) dX2_passOne_30 ⟨Nat.le_of_ble_eq_true rfl, Nat.le_of_ble_eq_true rfl⟩) hS (fun r_22 G_23 H locs hpo hW hS => ?_)
      have hX_26 : P_tRefuse 2 G r_22 G_23 := hpo
      obtain ⟨hB_G_23, hq_24, f_27, -⟩ := hpo
      have hF := hF.call9 hq_24 rfl rfl
      exact W.zret (v := r_22) hx hb hr (nar_z ((by first | (clear ha_p0 hd c_1 c_2; omega) | omega)) ((by first | (clear ha_p0 hd c_1 c_2; omega) | omega))) (fun t ht _ => ⟨⟨r_22, G_23, rfl, (P_fOne_1_s_mk ⟨hB_G_23, hF, ⟨(by first | (clear ha_p0 hd c_1 c_2; omega) | omega), (by first | (clear ha_p0 hd c_1 c_2; omega) | omega)⟩, (Or.inl ⟨c_1, (Or.inr ⟨c_2, ⟨r_22, G_23, hX_26, ⟨rfl, rfl⟩⟩⟩)⟩)⟩), wd_t ht hW⟩, hS.F ht⟩) hS.2.2 dX2_passOne_33
  · have c_1 : (G.1 3 3).toInt ≠ 146 := xI_ne rfl rfl c_1
    refine lv_aload_n hx hb dX2_passOne_13 rfl (lv_at hl 0 rfl) ?_
    refine lv_iload_n hx hb dX2_passOne_14 rfl (lv_at hl 1 rfl) ?_
    refine S_calli (va_runV (As := [.int p0]) (rest := []) ⟨hx, hb, hml, hown, hts⟩ (k_fRelation_1_s l D k A a z fn ln n E O hEb hOb hE hO G p0 ⟨by omega, by omega⟩ hv_4_1 (by omega)) (cwV 1 hts (gd_V hgd m833 m835 m19 m121 m836) rfl rfl rfl hd_X2_passRelation ⟨show fn + 11 + 1 ≤ fn + 12 from by omega, show 8 + (3 + 11) + (ln + 236) ≤ ln + 258 from by omega⟩) (pre_W hW hB_G hK hZ hS kd_4 rfl) rfl rfl hl.1 rfl (lv_room (Nat.le_of_ble_eq_true rfl)) dX2_passOne_15 ⟨Nat.le_of_ble_eq_true rfl, Nat.le_of_ble_eq_true rfl⟩) hS (fun r_28 G_29 H locs hpo hW hS => ?_)
    have hX_32 : P_fRelation_1_s E O p0 G r_28 G_29 := hpo
    obtain ⟨hB_G_29, hq_30, f_33, -⟩ := hpo
    have hF := hF.call9 hq_30 rfl rfl
    exact W.zret (v := r_28) hx hb hr (nar_z ((by first | (clear ha_p0 hd c_1; omega) | omega)) ((by first | (clear ha_p0 hd c_1; omega) | omega))) (fun t ht _ => ⟨⟨r_28, G_29, rfl, (P_fOne_1_s_mk ⟨hB_G_29, hF, ⟨(by first | (clear ha_p0 hd c_1; omega) | omega), (by first | (clear ha_p0 hd c_1; omega) | omega)⟩, (Or.inr ⟨c_1, ⟨r_28, G_29, hX_32, ⟨rfl, rfl⟩⟩⟩)⟩), wd_t ht hW⟩, hS.F ht⟩) hS.2.2 dX2_passOne_18

set_option maxHeartbeats 4000000 in
set_option maxRecDepth 100000 in
theorem k_fBoth_1_s (l : Launch) (D : va_G) (k : KT) (A : Nat → Prop) (a : Nat → Nat) (z : SK) (fn ln n : Nat) (E O : XR) (hEb : ∀ (p0 : Int32) (G : GS) (r : Int32) (G1 : GS), E p0 G r G1 → Bd G1 ∧ Fr [17] [(1, 12), (1, 13), (3, 2), (3, 3), (3, 4), (3, 5), (3, 6), (3, 7), (3, 8), (4, 2)] G G1 ∧ (0 ≤ r.toInt ∧ r.toInt ≤ 1)) (hOb : ∀ (p0 : Int32) (G : GS) (r : Int32) (G1 : GS), O p0 G r G1 → Bd G1 ∧ Fr [17] [(1, 12), (1, 13), (3, 2), (3, 3), (3, 4), (3, 5), (3, 6), (3, 7), (3, 8), (4, 2)] G G1 ∧ (0 ≤ r.toInt ∧ r.toInt ≤ 1)) (hE : ∀ (G : GS) (p0 : Int32) (ha_p0 : 0 ≤ p0.toInt ∧ p0.toInt ≤ 7) (hv_4_1 : G.2.2 4 1 = 1) (hd : 8 ≤ p0.toInt + (n : Int)), Met l yX2_passEither (WS yX2_passEither cX2_passEither 3 (some .boolean)) ({ frames := fn + 2, cells := 0, slots := 0, locals := ln + 43 }) (va_Pc [.ref (a 4), .int p0] (cW D k A a z G)) (va_Qi (fun (r : Int32) (G1 : GS) => E p0 G r G1) (fun (G1 : GS) t => Wd D k A a G1 t.heap) A) 0 0 A) (hO : ∀ (G : GS) (p0 : Int32) (ha_p0 : 0 ≤ p0.toInt ∧ p0.toInt ≤ 7) (hv_4_1 : G.2.2 4 1 = 1) (hd : 8 ≤ p0.toInt + (n : Int)), Met l yX2_passOne (WS yX2_passOne cX2_passOne 2 (some .boolean)) ({ frames := fn + 0, cells := 0, slots := 0, locals := ln + 0 }) (va_Pc [.ref (a 4), .int p0] (cW D k A a z G)) (va_Qi (fun (r : Int32) (G1 : GS) => O p0 G r G1) (fun (G1 : GS) t => Wd D k A a G1 t.heap) A) 0 0 A) (G : GS) (p0 : Int32) (ha_p0 : 0 ≤ p0.toInt ∧ p0.toInt ≤ 7) (hv_4_1 : G.2.2 4 1 = 1) (hd : 8 ≤ p0.toInt + (n : Int) + 1) : Met l yX2_passBoth (WS yX2_passBoth cX2_passBoth 3 (some .boolean)) ({ frames := fn + 13, cells := 0, slots := 0, locals := ln + 279 }) (va_Pc [.ref (a 4), .int p0] (cW D k A a z G)) (va_Qi (fun (r : Int32) (G1 : GS) => P_fBoth_1_s E O p0 G r G1) (fun (G1 : GS) t => Wd D k A a G1 t.heap) A) 0 0 A := by
  refine Met.ofW (cc := cX2_passBoth) (maxL := 3) (ret := (some .boolean)) (by decide) rfl ?_
  intro p e s m args below meth c s₁ B hml hv
  obtain ⟨rfl, hW, hB_G, hK, hZ⟩ := hv
  have hx := B.exec
  have hb := B.bytes
  have hr := B.returns
  have hts := atoms_spec (ws := WS yX2_passBoth cX2_passBoth 3 (some .boolean)) B.pre
  have hgd : ∀ w ∈ gd, w ∈ WS yX2_passBoth cX2_passBoth 3 (some .boolean) := fun w h => List.mem_cons_of_mem _ h
  have hg : ∀ w ∈ gd, w.before _ s = true := fun w h => hts w (hgd w h)
  have hown : s.vm.findClass RX2 = some m.cls := findClass_of_methodNamed B.named
  have hS : va_S A s.heap s.heap [] := va_S.rf
  have hF : Fr [17] [(1, 12), (1, 13), (3, 2), (3, 3), (3, 4), (3, 5), (3, 6), (3, 7), (3, 8), (4, 2)] G G := Fr.rf
  have hl := lv_entry ([.ref (a 4), .int p0]) (n := 3) (Nat.le_of_ble_eq_true rfl)
  rw [lg_entry_eq]
  generalize (lg_sl ([.ref (a 4), .int p0]) ++ List.replicate (3 - (lg_sl ([.ref (a 4), .int p0])).length) Slot.unset).toArray = ls at hl ⊢
  have hl : lv_has ls 3 [(0, .ref (a 4)), (1, .int p0)] := hl
  refine lv_aload_n hx hb dX2_passBoth_0 rfl (lv_at hl 0 rfl) ?_
  refine lv_iload_n hx hb dX2_passBoth_1 rfl (lv_at hl 1 rfl) ?_
  refine S_calli (va_runV (As := [.int p0]) (rest := []) ⟨hx, hb, hml, hown, hts⟩ (k_fOne_1_s l D k A a z fn ln n E O hEb hOb hE hO G p0 ⟨by omega, by omega⟩ hv_4_1 (by omega)) (cwV 1 hts (gd_V hgd m829 m831 m18 m121 m832) rfl rfl rfl hd_X2_passOne ⟨show fn + 12 + 1 ≤ fn + 13 from by omega, show 8 + (2 + 11) + (ln + 258) ≤ ln + 279 from by omega⟩) (pre_W hW hB_G hK hZ hS kd_4 rfl) rfl rfl hl.1 rfl (lv_room (Nat.le_of_ble_eq_true rfl)) dX2_passBoth_2 ⟨Nat.le_of_ble_eq_true rfl, Nat.le_of_ble_eq_true rfl⟩) hS (fun r_1 G_2 H locs hpo hW hS => ?_)
  have hX_5 : P_fOne_1_s E O p0 G r_1 G_2 := hpo
  obtain ⟨hB_G_2, hq_3, f_6, -⟩ := hpo
  have hF := hF.call9 hq_3 rfl rfl
  refine lv_if_ne (tgt := 10) hx hb dX2_passBoth_5 rfl (fun c_7 => ?_) (fun c_7 => ?_)
  · have c_7 : r_1.toInt ≠ 0 := xI_ne rfl rfl c_7
    refine ic_0 hx hb dX2_passBoth_10 ?_
    refine lv_istore_n (lv' := [(2, .int 0), (0, .ref (a 4)), (1, .int p0)]) hx hb dX2_passBoth_11 rfl hl (lt_b rfl) rfl (fun ls hl => ?_)
    have qc_14 : (0 : Int32).toInt = 0 := rfl
    refine loop_N (Inv := fun n H locs ls => ∃ (G_8 : GS) (x_12 : Int32), (n : Int) = 1600 - x_12.toInt ∧ (0 ≤ x_12.toInt ∧ x_12.toInt ≤ 1600) ∧ Rc (St_k_fBoth_1_s_1 E O p0) (0, G_2) (x_12, G_8) ∧ Wd D k A a G_8 H ∧ Bd G_8 ∧ Fr [17] [(1, 12), (1, 13), (3, 2), (3, 3), (3, 4), (3, 5), (3, 6), (3, 7), (3, 8), (4, 2)] G G_8 ∧ Fr [17] [(1, 12), (1, 13), (3, 2), (3, 3), (3, 4), (3, 5), (3, 6), (3, 7), (3, 8), (4, 2)] G_2 G_8 ∧ va_S A s.heap H locs ∧ lv_has ls 3 [(2, .int x_12), (0, .ref (a 4)), (1, .int p0)]) (fun n_11 H locs ls ih_10 hI => ?_) (1600 - 0 : Int).toNat ⟨G_2, 0, (Int.toNat_of_nonneg ((by first | (clear ha_p0 hd f_6 c_7; omega) | omega))), ⟨(by first | (clear ha_p0 hd f_6 c_7; omega) | omega), (by first | (clear ha_p0 hd f_6 c_7; omega) | omega)⟩, Rc.rf, hW, hB_G_2, hF, Fr.rf, hS, lv_sub hl [0, 1, 2] rfl⟩
    obtain ⟨G_8, x_12, hn_16, f_15, hX_13, hW, hB_G_8, hF, hq_9, hS, hl⟩ := hI
    refine lv_iload_n hx hb dX2_passBoth_12 rfl (lv_at hl 0 rfl) ?_
    refine lv_sipush (v := 1600) hx hb dX2_passBoth_13 (by decide) ?_
    refine lv_icmp_ge (tgt := 67) hx hb dX2_passBoth_16 rfl (fun c_17 => ?_) (fun c_17 => ?_)
    · have c_17 : 1600 ≤ x_12.toInt := xI_le rfl rfl c_17
      refine ic_1 hx hb dX2_passBoth_67 ?_
      exact W.zret (v := 1) hx hb hr (by decide) (fun t ht _ => ⟨⟨1, G_8, rfl, (P_fBoth_1_s_mk ⟨hB_G_8, hF, ⟨by decide, by decide⟩, ⟨r_1, G_2, hX_5, (Or.inr ⟨c_7, ⟨x_12, G_8, hX_13, f_15, hB_G_8, hq_9, (Or.inl ⟨c_17, ⟨rfl, rfl⟩⟩)⟩⟩)⟩⟩), wd_t ht hW⟩, hS.F ht⟩) hS.2.2 dX2_passBoth_68
    · have c_17 : x_12.toInt < 1600 := xI_nle rfl rfl c_17
      refine lv_aload_n hx hb dX2_passBoth_19 rfl (lv_at hl 1 rfl) ?_
      refine S_getR (n := 3) (C := RX2) (T := TX2) (N := 3) hx hb hg iX2 hown hK hW kd_4 rfl 0 (lt_b rfl) (hg (Cond.fieldLink RX2 9 "SlabWalk$Formulas" "tokens" "LSlabWalk$Tokens;") m301) (fun _ h9 => h9) rfl dX2_passBoth_20 ?_
      refine S_getI (v := (G_8.1 3 3)) (C := RX9) (T := TX9) (N := 9) hx hb hg iX9 hown hK hW kd_3 rfl 3 (lt_b rfl) (hg (Cond.fieldLink RX2 30 "SlabWalk$Tokens" "kind" "I") m263) (fun _ h9 => h9) rfl rfl dX2_passBoth_23 ?_
      refine lv_sipush (v := 145) hx hb dX2_passBoth_26 (by decide) ?_
      refine lv_icmp_ne (tgt := 67) hx hb dX2_passBoth_29 rfl (fun c_18 => ?_) (fun c_18 => ?_)
      · have c_18 : (G_8.1 3 3).toInt ≠ 145 := xI_ne rfl rfl c_18
        refine ic_1 hx hb dX2_passBoth_67 ?_
        exact W.zret (v := 1) hx hb hr (by decide) (fun t ht _ => ⟨⟨1, G_8, rfl, (P_fBoth_1_s_mk ⟨hB_G_8, hF, ⟨by decide, by decide⟩, ⟨r_1, G_2, hX_5, (Or.inr ⟨c_7, ⟨x_12, G_8, hX_13, f_15, hB_G_8, hq_9, (Or.inr ⟨c_17, (Or.inr ⟨c_18, ⟨rfl, rfl⟩⟩)⟩)⟩⟩)⟩⟩), wd_t ht hW⟩, hS.F ht⟩) hS.2.2 dX2_passBoth_68
      · have c_18 : (G_8.1 3 3).toInt = 145 := xI_eq rfl rfl c_18
        refine lv_aload_n hx hb dX2_passBoth_32 rfl (lv_at hl 1 rfl) ?_
        refine S_getR (n := 3) (C := RX2) (T := TX2) (N := 3) hx hb hg iX2 hown hK hW kd_4 rfl 0 (lt_b rfl) (hg (Cond.fieldLink RX2 9 "SlabWalk$Formulas" "tokens" "LSlabWalk$Tokens;") m301) (fun _ h9 => h9) rfl dX2_passBoth_33 ?_
        refine S_calli (va_runV (As := []) (rest := []) ⟨hx, hb, hml, hown, hts⟩ (k_tAdvance l D k A a z G_8  ) (cwV 0 hts (gd_V hgd m854 m639 m640 m120 m641) rfl rfl rfl hd_X9_advance ⟨show 6 + 1 ≤ fn + 13 from by omega, show 8 + (2 + 11) + (127) ≤ ln + 279 from by omega⟩) (pre_W hW hB_G_8 hK hZ hS kd_3 rfl) rfl rfl hl.1 rfl (lv_room (Nat.le_of_ble_eq_true rfl)) dX2_passBoth_36 ⟨Nat.le_of_ble_eq_true rfl, Nat.le_of_ble_eq_true rfl⟩) hS (fun r_19 G_20 H locs hpo hW hS => ?_)
        have hX_23 : P_tAdvance G_8 r_19 G_20 := hpo
        obtain ⟨hB_G_20, hq_21, f_24, -⟩ := hpo
        have hF := hF.call9 hq_21 rfl rfl
        refine lv_pop hx hb dX2_passBoth_39 rfl ?_
        refine lv_aload_n hx hb dX2_passBoth_40 rfl (lv_at hl 1 rfl) ?_
        refine lv_iload_n hx hb dX2_passBoth_41 rfl (lv_at hl 2 rfl) ?_
        refine S_calli (va_runV (As := [.int p0]) (rest := []) ⟨hx, hb, hml, hown, hts⟩ (k_fOne_1_s l D k A a z fn ln n E O hEb hOb hE hO G_20 p0 ⟨(by first | (clear f_6 c_7 hn_16 f_15 c_17 c_18 f_24; omega) | omega), (by first | (clear f_6 c_7 hn_16 f_15 c_17 c_18 f_24; omega) | omega)⟩ ((((hq_21.r9 4 1 rfl rfl).trans ((hq_9.r9 4 1 rfl rfl).trans (hq_3.r9 4 1 rfl rfl)))).trans (hv_4_1)) ((by first | (clear f_6 c_7 hn_16 f_15 c_17 c_18 f_24; omega) | omega))) (cwV 1 hts (gd_V hgd m829 m831 m18 m121 m832) rfl rfl rfl hd_X2_passOne ⟨show fn + 12 + 1 ≤ fn + 13 from by omega, show 8 + (2 + 11) + (ln + 258) ≤ ln + 279 from by omega⟩) (pre_W hW hB_G_20 hK hZ hS kd_4 rfl) rfl rfl hl.1 rfl (lv_room (Nat.le_of_ble_eq_true rfl)) dX2_passBoth_42 ⟨Nat.le_of_ble_eq_true rfl, Nat.le_of_ble_eq_true rfl⟩) hS (fun r_25 G_26 H locs hpo hW hS => ?_)
        have hX_29 : P_fOne_1_s E O p0 G_20 r_25 G_26 := hpo
        obtain ⟨hB_G_26, hq_27, f_30, -⟩ := hpo
        have hF := hF.call9 hq_27 rfl rfl
        refine lv_if_ne (tgt := 50) hx hb dX2_passBoth_45 rfl (fun c_31 => ?_) (fun c_31 => ?_)
        · have c_31 : r_25.toInt ≠ 0 := xI_ne rfl rfl c_31
          refine lv_aload_n hx hb dX2_passBoth_50 rfl (lv_at hl 1 rfl) ?_
          refine S_getV (n := 1) (C := RX2) (T := TX2) (N := 3) hx hb hg iX2 hown hK hW kd_4 rfl 1 (lt_b rfl) (hg (Cond.fieldLink RX2 15 "SlabWalk$Formulas" "paving" "LSlabWalk$Paving;") m302) (fun _ h9 => h9) rfl ((((hq_27.r9 4 1 rfl rfl).trans ((hq_21.r9 4 1 rfl rfl).trans ((hq_9.r9 4 1 rfl rfl).trans (hq_3.r9 4 1 rfl rfl))))).trans (hv_4_1)) dX2_passBoth_51 ?_
          refine lv_sipush (v := 145) hx hb dX2_passBoth_54 (by decide) ?_
          refine ic_0 hx hb dX2_passBoth_57 ?_
          refine S_callv (va_runV (As := [.int 145, .int 0]) (rest := []) ⟨hx, hb, hml, hown, hts⟩ (k_emit_1 l D k A a z G_26 145 0 ) (cwV 2 hts (gd_V hgd m855 m856 m857 m118 m858) rfl rfl rfl hd_X6_emit ⟨show 0 + 1 ≤ fn + 13 from by omega, show 8 + (3 + 11) + (0) ≤ ln + 279 from by omega⟩) (pre_W hW hB_G_26 hK hZ hS kd_1 rfl) rfl rfl hl.1 rfl (lv_room (Nat.le_of_ble_eq_true rfl)) dX2_passBoth_58 ⟨Nat.le_of_ble_eq_true rfl, Nat.le_of_ble_eq_true rfl⟩) hS (fun G_33 H locs hpo hW hS => ?_)
          have hX_36 : P_emit_1 145 0 G_26 G_33 := hpo
          obtain ⟨hB_G_33, hq_34, -⟩ := hpo
          have hF := hF.call9 hq_34 rfl rfl
          obtain ⟨y_37, ey_37⟩ : ∃ q, q = x_12 + 1 := ⟨_, rfl⟩
          have ty_37 : y_37.toInt = x_12.toInt + 1 := xI_add rfl rfl ey_37 ((by first | (clear ha_p0 hd f_6 c_7 hn_16 c_18 f_24 f_30 c_31; omega) | omega)) ((by first | (clear ha_p0 hd f_6 c_7 hn_16 c_18 f_24 f_30 c_31; omega) | omega))
          refine lv_iinc (v := y_37) (lv' := [(2, .int y_37), (0, .ref (a 4)), (1, .int p0)]) hx hb dX2_passBoth_61 hl (k := 0) rfl (by rw [ey_37]; rfl) (lt_b rfl) rfl (fun ls hl => ?_)
          refine lv_goto (tgt := 12) hx hb dX2_passBoth_64 rfl ?_
          exact ih_10 (1600 - y_37.toInt : Int).toNat ((by first | (clear ha_p0 hd f_6 c_7 c_18 f_24 f_30 c_31; omega) | omega)) _ _ _ ⟨G_33, y_37, (Int.toNat_of_nonneg ((by first | (clear ha_p0 hd f_6 c_7 hn_16 c_18 f_24 f_30 c_31; omega) | omega))), ⟨(by first | (clear ha_p0 hd f_6 c_7 hn_16 c_18 f_24 f_30 c_31; omega) | omega), (by first | (clear ha_p0 hd f_6 c_7 hn_16 c_18 f_24 f_30 c_31; omega) | omega)⟩, (hX_13.st (St_k_fBoth_1_s_1_mk ⟨x_12, G_8, y_37, G_33, rfl, rfl, f_15, hB_G_8, ⟨c_17, ⟨c_18, ⟨r_19, G_20, hX_23, ⟨r_25, G_26, hX_29, ⟨c_31, ⟨G_33, hX_36, ⟨y_37, ty_37, ⟨rfl, rfl⟩⟩⟩⟩⟩⟩⟩⟩⟩)), hW, hB_G_33, hF, (Fr.call9 (rs := [17]) (fs := [(1, 12), (1, 13), (3, 2), (3, 3), (3, 4), (3, 5), (3, 6), (3, 7), (3, 8), (4, 2)]) (Fr.call9 (rs := [17]) (fs := [(1, 12), (1, 13), (3, 2), (3, 3), (3, 4), (3, 5), (3, 6), (3, 7), (3, 8), (4, 2)]) (Fr.call9 (rs := [17]) (fs := [(1, 12), (1, 13), (3, 2), (3, 3), (3, 4), (3, 5), (3, 6), (3, 7), (3, 8), (4, 2)]) (Fr.call9 (rs := [17]) (fs := [(1, 12), (1, 13), (3, 2), (3, 3), (3, 4), (3, 5), (3, 6), (3, 7), (3, 8), (4, 2)]) Fr.rf hq_9 rfl rfl) hq_21 rfl rfl) hq_27 rfl rfl) hq_34 rfl rfl), hS, lv_sub hl [0, 1, 2] rfl⟩
        · have c_31 : r_25.toInt = 0 := xI_eq rfl rfl c_31
          refine ic_0 hx hb dX2_passBoth_48 ?_
          exact W.zret (v := 0) hx hb hr (by decide) (fun t ht _ => ⟨⟨0, G_26, rfl, (P_fBoth_1_s_mk ⟨hB_G_26, hF, ⟨by decide, by decide⟩, ⟨r_1, G_2, hX_5, (Or.inr ⟨c_7, ⟨x_12, G_8, hX_13, f_15, hB_G_8, hq_9, (Or.inr ⟨c_17, (Or.inl ⟨c_18, ⟨r_19, G_20, hX_23, ⟨r_25, G_26, hX_29, ⟨c_31, ⟨rfl, rfl⟩⟩⟩⟩⟩)⟩)⟩⟩)⟩⟩), wd_t ht hW⟩, hS.F ht⟩) hS.2.2 dX2_passBoth_49
  · have c_7 : r_1.toInt = 0 := xI_eq rfl rfl c_7
    refine ic_0 hx hb dX2_passBoth_8 ?_
    exact W.zret (v := 0) hx hb hr (by decide) (fun t ht _ => ⟨⟨0, G_2, rfl, (P_fBoth_1_s_mk ⟨hB_G_2, hF, ⟨by decide, by decide⟩, ⟨r_1, G_2, hX_5, (Or.inl ⟨c_7, ⟨rfl, rfl⟩⟩)⟩⟩), wd_t ht hW⟩, hS.F ht⟩) hS.2.2 dX2_passBoth_9

set_option maxHeartbeats 4000000 in
set_option maxRecDepth 100000 in
theorem k_fEither_1_s (l : Launch) (D : va_G) (k : KT) (A : Nat → Prop) (a : Nat → Nat) (z : SK) (fn ln n : Nat) (E O : XR) (hEb : ∀ (p0 : Int32) (G : GS) (r : Int32) (G1 : GS), E p0 G r G1 → Bd G1 ∧ Fr [17] [(1, 12), (1, 13), (3, 2), (3, 3), (3, 4), (3, 5), (3, 6), (3, 7), (3, 8), (4, 2)] G G1 ∧ (0 ≤ r.toInt ∧ r.toInt ≤ 1)) (hOb : ∀ (p0 : Int32) (G : GS) (r : Int32) (G1 : GS), O p0 G r G1 → Bd G1 ∧ Fr [17] [(1, 12), (1, 13), (3, 2), (3, 3), (3, 4), (3, 5), (3, 6), (3, 7), (3, 8), (4, 2)] G G1 ∧ (0 ≤ r.toInt ∧ r.toInt ≤ 1)) (hE : ∀ (G : GS) (p0 : Int32) (ha_p0 : 0 ≤ p0.toInt ∧ p0.toInt ≤ 7) (hv_4_1 : G.2.2 4 1 = 1) (hd : 8 ≤ p0.toInt + (n : Int)), Met l yX2_passEither (WS yX2_passEither cX2_passEither 3 (some .boolean)) ({ frames := fn + 2, cells := 0, slots := 0, locals := ln + 43 }) (va_Pc [.ref (a 4), .int p0] (cW D k A a z G)) (va_Qi (fun (r : Int32) (G1 : GS) => E p0 G r G1) (fun (G1 : GS) t => Wd D k A a G1 t.heap) A) 0 0 A) (hO : ∀ (G : GS) (p0 : Int32) (ha_p0 : 0 ≤ p0.toInt ∧ p0.toInt ≤ 7) (hv_4_1 : G.2.2 4 1 = 1) (hd : 8 ≤ p0.toInt + (n : Int)), Met l yX2_passOne (WS yX2_passOne cX2_passOne 2 (some .boolean)) ({ frames := fn + 0, cells := 0, slots := 0, locals := ln + 0 }) (va_Pc [.ref (a 4), .int p0] (cW D k A a z G)) (va_Qi (fun (r : Int32) (G1 : GS) => O p0 G r G1) (fun (G1 : GS) t => Wd D k A a G1 t.heap) A) 0 0 A) (G : GS) (p0 : Int32) (ha_p0 : 0 ≤ p0.toInt ∧ p0.toInt ≤ 7) (hv_4_1 : G.2.2 4 1 = 1) (hd : 8 ≤ p0.toInt + (n : Int) + 1) : Met l yX2_passEither (WS yX2_passEither cX2_passEither 3 (some .boolean)) ({ frames := fn + 14, cells := 0, slots := 0, locals := ln + 301 }) (va_Pc [.ref (a 4), .int p0] (cW D k A a z G)) (va_Qi (fun (r : Int32) (G1 : GS) => P_fEither_1_s E O p0 G r G1) (fun (G1 : GS) t => Wd D k A a G1 t.heap) A) 0 0 A := by
  refine Met.ofW (cc := cX2_passEither) (maxL := 3) (ret := (some .boolean)) (by decide) rfl ?_
  intro p e s m args below meth c s₁ B hml hv
  obtain ⟨rfl, hW, hB_G, hK, hZ⟩ := hv
  have hx := B.exec
  have hb := B.bytes
  have hr := B.returns
  have hts := atoms_spec (ws := WS yX2_passEither cX2_passEither 3 (some .boolean)) B.pre
  have hgd : ∀ w ∈ gd, w ∈ WS yX2_passEither cX2_passEither 3 (some .boolean) := fun w h => List.mem_cons_of_mem _ h
  have hg : ∀ w ∈ gd, w.before _ s = true := fun w h => hts w (hgd w h)
  have hown : s.vm.findClass RX2 = some m.cls := findClass_of_methodNamed B.named
  have hS : va_S A s.heap s.heap [] := va_S.rf
  have hF : Fr [17] [(1, 12), (1, 13), (3, 2), (3, 3), (3, 4), (3, 5), (3, 6), (3, 7), (3, 8), (4, 2)] G G := Fr.rf
  have hl := lv_entry ([.ref (a 4), .int p0]) (n := 3) (Nat.le_of_ble_eq_true rfl)
  rw [lg_entry_eq]
  generalize (lg_sl ([.ref (a 4), .int p0]) ++ List.replicate (3 - (lg_sl ([.ref (a 4), .int p0])).length) Slot.unset).toArray = ls at hl ⊢
  have hl : lv_has ls 3 [(0, .ref (a 4)), (1, .int p0)] := hl
  refine lv_aload_n hx hb dX2_passEither_0 rfl (lv_at hl 0 rfl) ?_
  refine lv_iload_n hx hb dX2_passEither_1 rfl (lv_at hl 1 rfl) ?_
  refine S_calli (va_runV (As := [.int p0]) (rest := []) ⟨hx, hb, hml, hown, hts⟩ (k_fBoth_1_s l D k A a z fn ln n E O hEb hOb hE hO G p0 ⟨by omega, by omega⟩ hv_4_1 (by omega)) (cwV 1 hts (gd_V hgd m825 m827 m17 m121 m828) rfl rfl rfl hd_X2_passBoth ⟨show fn + 13 + 1 ≤ fn + 14 from by omega, show 8 + (3 + 11) + (ln + 279) ≤ ln + 301 from by omega⟩) (pre_W hW hB_G hK hZ hS kd_4 rfl) rfl rfl hl.1 rfl (lv_room (Nat.le_of_ble_eq_true rfl)) dX2_passEither_2 ⟨Nat.le_of_ble_eq_true rfl, Nat.le_of_ble_eq_true rfl⟩) hS (fun r_1 G_2 H locs hpo hW hS => ?_)
  have hX_5 : P_fBoth_1_s E O p0 G r_1 G_2 := hpo
  obtain ⟨hB_G_2, hq_3, f_6, -⟩ := hpo
  have hF := hF.call9 hq_3 rfl rfl
  refine lv_if_ne (tgt := 10) hx hb dX2_passEither_5 rfl (fun c_7 => ?_) (fun c_7 => ?_)
  · have c_7 : r_1.toInt ≠ 0 := xI_ne rfl rfl c_7
    refine ic_0 hx hb dX2_passEither_10 ?_
    refine lv_istore_n (lv' := [(2, .int 0), (0, .ref (a 4)), (1, .int p0)]) hx hb dX2_passEither_11 rfl hl (lt_b rfl) rfl (fun ls hl => ?_)
    have qc_14 : (0 : Int32).toInt = 0 := rfl
    refine loop_N (Inv := fun n H locs ls => ∃ (G_8 : GS) (x_12 : Int32), (n : Int) = 1600 - x_12.toInt ∧ (0 ≤ x_12.toInt ∧ x_12.toInt ≤ 1600) ∧ Rc (St_k_fEither_1_s_1 E O p0) (0, G_2) (x_12, G_8) ∧ Wd D k A a G_8 H ∧ Bd G_8 ∧ Fr [17] [(1, 12), (1, 13), (3, 2), (3, 3), (3, 4), (3, 5), (3, 6), (3, 7), (3, 8), (4, 2)] G G_8 ∧ Fr [17] [(1, 12), (1, 13), (3, 2), (3, 3), (3, 4), (3, 5), (3, 6), (3, 7), (3, 8), (4, 2)] G_2 G_8 ∧ va_S A s.heap H locs ∧ lv_has ls 3 [(2, .int x_12), (0, .ref (a 4)), (1, .int p0)]) (fun n_11 H locs ls ih_10 hI => ?_) (1600 - 0 : Int).toNat ⟨G_2, 0, (Int.toNat_of_nonneg ((by first | (clear ha_p0 hd f_6 c_7; omega) | omega))), ⟨(by first | (clear ha_p0 hd f_6 c_7; omega) | omega), (by first | (clear ha_p0 hd f_6 c_7; omega) | omega)⟩, Rc.rf, hW, hB_G_2, hF, Fr.rf, hS, lv_sub hl [0, 1, 2] rfl⟩
    obtain ⟨G_8, x_12, hn_16, f_15, hX_13, hW, hB_G_8, hF, hq_9, hS, hl⟩ := hI
    refine lv_iload_n hx hb dX2_passEither_12 rfl (lv_at hl 0 rfl) ?_
    refine lv_sipush (v := 1600) hx hb dX2_passEither_13 (by decide) ?_
    refine lv_icmp_ge (tgt := 67) hx hb dX2_passEither_16 rfl (fun c_17 => ?_) (fun c_17 => ?_)
    · have c_17 : 1600 ≤ x_12.toInt := xI_le rfl rfl c_17
      refine ic_1 hx hb dX2_passEither_67 ?_
      exact W.zret (v := 1) hx hb hr (by decide) (fun t ht _ => ⟨⟨1, G_8, rfl, (P_fEither_1_s_mk ⟨hB_G_8, hF, ⟨by decide, by decide⟩, ⟨r_1, G_2, hX_5, (Or.inr ⟨c_7, ⟨x_12, G_8, hX_13, f_15, hB_G_8, hq_9, (Or.inl ⟨c_17, ⟨rfl, rfl⟩⟩)⟩⟩)⟩⟩), wd_t ht hW⟩, hS.F ht⟩) hS.2.2 dX2_passEither_68
    · have c_17 : x_12.toInt < 1600 := xI_nle rfl rfl c_17
      refine lv_aload_n hx hb dX2_passEither_19 rfl (lv_at hl 1 rfl) ?_
      refine S_getR (n := 3) (C := RX2) (T := TX2) (N := 3) hx hb hg iX2 hown hK hW kd_4 rfl 0 (lt_b rfl) (hg (Cond.fieldLink RX2 9 "SlabWalk$Formulas" "tokens" "LSlabWalk$Tokens;") m301) (fun _ h9 => h9) rfl dX2_passEither_20 ?_
      refine S_getI (v := (G_8.1 3 3)) (C := RX9) (T := TX9) (N := 9) hx hb hg iX9 hown hK hW kd_3 rfl 3 (lt_b rfl) (hg (Cond.fieldLink RX2 30 "SlabWalk$Tokens" "kind" "I") m263) (fun _ h9 => h9) rfl rfl dX2_passEither_23 ?_
      refine lv_sipush (v := 144) hx hb dX2_passEither_26 (by decide) ?_
      refine lv_icmp_ne (tgt := 67) hx hb dX2_passEither_29 rfl (fun c_18 => ?_) (fun c_18 => ?_)
      · have c_18 : (G_8.1 3 3).toInt ≠ 144 := xI_ne rfl rfl c_18
        refine ic_1 hx hb dX2_passEither_67 ?_
        exact W.zret (v := 1) hx hb hr (by decide) (fun t ht _ => ⟨⟨1, G_8, rfl, (P_fEither_1_s_mk ⟨hB_G_8, hF, ⟨by decide, by decide⟩, ⟨r_1, G_2, hX_5, (Or.inr ⟨c_7, ⟨x_12, G_8, hX_13, f_15, hB_G_8, hq_9, (Or.inr ⟨c_17, (Or.inr ⟨c_18, ⟨rfl, rfl⟩⟩)⟩)⟩⟩)⟩⟩), wd_t ht hW⟩, hS.F ht⟩) hS.2.2 dX2_passEither_68
      · have c_18 : (G_8.1 3 3).toInt = 144 := xI_eq rfl rfl c_18
        refine lv_aload_n hx hb dX2_passEither_32 rfl (lv_at hl 1 rfl) ?_
        refine S_getR (n := 3) (C := RX2) (T := TX2) (N := 3) hx hb hg iX2 hown hK hW kd_4 rfl 0 (lt_b rfl) (hg (Cond.fieldLink RX2 9 "SlabWalk$Formulas" "tokens" "LSlabWalk$Tokens;") m301) (fun _ h9 => h9) rfl dX2_passEither_33 ?_
        refine S_calli (va_runV (As := []) (rest := []) ⟨hx, hb, hml, hown, hts⟩ (k_tAdvance l D k A a z G_8  ) (cwV 0 hts (gd_V hgd m854 m639 m640 m120 m641) rfl rfl rfl hd_X9_advance ⟨show 6 + 1 ≤ fn + 14 from by omega, show 8 + (2 + 11) + (127) ≤ ln + 301 from by omega⟩) (pre_W hW hB_G_8 hK hZ hS kd_3 rfl) rfl rfl hl.1 rfl (lv_room (Nat.le_of_ble_eq_true rfl)) dX2_passEither_36 ⟨Nat.le_of_ble_eq_true rfl, Nat.le_of_ble_eq_true rfl⟩) hS (fun r_19 G_20 H locs hpo hW hS => ?_)
        have hX_23 : P_tAdvance G_8 r_19 G_20 := hpo
        obtain ⟨hB_G_20, hq_21, f_24, -⟩ := hpo
        have hF := hF.call9 hq_21 rfl rfl
        refine lv_pop hx hb dX2_passEither_39 rfl ?_
        refine lv_aload_n hx hb dX2_passEither_40 rfl (lv_at hl 1 rfl) ?_
        refine lv_iload_n hx hb dX2_passEither_41 rfl (lv_at hl 2 rfl) ?_
        refine S_calli (va_runV (As := [.int p0]) (rest := []) ⟨hx, hb, hml, hown, hts⟩ (k_fBoth_1_s l D k A a z fn ln n E O hEb hOb hE hO G_20 p0 ⟨(by first | (clear f_6 c_7 hn_16 f_15 c_17 c_18 f_24; omega) | omega), (by first | (clear f_6 c_7 hn_16 f_15 c_17 c_18 f_24; omega) | omega)⟩ ((((hq_21.r9 4 1 rfl rfl).trans ((hq_9.r9 4 1 rfl rfl).trans (hq_3.r9 4 1 rfl rfl)))).trans (hv_4_1)) ((by first | (clear f_6 c_7 hn_16 f_15 c_17 c_18 f_24; omega) | omega))) (cwV 1 hts (gd_V hgd m825 m827 m17 m121 m828) rfl rfl rfl hd_X2_passBoth ⟨show fn + 13 + 1 ≤ fn + 14 from by omega, show 8 + (3 + 11) + (ln + 279) ≤ ln + 301 from by omega⟩) (pre_W hW hB_G_20 hK hZ hS kd_4 rfl) rfl rfl hl.1 rfl (lv_room (Nat.le_of_ble_eq_true rfl)) dX2_passEither_42 ⟨Nat.le_of_ble_eq_true rfl, Nat.le_of_ble_eq_true rfl⟩) hS (fun r_25 G_26 H locs hpo hW hS => ?_)
        have hX_29 : P_fBoth_1_s E O p0 G_20 r_25 G_26 := hpo
        obtain ⟨hB_G_26, hq_27, f_30, -⟩ := hpo
        have hF := hF.call9 hq_27 rfl rfl
        refine lv_if_ne (tgt := 50) hx hb dX2_passEither_45 rfl (fun c_31 => ?_) (fun c_31 => ?_)
        · have c_31 : r_25.toInt ≠ 0 := xI_ne rfl rfl c_31
          refine lv_aload_n hx hb dX2_passEither_50 rfl (lv_at hl 1 rfl) ?_
          refine S_getV (n := 1) (C := RX2) (T := TX2) (N := 3) hx hb hg iX2 hown hK hW kd_4 rfl 1 (lt_b rfl) (hg (Cond.fieldLink RX2 15 "SlabWalk$Formulas" "paving" "LSlabWalk$Paving;") m302) (fun _ h9 => h9) rfl ((((hq_27.r9 4 1 rfl rfl).trans ((hq_21.r9 4 1 rfl rfl).trans ((hq_9.r9 4 1 rfl rfl).trans (hq_3.r9 4 1 rfl rfl))))).trans (hv_4_1)) dX2_passEither_51 ?_
          refine lv_sipush (v := 144) hx hb dX2_passEither_54 (by decide) ?_
          refine ic_0 hx hb dX2_passEither_57 ?_
          refine S_callv (va_runV (As := [.int 144, .int 0]) (rest := []) ⟨hx, hb, hml, hown, hts⟩ (k_emit_1 l D k A a z G_26 144 0 ) (cwV 2 hts (gd_V hgd m855 m856 m857 m118 m858) rfl rfl rfl hd_X6_emit ⟨show 0 + 1 ≤ fn + 14 from by omega, show 8 + (3 + 11) + (0) ≤ ln + 301 from by omega⟩) (pre_W hW hB_G_26 hK hZ hS kd_1 rfl) rfl rfl hl.1 rfl (lv_room (Nat.le_of_ble_eq_true rfl)) dX2_passEither_58 ⟨Nat.le_of_ble_eq_true rfl, Nat.le_of_ble_eq_true rfl⟩) hS (fun G_33 H locs hpo hW hS => ?_)
          have hX_36 : P_emit_1 144 0 G_26 G_33 := hpo
          obtain ⟨hB_G_33, hq_34, -⟩ := hpo
          have hF := hF.call9 hq_34 rfl rfl
          obtain ⟨y_37, ey_37⟩ : ∃ q, q = x_12 + 1 := ⟨_, rfl⟩
          have ty_37 : y_37.toInt = x_12.toInt + 1 := xI_add rfl rfl ey_37 ((by first | (clear ha_p0 hd f_6 c_7 hn_16 c_18 f_24 f_30 c_31; omega) | omega)) ((by first | (clear ha_p0 hd f_6 c_7 hn_16 c_18 f_24 f_30 c_31; omega) | omega))
          refine lv_iinc (v := y_37) (lv' := [(2, .int y_37), (0, .ref (a 4)), (1, .int p0)]) hx hb dX2_passEither_61 hl (k := 0) rfl (by rw [ey_37]; rfl) (lt_b rfl) rfl (fun ls hl => ?_)
          refine lv_goto (tgt := 12) hx hb dX2_passEither_64 rfl ?_
          exact ih_10 (1600 - y_37.toInt : Int).toNat ((by first | (clear ha_p0 hd f_6 c_7 c_18 f_24 f_30 c_31; omega) | omega)) _ _ _ ⟨G_33, y_37, (Int.toNat_of_nonneg ((by first | (clear ha_p0 hd f_6 c_7 hn_16 c_18 f_24 f_30 c_31; omega) | omega))), ⟨(by first | (clear ha_p0 hd f_6 c_7 hn_16 c_18 f_24 f_30 c_31; omega) | omega), (by first | (clear ha_p0 hd f_6 c_7 hn_16 c_18 f_24 f_30 c_31; omega) | omega)⟩, (hX_13.st (St_k_fEither_1_s_1_mk ⟨x_12, G_8, y_37, G_33, rfl, rfl, f_15, hB_G_8, ⟨c_17, ⟨c_18, ⟨r_19, G_20, hX_23, ⟨r_25, G_26, hX_29, ⟨c_31, ⟨G_33, hX_36, ⟨y_37, ty_37, ⟨rfl, rfl⟩⟩⟩⟩⟩⟩⟩⟩⟩)), hW, hB_G_33, hF, (Fr.call9 (rs := [17]) (fs := [(1, 12), (1, 13), (3, 2), (3, 3), (3, 4), (3, 5), (3, 6), (3, 7), (3, 8), (4, 2)]) (Fr.call9 (rs := [17]) (fs := [(1, 12), (1, 13), (3, 2), (3, 3), (3, 4), (3, 5), (3, 6), (3, 7), (3, 8), (4, 2)]) (Fr.call9 (rs := [17]) (fs := [(1, 12), (1, 13), (3, 2), (3, 3), (3, 4), (3, 5), (3, 6), (3, 7), (3, 8), (4, 2)]) (Fr.call9 (rs := [17]) (fs := [(1, 12), (1, 13), (3, 2), (3, 3), (3, 4), (3, 5), (3, 6), (3, 7), (3, 8), (4, 2)]) Fr.rf hq_9 rfl rfl) hq_21 rfl rfl) hq_27 rfl rfl) hq_34 rfl rfl), hS, lv_sub hl [0, 1, 2] rfl⟩
        · have c_31 : r_25.toInt = 0 := xI_eq rfl rfl c_31
          refine ic_0 hx hb dX2_passEither_48 ?_
          exact W.zret (v := 0) hx hb hr (by decide) (fun t ht _ => ⟨⟨0, G_26, rfl, (P_fEither_1_s_mk ⟨hB_G_26, hF, ⟨by decide, by decide⟩, ⟨r_1, G_2, hX_5, (Or.inr ⟨c_7, ⟨x_12, G_8, hX_13, f_15, hB_G_8, hq_9, (Or.inr ⟨c_17, (Or.inl ⟨c_18, ⟨r_19, G_20, hX_23, ⟨r_25, G_26, hX_29, ⟨c_31, ⟨rfl, rfl⟩⟩⟩⟩⟩)⟩)⟩⟩)⟩⟩), wd_t ht hW⟩, hS.F ht⟩) hS.2.2 dX2_passEither_49
  · have c_7 : r_1.toInt = 0 := xI_eq rfl rfl c_7
    refine ic_0 hx hb dX2_passEither_8 ?_
    exact W.zret (v := 0) hx hb hr (by decide) (fun t ht _ => ⟨⟨0, G_2, rfl, (P_fEither_1_s_mk ⟨hB_G_2, hF, ⟨by decide, by decide⟩, ⟨r_1, G_2, hX_5, (Or.inl ⟨c_7, ⟨rfl, rfl⟩⟩)⟩⟩), wd_t ht hW⟩, hS.F ht⟩) hS.2.2 dX2_passEither_9



set_option maxHeartbeats 4000000 in
set_option maxRecDepth 100000 in
theorem k_fBracket_2_s (l : Launch) (D : va_G) (k : KT) (A : Nat → Prop) (a : Nat → Nat) (z : SK) (fn ln n : Nat) (E O : XR) (hEb : ∀ (p0 : Int32) (G : GS) (r : Int32) (G1 : GS), E p0 G r G1 → Bd G1 ∧ Fr [27] [(2, 12), (2, 13), (3, 2), (3, 3), (3, 4), (3, 5), (3, 6), (3, 7), (3, 8), (4, 2)] G G1 ∧ (0 ≤ r.toInt ∧ r.toInt ≤ 1)) (hOb : ∀ (p0 : Int32) (G : GS) (r : Int32) (G1 : GS), O p0 G r G1 → Bd G1 ∧ Fr [27] [(2, 12), (2, 13), (3, 2), (3, 3), (3, 4), (3, 5), (3, 6), (3, 7), (3, 8), (4, 2)] G G1 ∧ (0 ≤ r.toInt ∧ r.toInt ≤ 1)) (hE : ∀ (G : GS) (p0 : Int32) (ha_p0 : 0 ≤ p0.toInt ∧ p0.toInt ≤ 7) (hv_4_1 : G.2.2 4 1 = 2) (hd : 8 ≤ p0.toInt + (n : Int)), Met l yX2_passEither (WS yX2_passEither cX2_passEither 3 (some .boolean)) ({ frames := fn + 2, cells := 0, slots := 0, locals := ln + 43 }) (va_Pc [.ref (a 4), .int p0] (cW D k A a z G)) (va_Qi (fun (r : Int32) (G1 : GS) => E p0 G r G1) (fun (G1 : GS) t => Wd D k A a G1 t.heap) A) 0 0 A) (hO : ∀ (G : GS) (p0 : Int32) (ha_p0 : 0 ≤ p0.toInt ∧ p0.toInt ≤ 7) (hv_4_1 : G.2.2 4 1 = 2) (hd : 8 ≤ p0.toInt + (n : Int)), Met l yX2_passOne (WS yX2_passOne cX2_passOne 2 (some .boolean)) ({ frames := fn + 0, cells := 0, slots := 0, locals := ln + 0 }) (va_Pc [.ref (a 4), .int p0] (cW D k A a z G)) (va_Qi (fun (r : Int32) (G1 : GS) => O p0 G r G1) (fun (G1 : GS) t => Wd D k A a G1 t.heap) A) 0 0 A) (G : GS) (p0 : Int32) (ha_p0 : 0 ≤ p0.toInt ∧ p0.toInt ≤ 7) (hv_4_1 : G.2.2 4 1 = 2) (hd : 8 ≤ p0.toInt + (n : Int) + 1) : Met l yX2_passBracket (WS yX2_passBracket cX2_passBracket 2 (some .boolean)) ({ frames := fn + 7, cells := 0, slots := 0, locals := ln + 148 }) (va_Pc [.ref (a 4), .int p0] (cW D k A a z G)) (va_Qi (fun (r : Int32) (G1 : GS) => P_fBracket_2_s E O p0 G r G1) (fun (G1 : GS) t => Wd D k A a G1 t.heap) A) 0 0 A := by
  refine Met.ofW (cc := cX2_passBracket) (maxL := 2) (ret := (some .boolean)) (by decide) rfl ?_
  intro p e s m args below meth c s₁ B hml hv
  obtain ⟨rfl, hW, hB_G, hK, hZ⟩ := hv
  have hx := B.exec
  have hb := B.bytes
  have hr := B.returns
  have hts := atoms_spec (ws := WS yX2_passBracket cX2_passBracket 2 (some .boolean)) B.pre
  have hgd : ∀ w ∈ gd, w ∈ WS yX2_passBracket cX2_passBracket 2 (some .boolean) := fun w h => List.mem_cons_of_mem _ h
  have hg : ∀ w ∈ gd, w.before _ s = true := fun w h => hts w (hgd w h)
  have hown : s.vm.findClass RX2 = some m.cls := findClass_of_methodNamed B.named
  have hS : va_S A s.heap s.heap [] := va_S.rf
  have hF : Fr [27] [(2, 12), (2, 13), (3, 2), (3, 3), (3, 4), (3, 5), (3, 6), (3, 7), (3, 8), (4, 2)] G G := Fr.rf
  have hl := lv_entry ([.ref (a 4), .int p0]) (n := 2) (Nat.le_of_ble_eq_true rfl)
  rw [lg_entry_eq]
  generalize (lg_sl ([.ref (a 4), .int p0]) ++ List.replicate (2 - (lg_sl ([.ref (a 4), .int p0])).length) Slot.unset).toArray = ls at hl ⊢
  have hl : lv_has ls 2 [(0, .ref (a 4)), (1, .int p0)] := hl
  refine lv_iload_n hx hb dX2_passBracket_0 rfl (lv_at hl 1 rfl) ?_
  refine lv_bipush (v := 6) hx hb dX2_passBracket_1 (by decide) ?_
  refine lv_icmp_le (tgt := 15) hx hb dX2_passBracket_3 rfl (fun c_1 => ?_) (fun c_1 => ?_)
  · have c_1 : p0.toInt ≤ 6 := xI_le rfl rfl c_1
    refine lv_aload_n hx hb dX2_passBracket_15 rfl (lv_at hl 0 rfl) ?_
    refine S_getR (n := 3) (C := RX2) (T := TX2) (N := 3) hx hb hg iX2 hown hK hW kd_4 rfl 0 (lt_b rfl) (hg (Cond.fieldLink RX2 9 "SlabWalk$Formulas" "tokens" "LSlabWalk$Tokens;") m301) (fun _ h9 => h9) rfl dX2_passBracket_16 ?_
    refine S_calli (va_runV (As := []) (rest := []) ⟨hx, hb, hml, hown, hts⟩ (k_tAdvance l D k A a z G  ) (cwV 0 hts (gd_V hgd m854 m639 m640 m120 m641) rfl rfl rfl hd_X9_advance ⟨show 6 + 1 ≤ fn + 7 from by omega, show 8 + (2 + 11) + (127) ≤ ln + 148 from by omega⟩) (pre_W hW hB_G hK hZ hS kd_3 rfl) rfl rfl hl.1 rfl (lv_room (Nat.le_of_ble_eq_true rfl)) dX2_passBracket_19 ⟨Nat.le_of_ble_eq_true rfl, Nat.le_of_ble_eq_true rfl⟩) hS (fun r_2 G_3 H locs hpo hW hS => ?_)
    have hX_6 : P_tAdvance G r_2 G_3 := hpo
    obtain ⟨hB_G_3, hq_4, f_7, -⟩ := hpo
    have hF := hF.call9 hq_4 rfl rfl
    refine lv_pop hx hb dX2_passBracket_22 rfl ?_
    refine lv_aload_n hx hb dX2_passBracket_23 rfl (lv_at hl 0 rfl) ?_
    refine lv_iload_n hx hb dX2_passBracket_24 rfl (lv_at hl 1 rfl) ?_
    refine ic_1 hx hb dX2_passBracket_25 ?_
    refine lv_iadd hx hb dX2_passBracket_26 ?_
    refine lv_topi (fun y_8 ey_8 => ?_)
    have ty_8 : y_8.toInt = p0.toInt + 1 := xI_add rfl rfl ey_8 (by omega) (by omega)
    refine S_calli (va_runV (As := [.int y_8]) (rest := []) ⟨hx, hb, hml, hown, hts⟩ (hE G_3 y_8 ⟨by omega, by omega⟩ (((hq_4.r9 4 1 rfl rfl)).trans (hv_4_1)) (by omega)) (cwV 1 hts (gd_V hgd m821 m823 m16 m121 m824) rfl rfl rfl hd_X2_passEither ⟨show fn + 2 + 1 ≤ fn + 7 from by omega, show 8 + (3 + 11) + (ln + 43) ≤ ln + 148 from by omega⟩) (pre_W hW hB_G_3 hK hZ hS kd_4 rfl) rfl rfl hl.1 rfl (lv_room (Nat.le_of_ble_eq_true rfl)) dX2_passBracket_27 ⟨Nat.le_of_ble_eq_true rfl, Nat.le_of_ble_eq_true rfl⟩) hS (fun r_9 G_10 H locs hpo hW hS => ?_)
    have hX_13 : E y_8 G_3 r_9 G_10 := hpo
    obtain ⟨hB_G_10, hq_11, f_14⟩ := hEb _ _ _ _ hpo
    have hF := hF.call9 hq_11 rfl rfl
    refine lv_if_ne (tgt := 35) hx hb dX2_passBracket_30 rfl (fun c_15 => ?_) (fun c_15 => ?_)
    · have c_15 : r_9.toInt ≠ 0 := xI_ne rfl rfl c_15
      refine lv_aload_n hx hb dX2_passBracket_35 rfl (lv_at hl 0 rfl) ?_
      refine S_getR (n := 3) (C := RX2) (T := TX2) (N := 3) hx hb hg iX2 hown hK hW kd_4 rfl 0 (lt_b rfl) (hg (Cond.fieldLink RX2 9 "SlabWalk$Formulas" "tokens" "LSlabWalk$Tokens;") m301) (fun _ h9 => h9) rfl dX2_passBracket_36 ?_
      refine S_getI (v := (G_10.1 3 3)) (C := RX9) (T := TX9) (N := 9) hx hb hg iX9 hown hK hW kd_3 rfl 3 (lt_b rfl) (hg (Cond.fieldLink RX2 30 "SlabWalk$Tokens" "kind" "I") m263) (fun _ h9 => h9) rfl rfl dX2_passBracket_39 ?_
      refine lv_bipush (v := 41) hx hb dX2_passBracket_42 (by decide) ?_
      refine lv_icmp_ne (tgt := 57) hx hb dX2_passBracket_44 rfl (fun c_16 => ?_) (fun c_16 => ?_)
      · have c_16 : (G_10.1 3 3).toInt ≠ 41 := xI_ne rfl rfl c_16
        refine lv_aload_n hx hb dX2_passBracket_57 rfl (lv_at hl 0 rfl) ?_
        refine S_getR (n := 3) (C := RX2) (T := TX2) (N := 3) hx hb hg iX2 hown hK hW kd_4 rfl 0 (lt_b rfl) (hg (Cond.fieldLink RX2 9 "SlabWalk$Formulas" "tokens" "LSlabWalk$Tokens;") m301) (fun _ h9 => h9) rfl dX2_passBracket_58 ?_
        refine ic_2 hx hb dX2_passBracket_61 ?_
        refine S_calli (va_runV (As := [.int 2]) (rest := []) ⟨hx, hb, hml, hown, hts⟩ (k_tRefuse l D k A a z G_10 2 ⟨by decide, by decide⟩) (cwV 1 hts (gd_V hgd m849 m779 m780 m120 m781) rfl rfl rfl hd_X9_refuse ⟨show 0 + 1 ≤ fn + 7 from by omega, show 8 + (2 + 11) + (0) ≤ ln + 148 from by omega⟩) (pre_W hW hB_G_10 hK hZ hS kd_3 rfl) rfl rfl hl.1 rfl (lv_room (Nat.le_of_ble_eq_true rfl)) dX2_passBracket_62 ⟨Nat.le_of_ble_eq_true rfl, Nat.le_of_ble_eq_true rfl⟩) hS (fun r_17 G_18 H locs hpo hW hS => ?_)
        have hX_21 : P_tRefuse 2 G_10 r_17 G_18 := hpo
        obtain ⟨hB_G_18, hq_19, f_22, -⟩ := hpo
        have hF := hF.call9 hq_19 rfl rfl
        exact W.zret (v := r_17) hx hb hr (nar_z ((by first | (clear ha_p0 hd c_1 f_7 ty_8 f_14 c_15 c_16; omega) | omega)) ((by first | (clear ha_p0 hd c_1 f_7 ty_8 f_14 c_15 c_16; omega) | omega))) (fun t ht _ => ⟨⟨r_17, G_18, rfl, (P_fBracket_2_s_mk ⟨hB_G_18, hF, ⟨(by first | (clear ha_p0 hd c_1 f_7 ty_8 f_14 c_15 c_16; omega) | omega), (by first | (clear ha_p0 hd c_1 f_7 ty_8 f_14 c_15 c_16; omega) | omega)⟩, (Or.inl ⟨c_1, ⟨r_2, G_3, hX_6, ⟨y_8, ty_8, ⟨r_9, G_10, hX_13, (Or.inr ⟨c_15, (Or.inr ⟨c_16, ⟨r_17, G_18, hX_21, ⟨rfl, rfl⟩⟩⟩)⟩)⟩⟩⟩⟩)⟩), wd_t ht hW⟩, hS.F ht⟩) hS.2.2 dX2_passBracket_65
      · have c_16 : (G_10.1 3 3).toInt = 41 := xI_eq rfl rfl c_16
        refine lv_aload_n hx hb dX2_passBracket_47 rfl (lv_at hl 0 rfl) ?_
        refine S_getR (n := 3) (C := RX2) (T := TX2) (N := 3) hx hb hg iX2 hown hK hW kd_4 rfl 0 (lt_b rfl) (hg (Cond.fieldLink RX2 9 "SlabWalk$Formulas" "tokens" "LSlabWalk$Tokens;") m301) (fun _ h9 => h9) rfl dX2_passBracket_48 ?_
        refine S_calli (va_runV (As := []) (rest := []) ⟨hx, hb, hml, hown, hts⟩ (k_tAdvance l D k A a z G_10  ) (cwV 0 hts (gd_V hgd m854 m639 m640 m120 m641) rfl rfl rfl hd_X9_advance ⟨show 6 + 1 ≤ fn + 7 from by omega, show 8 + (2 + 11) + (127) ≤ ln + 148 from by omega⟩) (pre_W hW hB_G_10 hK hZ hS kd_3 rfl) rfl rfl hl.1 rfl (lv_room (Nat.le_of_ble_eq_true rfl)) dX2_passBracket_51 ⟨Nat.le_of_ble_eq_true rfl, Nat.le_of_ble_eq_true rfl⟩) hS (fun r_23 G_24 H locs hpo hW hS => ?_)
        have hX_27 : P_tAdvance G_10 r_23 G_24 := hpo
        obtain ⟨hB_G_24, hq_25, f_28, -⟩ := hpo
        have hF := hF.call9 hq_25 rfl rfl
        refine lv_goto (tgt := 65) hx hb dX2_passBracket_54 rfl ?_
        exact W.zret (v := r_23) hx hb hr (nar_z ((by first | (clear ha_p0 hd c_1 f_7 ty_8 f_14 c_15 c_16; omega) | omega)) ((by first | (clear ha_p0 hd c_1 f_7 ty_8 f_14 c_15 c_16; omega) | omega))) (fun t ht _ => ⟨⟨r_23, G_24, rfl, (P_fBracket_2_s_mk ⟨hB_G_24, hF, ⟨(by first | (clear ha_p0 hd c_1 f_7 ty_8 f_14 c_15 c_16; omega) | omega), (by first | (clear ha_p0 hd c_1 f_7 ty_8 f_14 c_15 c_16; omega) | omega)⟩, (Or.inl ⟨c_1, ⟨r_2, G_3, hX_6, ⟨y_8, ty_8, ⟨r_9, G_10, hX_13, (Or.inr ⟨c_15, (Or.inl ⟨c_16, ⟨r_23, G_24, hX_27, ⟨rfl, rfl⟩⟩⟩)⟩)⟩⟩⟩⟩)⟩), wd_t ht hW⟩, hS.F ht⟩) hS.2.2 dX2_passBracket_65
    · have c_15 : r_9.toInt = 0 := xI_eq rfl rfl c_15
      refine ic_0 hx hb dX2_passBracket_33 ?_
      exact W.zret (v := 0) hx hb hr (by decide) (fun t ht _ => ⟨⟨0, G_10, rfl, (P_fBracket_2_s_mk ⟨hB_G_10, hF, ⟨by decide, by decide⟩, (Or.inl ⟨c_1, ⟨r_2, G_3, hX_6, ⟨y_8, ty_8, ⟨r_9, G_10, hX_13, (Or.inl ⟨c_15, ⟨rfl, rfl⟩⟩)⟩⟩⟩⟩)⟩), wd_t ht hW⟩, hS.F ht⟩) hS.2.2 dX2_passBracket_34
  · have c_1 : 6 < p0.toInt := xI_nle rfl rfl c_1
    refine lv_aload_n hx hb dX2_passBracket_6 rfl (lv_at hl 0 rfl) ?_
    refine S_getR (n := 3) (C := RX2) (T := TX2) (N := 3) hx hb hg iX2 hown hK hW kd_4 rfl 0 (lt_b rfl) (hg (Cond.fieldLink RX2 9 "SlabWalk$Formulas" "tokens" "LSlabWalk$Tokens;") m301) (fun _ h9 => h9) rfl dX2_passBracket_7 ?_
    refine ic_2 hx hb dX2_passBracket_10 ?_
    refine S_calli (va_runV (As := [.int 2]) (rest := []) ⟨hx, hb, hml, hown, hts⟩ (k_tRefuse l D k A a z G 2 ⟨by decide, by decide⟩) (cwV 1 hts (gd_V hgd m849 m779 m780 m120 m781) rfl rfl rfl hd_X9_refuse ⟨show 0 + 1 ≤ fn + 7 from by omega, show 8 + (2 + 11) + (0) ≤ ln + 148 from by omega⟩) (pre_W hW hB_G hK hZ hS kd_3 rfl) rfl rfl hl.1 rfl (lv_room (Nat.le_of_ble_eq_true rfl)) dX2_passBracket_11 ⟨Nat.le_of_ble_eq_true rfl, Nat.le_of_ble_eq_true rfl⟩) hS (fun r_29 G_30 H locs hpo hW hS => ?_)
    have hX_33 : P_tRefuse 2 G r_29 G_30 := hpo
    obtain ⟨hB_G_30, hq_31, f_34, -⟩ := hpo
    have hF := hF.call9 hq_31 rfl rfl
    exact W.zret (v := r_29) hx hb hr (nar_z ((by first | (clear ha_p0 hd c_1; omega) | omega)) ((by first | (clear ha_p0 hd c_1; omega) | omega))) (fun t ht _ => ⟨⟨r_29, G_30, rfl, (P_fBracket_2_s_mk ⟨hB_G_30, hF, ⟨(by first | (clear ha_p0 hd c_1; omega) | omega), (by first | (clear ha_p0 hd c_1; omega) | omega)⟩, (Or.inr ⟨c_1, ⟨r_29, G_30, hX_33, ⟨rfl, rfl⟩⟩⟩)⟩), wd_t ht hW⟩, hS.F ht⟩) hS.2.2 dX2_passBracket_14

set_option maxHeartbeats 4000000 in
set_option maxRecDepth 100000 in
theorem k_fUnit_2_s (l : Launch) (D : va_G) (k : KT) (A : Nat → Prop) (a : Nat → Nat) (z : SK) (fn ln n : Nat) (E O : XR) (hEb : ∀ (p0 : Int32) (G : GS) (r : Int32) (G1 : GS), E p0 G r G1 → Bd G1 ∧ Fr [27] [(2, 12), (2, 13), (3, 2), (3, 3), (3, 4), (3, 5), (3, 6), (3, 7), (3, 8), (4, 2)] G G1 ∧ (0 ≤ r.toInt ∧ r.toInt ≤ 1)) (hOb : ∀ (p0 : Int32) (G : GS) (r : Int32) (G1 : GS), O p0 G r G1 → Bd G1 ∧ Fr [27] [(2, 12), (2, 13), (3, 2), (3, 3), (3, 4), (3, 5), (3, 6), (3, 7), (3, 8), (4, 2)] G G1 ∧ (0 ≤ r.toInt ∧ r.toInt ≤ 1)) (hE : ∀ (G : GS) (p0 : Int32) (ha_p0 : 0 ≤ p0.toInt ∧ p0.toInt ≤ 7) (hv_4_1 : G.2.2 4 1 = 2) (hd : 8 ≤ p0.toInt + (n : Int)), Met l yX2_passEither (WS yX2_passEither cX2_passEither 3 (some .boolean)) ({ frames := fn + 2, cells := 0, slots := 0, locals := ln + 43 }) (va_Pc [.ref (a 4), .int p0] (cW D k A a z G)) (va_Qi (fun (r : Int32) (G1 : GS) => E p0 G r G1) (fun (G1 : GS) t => Wd D k A a G1 t.heap) A) 0 0 A) (hO : ∀ (G : GS) (p0 : Int32) (ha_p0 : 0 ≤ p0.toInt ∧ p0.toInt ≤ 7) (hv_4_1 : G.2.2 4 1 = 2) (hd : 8 ≤ p0.toInt + (n : Int)), Met l yX2_passOne (WS yX2_passOne cX2_passOne 2 (some .boolean)) ({ frames := fn + 0, cells := 0, slots := 0, locals := ln + 0 }) (va_Pc [.ref (a 4), .int p0] (cW D k A a z G)) (va_Qi (fun (r : Int32) (G1 : GS) => O p0 G r G1) (fun (G1 : GS) t => Wd D k A a G1 t.heap) A) 0 0 A) (G : GS) (p0 : Int32) (ha_p0 : 0 ≤ p0.toInt ∧ p0.toInt ≤ 7) (hv_4_1 : G.2.2 4 1 = 2) (hd : 8 ≤ p0.toInt + (n : Int) + 1) : Met l yX2_passUnit (WS yX2_passUnit cX2_passUnit 2 (some .boolean)) ({ frames := fn + 8, cells := 0, slots := 0, locals := ln + 169 }) (va_Pc [.ref (a 4), .int p0] (cW D k A a z G)) (va_Qi (fun (r : Int32) (G1 : GS) => P_fUnit_2_s E O p0 G r G1) (fun (G1 : GS) t => Wd D k A a G1 t.heap) A) 0 0 A := by
  refine Met.ofW (cc := cX2_passUnit) (maxL := 2) (ret := (some .boolean)) (by decide) rfl ?_
  intro p e s m args below meth c s₁ B hml hv
  obtain ⟨rfl, hW, hB_G, hK, hZ⟩ := hv
  have hx := B.exec
  have hb := B.bytes
  have hr := B.returns
  have hts := atoms_spec (ws := WS yX2_passUnit cX2_passUnit 2 (some .boolean)) B.pre
  have hgd : ∀ w ∈ gd, w ∈ WS yX2_passUnit cX2_passUnit 2 (some .boolean) := fun w h => List.mem_cons_of_mem _ h
  have hg : ∀ w ∈ gd, w.before _ s = true := fun w h => hts w (hgd w h)
  have hown : s.vm.findClass RX2 = some m.cls := findClass_of_methodNamed B.named
  have hS : va_S A s.heap s.heap [] := va_S.rf
  have hF : Fr [27] [(2, 12), (2, 13), (3, 2), (3, 3), (3, 4), (3, 5), (3, 6), (3, 7), (3, 8), (4, 2)] G G := Fr.rf
  have hl := lv_entry ([.ref (a 4), .int p0]) (n := 2) (Nat.le_of_ble_eq_true rfl)
  rw [lg_entry_eq]
  generalize (lg_sl ([.ref (a 4), .int p0]) ++ List.replicate (2 - (lg_sl ([.ref (a 4), .int p0])).length) Slot.unset).toArray = ls at hl ⊢
  have hl : lv_has ls 2 [(0, .ref (a 4)), (1, .int p0)] := hl
  refine lv_aload_n hx hb dX2_passUnit_0 rfl (lv_at hl 0 rfl) ?_
  have b_1 : 0 ≤ (G.1 4 2).toInt ∧ (G.1 4 2).toInt ≤ 30 := bd_4_2 hB_G
  refine S_getI (v := (G.1 4 2)) (C := RX2) (T := TX2) (N := 3) hx hb hg iX2 hown hK hW kd_4 rfl 2 (lt_b rfl) (hg (Cond.fieldLink RX2 19 "SlabWalk$Formulas" "units" "I") m303) (fun _ h9 => h9) rfl rfl dX2_passUnit_1 ?_
  refine lv_bipush (v := 30) hx hb dX2_passUnit_4 (by decide) ?_
  refine lv_icmp_ge (tgt := 21) hx hb dX2_passUnit_6 rfl (fun c_2 => ?_) (fun c_2 => ?_)
  · have c_2 : 30 ≤ (G.1 4 2).toInt := xI_le rfl rfl c_2
    refine lv_aload_n hx hb dX2_passUnit_21 rfl (lv_at hl 0 rfl) ?_
    refine S_getR (n := 3) (C := RX2) (T := TX2) (N := 3) hx hb hg iX2 hown hK hW kd_4 rfl 0 (lt_b rfl) (hg (Cond.fieldLink RX2 9 "SlabWalk$Formulas" "tokens" "LSlabWalk$Tokens;") m301) (fun _ h9 => h9) rfl dX2_passUnit_22 ?_
    refine ic_2 hx hb dX2_passUnit_25 ?_
    refine S_calli (va_runV (As := [.int 2]) (rest := []) ⟨hx, hb, hml, hown, hts⟩ (k_tRefuse l D k A a z G 2 ⟨by decide, by decide⟩) (cwV 1 hts (gd_V hgd m849 m779 m780 m120 m781) rfl rfl rfl hd_X9_refuse ⟨show 0 + 1 ≤ fn + 8 from by omega, show 8 + (2 + 11) + (0) ≤ ln + 169 from by omega⟩) (pre_W hW hB_G hK hZ hS kd_3 rfl) rfl rfl hl.1 rfl (lv_room (Nat.le_of_ble_eq_true rfl)) dX2_passUnit_26 ⟨Nat.le_of_ble_eq_true rfl, Nat.le_of_ble_eq_true rfl⟩) hS (fun r_3 G_4 H locs hpo hW hS => ?_)
    have hX_7 : P_tRefuse 2 G r_3 G_4 := hpo
    obtain ⟨hB_G_4, hq_5, f_8, -⟩ := hpo
    have hF := hF.call9 hq_5 rfl rfl
    exact W.zret (v := r_3) hx hb hr (nar_z ((by first | (clear ha_p0 hd b_1 c_2; omega) | omega)) ((by first | (clear ha_p0 hd b_1 c_2; omega) | omega))) (fun t ht _ => ⟨⟨r_3, G_4, rfl, (P_fUnit_2_s_mk ⟨hB_G_4, hF, ⟨(by first | (clear ha_p0 hd b_1 c_2; omega) | omega), (by first | (clear ha_p0 hd b_1 c_2; omega) | omega)⟩, (Or.inl ⟨c_2, ⟨r_3, G_4, hX_7, ⟨rfl, rfl⟩⟩⟩)⟩), wd_t ht hW⟩, hS.F ht⟩) hS.2.2 dX2_passUnit_29
  · have c_2 : (G.1 4 2).toInt < 30 := xI_nle rfl rfl c_2
    refine lv_aload_n hx hb dX2_passUnit_9 rfl (lv_at hl 0 rfl) ?_
    refine S_getV (n := 2) (C := RX2) (T := TX2) (N := 3) hx hb hg iX2 hown hK hW kd_4 rfl 1 (lt_b rfl) (hg (Cond.fieldLink RX2 15 "SlabWalk$Formulas" "paving" "LSlabWalk$Paving;") m302) (fun _ h9 => h9) rfl hv_4_1 dX2_passUnit_10 ?_
    have b_9 : 0 ≤ (G.1 2 12).toInt ∧ (G.1 2 12).toInt ≤ 90 := bd_2_12 hB_G
    refine S_getI (v := (G.1 2 12)) (C := RX6) (T := TX6) (N := 17) hx hb hg iX6 hown hK hW kd_2 rfl 12 (lt_b rfl) (hg (Cond.fieldLink RX2 66 "SlabWalk$Paving" "units" "I") m197) (fun _ h9 => h9) rfl rfl dX2_passUnit_13 ?_
    refine lv_bipush (v := 90) hx hb dX2_passUnit_16 (by decide) ?_
    refine lv_icmp_lt (tgt := 30) hx hb dX2_passUnit_18 rfl (fun c_10 => ?_) (fun c_10 => ?_)
    · have c_10 : (G.1 2 12).toInt < 90 := xI_lt rfl rfl c_10
      refine lv_aload_n hx hb dX2_passUnit_30 rfl (lv_at hl 0 rfl) ?_
      refine lv_dup hx hb dX2_passUnit_31 rfl ?_
      refine S_getI (v := (G.1 4 2)) (C := RX2) (T := TX2) (N := 3) hx hb hg iX2 hown hK hW kd_4 rfl 2 (lt_b rfl) (hg (Cond.fieldLink RX2 19 "SlabWalk$Formulas" "units" "I") m303) (fun _ h9 => h9) rfl rfl dX2_passUnit_32 ?_
      refine ic_1 hx hb dX2_passUnit_35 ?_
      refine lv_iadd hx hb dX2_passUnit_36 ?_
      refine lv_topi (fun y_11 ey_11 => ?_)
      have ty_11 : y_11.toInt = (G.1 4 2).toInt + 1 := xI_add rfl rfl ey_11 ((by first | (clear ha_p0 hd b_9 c_10; omega) | omega)) ((by first | (clear ha_p0 hd b_9 c_10; omega) | omega))
      refine S_putI (ty := .int) (C := RX2) (T := TX2) (N := 3) hx hb hg iX2 tyX2 tyX2_ok nmX2 hown hK hW hS kd_4 rfl 2 (lt_b rfl) (hg (Cond.fieldLink RX2 19 "SlabWalk$Formulas" "units" "I") m303) (fun _ h9 => h9) rfl (by decide +kernel) rfl rfl rfl dX2_passUnit_37 (fun G_12 H locs eG_12 hW hS => ?_)
      have hB_G_12 : Bd G_12 := hB_G.put (V := y_11.toInt) (lo := 0) (hi := 30) eG_12 rfl rfl rfl ((by first | (clear ha_p0 hd b_9 c_10; omega) | omega)) ((by first | (clear ha_p0 hd b_9 c_10; omega) | omega)) (hB_G.2.put eG_12 rfl)
      have hF := hF.put eG_12 (Or.inr (by decide))
      refine lv_aload_n hx hb dX2_passUnit_40 rfl (lv_at hl 0 rfl) ?_
      refine S_getV (n := 2) (C := RX2) (T := TX2) (N := 3) hx hb hg iX2 hown hK hW kd_4 rfl 1 (lt_b rfl) (hg (Cond.fieldLink RX2 15 "SlabWalk$Formulas" "paving" "LSlabWalk$Paving;") m302) (fun _ h9 => h9) rfl (((congrFun (congrFun (congrArg (fun q => q.2.2) eG_12) 4) 1)).trans (hv_4_1)) dX2_passUnit_41 ?_
      refine lv_dup hx hb dX2_passUnit_44 rfl ?_
      refine S_getI (v := (G.1 2 12)) (C := RX6) (T := TX6) (N := 17) hx hb hg iX6 hown hK hW kd_2 rfl 12 (lt_b rfl) (hg (Cond.fieldLink RX2 66 "SlabWalk$Paving" "units" "I") m197) (fun _ h9 => h9) rfl ((gp_ne eG_12 (by decide)).trans (rfl)) dX2_passUnit_45 ?_
      refine ic_1 hx hb dX2_passUnit_48 ?_
      refine lv_iadd hx hb dX2_passUnit_49 ?_
      refine lv_topi (fun y_13 ey_13 => ?_)
      have ty_13 : y_13.toInt = (G.1 2 12).toInt + 1 := xI_add rfl rfl ey_13 ((by first | (clear ha_p0 hd b_1 c_2 ty_11; omega) | omega)) ((by first | (clear ha_p0 hd b_1 c_2 ty_11; omega) | omega))
      refine S_putI (ty := .int) (C := RX6) (T := TX6) (N := 17) hx hb hg iX6 tyX6 tyX6_ok nmX6 hown hK hW hS kd_2 rfl 12 (lt_b rfl) (hg (Cond.fieldLink RX2 66 "SlabWalk$Paving" "units" "I") m197) (fun _ h9 => h9) rfl (by decide +kernel) rfl rfl rfl dX2_passUnit_50 (fun G_14 H locs eG_14 hW hS => ?_)
      have hB_G_14 : Bd G_14 := hB_G_12.put (V := y_13.toInt) (lo := 0) (hi := 90) eG_14 rfl rfl rfl ((by first | (clear ha_p0 hd b_1 c_2 ty_11; omega) | omega)) ((by first | (clear ha_p0 hd b_1 c_2 ty_11; omega) | omega)) (hB_G_12.2.put eG_14 rfl)
      have hF := hF.put eG_14 (Or.inr (by decide))
      refine lv_aload_n hx hb dX2_passUnit_53 rfl (lv_at hl 0 rfl) ?_
      refine S_getR (n := 3) (C := RX2) (T := TX2) (N := 3) hx hb hg iX2 hown hK hW kd_4 rfl 0 (lt_b rfl) (hg (Cond.fieldLink RX2 9 "SlabWalk$Formulas" "tokens" "LSlabWalk$Tokens;") m301) (fun _ h9 => h9) rfl dX2_passUnit_54 ?_
      refine S_getI (v := (G.1 3 3)) (C := RX9) (T := TX9) (N := 9) hx hb hg iX9 hown hK hW kd_3 rfl 3 (lt_b rfl) (hg (Cond.fieldLink RX2 30 "SlabWalk$Tokens" "kind" "I") m263) (fun _ h9 => h9) rfl ((gp_ne eG_14 (by decide)).trans (gp_ne eG_12 (by decide))) dX2_passUnit_57 ?_
      by_cases c_15 : (G.1 3 3) = 40
      · refine lv_lookup (tgt := 160) hx hb dX2_passUnit_60 (by decide) (off := 100) (by rw [c_15]; decide) (by decide) ?_
        have c_15 : (G.1 3 3).toInt = 40 := xI_eq rfl rfl c_15
        refine lv_aload_n hx hb dX2_passUnit_160 rfl (lv_at hl 0 rfl) ?_
        refine lv_iload_n hx hb dX2_passUnit_161 rfl (lv_at hl 1 rfl) ?_
        refine S_calli (va_runV (As := [.int p0]) (rest := []) ⟨hx, hb, hml, hown, hts⟩ (k_fBracket_2_s l D k A a z fn ln n E O hEb hOb hE hO G_14 p0 ⟨(by first | (clear b_1 c_2 b_9 c_10 ty_11 ty_13 c_15; omega) | omega), (by first | (clear b_1 c_2 b_9 c_10 ty_11 ty_13 c_15; omega) | omega)⟩ ((((congrFun (congrFun (congrArg (fun q => q.2.2) eG_14) 4) 1).trans (congrFun (congrFun (congrArg (fun q => q.2.2) eG_12) 4) 1))).trans (hv_4_1)) ((by first | (clear b_1 c_2 b_9 c_10 ty_11 ty_13 c_15; omega) | omega))) (cwV 1 hts (gd_V hgd m850 m852 m23 m121 m853) rfl rfl rfl hd_X2_passBracket ⟨show fn + 7 + 1 ≤ fn + 8 from by omega, show 8 + (2 + 11) + (ln + 148) ≤ ln + 169 from by omega⟩) (pre_W hW hB_G_14 hK hZ hS kd_4 rfl) rfl rfl hl.1 rfl (lv_room (Nat.le_of_ble_eq_true rfl)) dX2_passUnit_162 ⟨Nat.le_of_ble_eq_true rfl, Nat.le_of_ble_eq_true rfl⟩) hS (fun r_16 G_17 H locs hpo hW hS => ?_)
        have hX_20 : P_fBracket_2_s E O p0 G_14 r_16 G_17 := hpo
        obtain ⟨hB_G_17, hq_18, f_21, -⟩ := hpo
        have hF := hF.call9 hq_18 rfl rfl
        exact W.zret (v := r_16) hx hb hr (nar_z ((by first | (clear ha_p0 hd b_1 c_2 b_9 c_10 ty_11 ty_13 c_15; omega) | omega)) ((by first | (clear ha_p0 hd b_1 c_2 b_9 c_10 ty_11 ty_13 c_15; omega) | omega))) (fun t ht _ => ⟨⟨r_16, G_17, rfl, (P_fUnit_2_s_mk ⟨hB_G_17, hF, ⟨(by first | (clear ha_p0 hd b_1 c_2 b_9 c_10 ty_11 ty_13 c_15; omega) | omega), (by first | (clear ha_p0 hd b_1 c_2 b_9 c_10 ty_11 ty_13 c_15; omega) | omega)⟩, (Or.inr ⟨c_2, (Or.inl ⟨c_10, ⟨y_11, ty_11, ⟨y_13, ty_13, (Or.inl ⟨c_15, ⟨G_14, hB_G_14, (Fr.put (rs := []) (fs := [(2, 12), (4, 2)]) (Fr.put (rs := []) (fs := [(2, 12), (4, 2)]) Fr.rf eG_12 (Or.inr (by decide))) eG_14 (Or.inr (by decide))), (gp_eq eG_14), ((gp_ne eG_14 (by decide)).trans (gp_eq eG_12)), ⟨r_16, G_17, hX_20, ⟨rfl, rfl⟩⟩⟩⟩)⟩⟩⟩)⟩)⟩), wd_t ht hW⟩, hS.F ht⟩) hS.2.2 dX2_passUnit_165
      by_cases c_22 : (G.1 3 3) = 139
      · refine lv_lookup (tgt := 191) hx hb dX2_passUnit_60 (by decide) (off := 131) (by rw [c_22]; decide) (by decide) ?_
        have c_22 : (G.1 3 3).toInt = 139 := xI_eq rfl rfl c_22
        refine lv_aload_n hx hb dX2_passUnit_191 rfl (lv_at hl 0 rfl) ?_
        refine S_getV (n := 2) (C := RX2) (T := TX2) (N := 3) hx hb hg iX2 hown hK hW kd_4 rfl 1 (lt_b rfl) (hg (Cond.fieldLink RX2 15 "SlabWalk$Formulas" "paving" "LSlabWalk$Paving;") m302) (fun _ h9 => h9) rfl ((((congrFun (congrFun (congrArg (fun q => q.2.2) eG_14) 4) 1).trans (congrFun (congrFun (congrArg (fun q => q.2.2) eG_12) 4) 1))).trans (hv_4_1)) dX2_passUnit_192 ?_
        refine lv_aload_n hx hb dX2_passUnit_195 rfl (lv_at hl 0 rfl) ?_
        refine S_getR (n := 3) (C := RX2) (T := TX2) (N := 3) hx hb hg iX2 hown hK hW kd_4 rfl 0 (lt_b rfl) (hg (Cond.fieldLink RX2 9 "SlabWalk$Formulas" "tokens" "LSlabWalk$Tokens;") m301) (fun _ h9 => h9) rfl dX2_passUnit_196 ?_
        refine S_getI (v := (G.1 3 3)) (C := RX9) (T := TX9) (N := 9) hx hb hg iX9 hown hK hW kd_3 rfl 3 (lt_b rfl) (hg (Cond.fieldLink RX2 30 "SlabWalk$Tokens" "kind" "I") m263) (fun _ h9 => h9) rfl ((gp_ne eG_14 (by decide)).trans ((gp_ne eG_12 (by decide)).trans (rfl))) dX2_passUnit_199 ?_
        refine ic_0 hx hb dX2_passUnit_202 ?_
        refine S_callv (va_runV (As := [.int (G.1 3 3), .int 0]) (rest := []) ⟨hx, hb, hml, hown, hts⟩ (k_emit_2 l D k A a z G_14 (G.1 3 3) 0 ) (cwV 2 hts (gd_V hgd m855 m856 m857 m118 m858) rfl rfl rfl hd_X6_emit ⟨show 0 + 1 ≤ fn + 8 from by omega, show 8 + (3 + 11) + (0) ≤ ln + 169 from by omega⟩) (pre_W hW hB_G_14 hK hZ hS kd_2 rfl) rfl rfl hl.1 rfl (lv_room (Nat.le_of_ble_eq_true rfl)) dX2_passUnit_203 ⟨Nat.le_of_ble_eq_true rfl, Nat.le_of_ble_eq_true rfl⟩) hS (fun G_24 H locs hpo hW hS => ?_)
        have hX_27 : P_emit_2 (G.1 3 3) 0 G_14 G_24 := hpo
        obtain ⟨hB_G_24, hq_25, -⟩ := hpo
        have hF := hF.call9 hq_25 rfl rfl
        refine lv_aload_n hx hb dX2_passUnit_206 rfl (lv_at hl 0 rfl) ?_
        refine S_getR (n := 3) (C := RX2) (T := TX2) (N := 3) hx hb hg iX2 hown hK hW kd_4 rfl 0 (lt_b rfl) (hg (Cond.fieldLink RX2 9 "SlabWalk$Formulas" "tokens" "LSlabWalk$Tokens;") m301) (fun _ h9 => h9) rfl dX2_passUnit_207 ?_
        refine S_calli (va_runV (As := []) (rest := []) ⟨hx, hb, hml, hown, hts⟩ (k_tAdvance l D k A a z G_24  ) (cwV 0 hts (gd_V hgd m854 m639 m640 m120 m641) rfl rfl rfl hd_X9_advance ⟨show 6 + 1 ≤ fn + 8 from by omega, show 8 + (2 + 11) + (127) ≤ ln + 169 from by omega⟩) (pre_W hW hB_G_24 hK hZ hS kd_3 rfl) rfl rfl hl.1 rfl (lv_room (Nat.le_of_ble_eq_true rfl)) dX2_passUnit_210 ⟨Nat.le_of_ble_eq_true rfl, Nat.le_of_ble_eq_true rfl⟩) hS (fun r_28 G_29 H locs hpo hW hS => ?_)
        have hX_32 : P_tAdvance G_24 r_28 G_29 := hpo
        obtain ⟨hB_G_29, hq_30, f_33, -⟩ := hpo
        have hF := hF.call9 hq_30 rfl rfl
        exact W.zret (v := r_28) hx hb hr (nar_z ((by first | (clear ha_p0 hd b_1 c_2 b_9 c_10 ty_11 ty_13 c_22; omega) | omega)) ((by first | (clear ha_p0 hd b_1 c_2 b_9 c_10 ty_11 ty_13 c_22; omega) | omega))) (fun t ht _ => ⟨⟨r_28, G_29, rfl, (P_fUnit_2_s_mk ⟨hB_G_29, hF, ⟨(by first | (clear ha_p0 hd b_1 c_2 b_9 c_10 ty_11 ty_13 c_22; omega) | omega), (by first | (clear ha_p0 hd b_1 c_2 b_9 c_10 ty_11 ty_13 c_22; omega) | omega)⟩, (Or.inr ⟨c_2, (Or.inl ⟨c_10, ⟨y_11, ty_11, ⟨y_13, ty_13, (Or.inr ⟨(xI_ne (Y := 40) rfl rfl c_15), (Or.inl ⟨c_22, ⟨G_14, hB_G_14, (Fr.put (rs := []) (fs := [(2, 12), (4, 2)]) (Fr.put (rs := []) (fs := [(2, 12), (4, 2)]) Fr.rf eG_12 (Or.inr (by decide))) eG_14 (Or.inr (by decide))), (gp_eq eG_14), ((gp_ne eG_14 (by decide)).trans (gp_eq eG_12)), ⟨G_24, hX_27, ⟨r_28, G_29, hX_32, ⟨rfl, rfl⟩⟩⟩⟩⟩)⟩)⟩⟩⟩)⟩)⟩), wd_t ht hW⟩, hS.F ht⟩) hS.2.2 dX2_passUnit_213
      by_cases c_34 : (G.1 3 3) = 140
      · refine lv_lookup (tgt := 191) hx hb dX2_passUnit_60 (by decide) (off := 131) (by rw [c_34]; decide) (by decide) ?_
        have c_34 : (G.1 3 3).toInt = 140 := xI_eq rfl rfl c_34
        refine lv_aload_n hx hb dX2_passUnit_191 rfl (lv_at hl 0 rfl) ?_
        refine S_getV (n := 2) (C := RX2) (T := TX2) (N := 3) hx hb hg iX2 hown hK hW kd_4 rfl 1 (lt_b rfl) (hg (Cond.fieldLink RX2 15 "SlabWalk$Formulas" "paving" "LSlabWalk$Paving;") m302) (fun _ h9 => h9) rfl ((((congrFun (congrFun (congrArg (fun q => q.2.2) eG_14) 4) 1).trans (congrFun (congrFun (congrArg (fun q => q.2.2) eG_12) 4) 1))).trans (hv_4_1)) dX2_passUnit_192 ?_
        refine lv_aload_n hx hb dX2_passUnit_195 rfl (lv_at hl 0 rfl) ?_
        refine S_getR (n := 3) (C := RX2) (T := TX2) (N := 3) hx hb hg iX2 hown hK hW kd_4 rfl 0 (lt_b rfl) (hg (Cond.fieldLink RX2 9 "SlabWalk$Formulas" "tokens" "LSlabWalk$Tokens;") m301) (fun _ h9 => h9) rfl dX2_passUnit_196 ?_
        refine S_getI (v := (G.1 3 3)) (C := RX9) (T := TX9) (N := 9) hx hb hg iX9 hown hK hW kd_3 rfl 3 (lt_b rfl) (hg (Cond.fieldLink RX2 30 "SlabWalk$Tokens" "kind" "I") m263) (fun _ h9 => h9) rfl ((gp_ne eG_14 (by decide)).trans ((gp_ne eG_12 (by decide)).trans (rfl))) dX2_passUnit_199 ?_
        refine ic_0 hx hb dX2_passUnit_202 ?_
        refine S_callv (va_runV (As := [.int (G.1 3 3), .int 0]) (rest := []) ⟨hx, hb, hml, hown, hts⟩ (k_emit_2 l D k A a z G_14 (G.1 3 3) 0 ) (cwV 2 hts (gd_V hgd m855 m856 m857 m118 m858) rfl rfl rfl hd_X6_emit ⟨show 0 + 1 ≤ fn + 8 from by omega, show 8 + (3 + 11) + (0) ≤ ln + 169 from by omega⟩) (pre_W hW hB_G_14 hK hZ hS kd_2 rfl) rfl rfl hl.1 rfl (lv_room (Nat.le_of_ble_eq_true rfl)) dX2_passUnit_203 ⟨Nat.le_of_ble_eq_true rfl, Nat.le_of_ble_eq_true rfl⟩) hS (fun G_36 H locs hpo hW hS => ?_)
        have hX_39 : P_emit_2 (G.1 3 3) 0 G_14 G_36 := hpo
        obtain ⟨hB_G_36, hq_37, -⟩ := hpo
        have hF := hF.call9 hq_37 rfl rfl
        refine lv_aload_n hx hb dX2_passUnit_206 rfl (lv_at hl 0 rfl) ?_
        refine S_getR (n := 3) (C := RX2) (T := TX2) (N := 3) hx hb hg iX2 hown hK hW kd_4 rfl 0 (lt_b rfl) (hg (Cond.fieldLink RX2 9 "SlabWalk$Formulas" "tokens" "LSlabWalk$Tokens;") m301) (fun _ h9 => h9) rfl dX2_passUnit_207 ?_
        refine S_calli (va_runV (As := []) (rest := []) ⟨hx, hb, hml, hown, hts⟩ (k_tAdvance l D k A a z G_36  ) (cwV 0 hts (gd_V hgd m854 m639 m640 m120 m641) rfl rfl rfl hd_X9_advance ⟨show 6 + 1 ≤ fn + 8 from by omega, show 8 + (2 + 11) + (127) ≤ ln + 169 from by omega⟩) (pre_W hW hB_G_36 hK hZ hS kd_3 rfl) rfl rfl hl.1 rfl (lv_room (Nat.le_of_ble_eq_true rfl)) dX2_passUnit_210 ⟨Nat.le_of_ble_eq_true rfl, Nat.le_of_ble_eq_true rfl⟩) hS (fun r_40 G_41 H locs hpo hW hS => ?_)
        have hX_44 : P_tAdvance G_36 r_40 G_41 := hpo
        obtain ⟨hB_G_41, hq_42, f_45, -⟩ := hpo
        have hF := hF.call9 hq_42 rfl rfl
        exact W.zret (v := r_40) hx hb hr (nar_z ((by first | (clear ha_p0 hd b_1 c_2 b_9 c_10 ty_11 ty_13 c_34; omega) | omega)) ((by first | (clear ha_p0 hd b_1 c_2 b_9 c_10 ty_11 ty_13 c_34; omega) | omega))) (fun t ht _ => ⟨⟨r_40, G_41, rfl, (P_fUnit_2_s_mk ⟨hB_G_41, hF, ⟨(by first | (clear ha_p0 hd b_1 c_2 b_9 c_10 ty_11 ty_13 c_34; omega) | omega), (by first | (clear ha_p0 hd b_1 c_2 b_9 c_10 ty_11 ty_13 c_34; omega) | omega)⟩, (Or.inr ⟨c_2, (Or.inl ⟨c_10, ⟨y_11, ty_11, ⟨y_13, ty_13, (Or.inr ⟨(xI_ne (Y := 40) rfl rfl c_15), (Or.inr ⟨(xI_ne (Y := 139) rfl rfl c_22), (Or.inl ⟨c_34, ⟨G_14, hB_G_14, (Fr.put (rs := []) (fs := [(2, 12), (4, 2)]) (Fr.put (rs := []) (fs := [(2, 12), (4, 2)]) Fr.rf eG_12 (Or.inr (by decide))) eG_14 (Or.inr (by decide))), (gp_eq eG_14), ((gp_ne eG_14 (by decide)).trans (gp_eq eG_12)), ⟨G_36, hX_39, ⟨r_40, G_41, hX_44, ⟨rfl, rfl⟩⟩⟩⟩⟩)⟩)⟩)⟩⟩⟩)⟩)⟩), wd_t ht hW⟩, hS.F ht⟩) hS.2.2 dX2_passUnit_213
      by_cases c_46 : (G.1 3 3) = 141
      · refine lv_lookup (tgt := 191) hx hb dX2_passUnit_60 (by decide) (off := 131) (by rw [c_46]; decide) (by decide) ?_
        have c_46 : (G.1 3 3).toInt = 141 := xI_eq rfl rfl c_46
        refine lv_aload_n hx hb dX2_passUnit_191 rfl (lv_at hl 0 rfl) ?_
        refine S_getV (n := 2) (C := RX2) (T := TX2) (N := 3) hx hb hg iX2 hown hK hW kd_4 rfl 1 (lt_b rfl) (hg (Cond.fieldLink RX2 15 "SlabWalk$Formulas" "paving" "LSlabWalk$Paving;") m302) (fun _ h9 => h9) rfl ((((congrFun (congrFun (congrArg (fun q => q.2.2) eG_14) 4) 1).trans (congrFun (congrFun (congrArg (fun q => q.2.2) eG_12) 4) 1))).trans (hv_4_1)) dX2_passUnit_192 ?_
        refine lv_aload_n hx hb dX2_passUnit_195 rfl (lv_at hl 0 rfl) ?_
        refine S_getR (n := 3) (C := RX2) (T := TX2) (N := 3) hx hb hg iX2 hown hK hW kd_4 rfl 0 (lt_b rfl) (hg (Cond.fieldLink RX2 9 "SlabWalk$Formulas" "tokens" "LSlabWalk$Tokens;") m301) (fun _ h9 => h9) rfl dX2_passUnit_196 ?_
        refine S_getI (v := (G.1 3 3)) (C := RX9) (T := TX9) (N := 9) hx hb hg iX9 hown hK hW kd_3 rfl 3 (lt_b rfl) (hg (Cond.fieldLink RX2 30 "SlabWalk$Tokens" "kind" "I") m263) (fun _ h9 => h9) rfl ((gp_ne eG_14 (by decide)).trans ((gp_ne eG_12 (by decide)).trans (rfl))) dX2_passUnit_199 ?_
        refine ic_0 hx hb dX2_passUnit_202 ?_
        refine S_callv (va_runV (As := [.int (G.1 3 3), .int 0]) (rest := []) ⟨hx, hb, hml, hown, hts⟩ (k_emit_2 l D k A a z G_14 (G.1 3 3) 0 ) (cwV 2 hts (gd_V hgd m855 m856 m857 m118 m858) rfl rfl rfl hd_X6_emit ⟨show 0 + 1 ≤ fn + 8 from by omega, show 8 + (3 + 11) + (0) ≤ ln + 169 from by omega⟩) (pre_W hW hB_G_14 hK hZ hS kd_2 rfl) rfl rfl hl.1 rfl (lv_room (Nat.le_of_ble_eq_true rfl)) dX2_passUnit_203 ⟨Nat.le_of_ble_eq_true rfl, Nat.le_of_ble_eq_true rfl⟩) hS (fun G_48 H locs hpo hW hS => ?_)
        have hX_51 : P_emit_2 (G.1 3 3) 0 G_14 G_48 := hpo
        obtain ⟨hB_G_48, hq_49, -⟩ := hpo
        have hF := hF.call9 hq_49 rfl rfl
        refine lv_aload_n hx hb dX2_passUnit_206 rfl (lv_at hl 0 rfl) ?_
        refine S_getR (n := 3) (C := RX2) (T := TX2) (N := 3) hx hb hg iX2 hown hK hW kd_4 rfl 0 (lt_b rfl) (hg (Cond.fieldLink RX2 9 "SlabWalk$Formulas" "tokens" "LSlabWalk$Tokens;") m301) (fun _ h9 => h9) rfl dX2_passUnit_207 ?_
        refine S_calli (va_runV (As := []) (rest := []) ⟨hx, hb, hml, hown, hts⟩ (k_tAdvance l D k A a z G_48  ) (cwV 0 hts (gd_V hgd m854 m639 m640 m120 m641) rfl rfl rfl hd_X9_advance ⟨show 6 + 1 ≤ fn + 8 from by omega, show 8 + (2 + 11) + (127) ≤ ln + 169 from by omega⟩) (pre_W hW hB_G_48 hK hZ hS kd_3 rfl) rfl rfl hl.1 rfl (lv_room (Nat.le_of_ble_eq_true rfl)) dX2_passUnit_210 ⟨Nat.le_of_ble_eq_true rfl, Nat.le_of_ble_eq_true rfl⟩) hS (fun r_52 G_53 H locs hpo hW hS => ?_)
        have hX_56 : P_tAdvance G_48 r_52 G_53 := hpo
        obtain ⟨hB_G_53, hq_54, f_57, -⟩ := hpo
        have hF := hF.call9 hq_54 rfl rfl
        exact W.zret (v := r_52) hx hb hr (nar_z ((by first | (clear ha_p0 hd b_1 c_2 b_9 c_10 ty_11 ty_13 c_46; omega) | omega)) ((by first | (clear ha_p0 hd b_1 c_2 b_9 c_10 ty_11 ty_13 c_46; omega) | omega))) (fun t ht _ => ⟨⟨r_52, G_53, rfl, (P_fUnit_2_s_mk ⟨hB_G_53, hF, ⟨(by first | (clear ha_p0 hd b_1 c_2 b_9 c_10 ty_11 ty_13 c_46; omega) | omega), (by first | (clear ha_p0 hd b_1 c_2 b_9 c_10 ty_11 ty_13 c_46; omega) | omega)⟩, (Or.inr ⟨c_2, (Or.inl ⟨c_10, ⟨y_11, ty_11, ⟨y_13, ty_13, (Or.inr ⟨(xI_ne (Y := 40) rfl rfl c_15), (Or.inr ⟨(xI_ne (Y := 139) rfl rfl c_22), (Or.inr ⟨(xI_ne (Y := 140) rfl rfl c_34), (Or.inl ⟨c_46, ⟨G_14, hB_G_14, (Fr.put (rs := []) (fs := [(2, 12), (4, 2)]) (Fr.put (rs := []) (fs := [(2, 12), (4, 2)]) Fr.rf eG_12 (Or.inr (by decide))) eG_14 (Or.inr (by decide))), (gp_eq eG_14), ((gp_ne eG_14 (by decide)).trans (gp_eq eG_12)), ⟨G_48, hX_51, ⟨r_52, G_53, hX_56, ⟨rfl, rfl⟩⟩⟩⟩⟩)⟩)⟩)⟩)⟩⟩⟩)⟩)⟩), wd_t ht hW⟩, hS.F ht⟩) hS.2.2 dX2_passUnit_213
      by_cases c_58 : (G.1 3 3) = 142
      · refine lv_lookup (tgt := 191) hx hb dX2_passUnit_60 (by decide) (off := 131) (by rw [c_58]; decide) (by decide) ?_
        have c_58 : (G.1 3 3).toInt = 142 := xI_eq rfl rfl c_58
        refine lv_aload_n hx hb dX2_passUnit_191 rfl (lv_at hl 0 rfl) ?_
        refine S_getV (n := 2) (C := RX2) (T := TX2) (N := 3) hx hb hg iX2 hown hK hW kd_4 rfl 1 (lt_b rfl) (hg (Cond.fieldLink RX2 15 "SlabWalk$Formulas" "paving" "LSlabWalk$Paving;") m302) (fun _ h9 => h9) rfl ((((congrFun (congrFun (congrArg (fun q => q.2.2) eG_14) 4) 1).trans (congrFun (congrFun (congrArg (fun q => q.2.2) eG_12) 4) 1))).trans (hv_4_1)) dX2_passUnit_192 ?_
        refine lv_aload_n hx hb dX2_passUnit_195 rfl (lv_at hl 0 rfl) ?_
        refine S_getR (n := 3) (C := RX2) (T := TX2) (N := 3) hx hb hg iX2 hown hK hW kd_4 rfl 0 (lt_b rfl) (hg (Cond.fieldLink RX2 9 "SlabWalk$Formulas" "tokens" "LSlabWalk$Tokens;") m301) (fun _ h9 => h9) rfl dX2_passUnit_196 ?_
        refine S_getI (v := (G.1 3 3)) (C := RX9) (T := TX9) (N := 9) hx hb hg iX9 hown hK hW kd_3 rfl 3 (lt_b rfl) (hg (Cond.fieldLink RX2 30 "SlabWalk$Tokens" "kind" "I") m263) (fun _ h9 => h9) rfl ((gp_ne eG_14 (by decide)).trans ((gp_ne eG_12 (by decide)).trans (rfl))) dX2_passUnit_199 ?_
        refine ic_0 hx hb dX2_passUnit_202 ?_
        refine S_callv (va_runV (As := [.int (G.1 3 3), .int 0]) (rest := []) ⟨hx, hb, hml, hown, hts⟩ (k_emit_2 l D k A a z G_14 (G.1 3 3) 0 ) (cwV 2 hts (gd_V hgd m855 m856 m857 m118 m858) rfl rfl rfl hd_X6_emit ⟨show 0 + 1 ≤ fn + 8 from by omega, show 8 + (3 + 11) + (0) ≤ ln + 169 from by omega⟩) (pre_W hW hB_G_14 hK hZ hS kd_2 rfl) rfl rfl hl.1 rfl (lv_room (Nat.le_of_ble_eq_true rfl)) dX2_passUnit_203 ⟨Nat.le_of_ble_eq_true rfl, Nat.le_of_ble_eq_true rfl⟩) hS (fun G_60 H locs hpo hW hS => ?_)
        have hX_63 : P_emit_2 (G.1 3 3) 0 G_14 G_60 := hpo
        obtain ⟨hB_G_60, hq_61, -⟩ := hpo
        have hF := hF.call9 hq_61 rfl rfl
        refine lv_aload_n hx hb dX2_passUnit_206 rfl (lv_at hl 0 rfl) ?_
        refine S_getR (n := 3) (C := RX2) (T := TX2) (N := 3) hx hb hg iX2 hown hK hW kd_4 rfl 0 (lt_b rfl) (hg (Cond.fieldLink RX2 9 "SlabWalk$Formulas" "tokens" "LSlabWalk$Tokens;") m301) (fun _ h9 => h9) rfl dX2_passUnit_207 ?_
        refine S_calli (va_runV (As := []) (rest := []) ⟨hx, hb, hml, hown, hts⟩ (k_tAdvance l D k A a z G_60  ) (cwV 0 hts (gd_V hgd m854 m639 m640 m120 m641) rfl rfl rfl hd_X9_advance ⟨show 6 + 1 ≤ fn + 8 from by omega, show 8 + (2 + 11) + (127) ≤ ln + 169 from by omega⟩) (pre_W hW hB_G_60 hK hZ hS kd_3 rfl) rfl rfl hl.1 rfl (lv_room (Nat.le_of_ble_eq_true rfl)) dX2_passUnit_210 ⟨Nat.le_of_ble_eq_true rfl, Nat.le_of_ble_eq_true rfl⟩) hS (fun r_64 G_65 H locs hpo hW hS => ?_)
        have hX_68 : P_tAdvance G_60 r_64 G_65 := hpo
        obtain ⟨hB_G_65, hq_66, f_69, -⟩ := hpo
        have hF := hF.call9 hq_66 rfl rfl
        exact W.zret (v := r_64) hx hb hr (nar_z ((by first | (clear ha_p0 hd b_1 c_2 b_9 c_10 ty_11 ty_13 c_58; omega) | omega)) ((by first | (clear ha_p0 hd b_1 c_2 b_9 c_10 ty_11 ty_13 c_58; omega) | omega))) (fun t ht _ => ⟨⟨r_64, G_65, rfl, (P_fUnit_2_s_mk ⟨hB_G_65, hF, ⟨(by first | (clear ha_p0 hd b_1 c_2 b_9 c_10 ty_11 ty_13 c_58; omega) | omega), (by first | (clear ha_p0 hd b_1 c_2 b_9 c_10 ty_11 ty_13 c_58; omega) | omega)⟩, (Or.inr ⟨c_2, (Or.inl ⟨c_10, ⟨y_11, ty_11, ⟨y_13, ty_13, (Or.inr ⟨(xI_ne (Y := 40) rfl rfl c_15), (Or.inr ⟨(xI_ne (Y := 139) rfl rfl c_22), (Or.inr ⟨(xI_ne (Y := 140) rfl rfl c_34), (Or.inr ⟨(xI_ne (Y := 141) rfl rfl c_46), (Or.inl ⟨c_58, ⟨G_14, hB_G_14, (Fr.put (rs := []) (fs := [(2, 12), (4, 2)]) (Fr.put (rs := []) (fs := [(2, 12), (4, 2)]) Fr.rf eG_12 (Or.inr (by decide))) eG_14 (Or.inr (by decide))), (gp_eq eG_14), ((gp_ne eG_14 (by decide)).trans (gp_eq eG_12)), ⟨G_60, hX_63, ⟨r_64, G_65, hX_68, ⟨rfl, rfl⟩⟩⟩⟩⟩)⟩)⟩)⟩)⟩)⟩⟩⟩)⟩)⟩), wd_t ht hW⟩, hS.F ht⟩) hS.2.2 dX2_passUnit_213
      by_cases c_70 : (G.1 3 3) = 143
      · refine lv_lookup (tgt := 191) hx hb dX2_passUnit_60 (by decide) (off := 131) (by rw [c_70]; decide) (by decide) ?_
        have c_70 : (G.1 3 3).toInt = 143 := xI_eq rfl rfl c_70
        refine lv_aload_n hx hb dX2_passUnit_191 rfl (lv_at hl 0 rfl) ?_
        refine S_getV (n := 2) (C := RX2) (T := TX2) (N := 3) hx hb hg iX2 hown hK hW kd_4 rfl 1 (lt_b rfl) (hg (Cond.fieldLink RX2 15 "SlabWalk$Formulas" "paving" "LSlabWalk$Paving;") m302) (fun _ h9 => h9) rfl ((((congrFun (congrFun (congrArg (fun q => q.2.2) eG_14) 4) 1).trans (congrFun (congrFun (congrArg (fun q => q.2.2) eG_12) 4) 1))).trans (hv_4_1)) dX2_passUnit_192 ?_
        refine lv_aload_n hx hb dX2_passUnit_195 rfl (lv_at hl 0 rfl) ?_
        refine S_getR (n := 3) (C := RX2) (T := TX2) (N := 3) hx hb hg iX2 hown hK hW kd_4 rfl 0 (lt_b rfl) (hg (Cond.fieldLink RX2 9 "SlabWalk$Formulas" "tokens" "LSlabWalk$Tokens;") m301) (fun _ h9 => h9) rfl dX2_passUnit_196 ?_
        refine S_getI (v := (G.1 3 3)) (C := RX9) (T := TX9) (N := 9) hx hb hg iX9 hown hK hW kd_3 rfl 3 (lt_b rfl) (hg (Cond.fieldLink RX2 30 "SlabWalk$Tokens" "kind" "I") m263) (fun _ h9 => h9) rfl ((gp_ne eG_14 (by decide)).trans ((gp_ne eG_12 (by decide)).trans (rfl))) dX2_passUnit_199 ?_
        refine ic_0 hx hb dX2_passUnit_202 ?_
        refine S_callv (va_runV (As := [.int (G.1 3 3), .int 0]) (rest := []) ⟨hx, hb, hml, hown, hts⟩ (k_emit_2 l D k A a z G_14 (G.1 3 3) 0 ) (cwV 2 hts (gd_V hgd m855 m856 m857 m118 m858) rfl rfl rfl hd_X6_emit ⟨show 0 + 1 ≤ fn + 8 from by omega, show 8 + (3 + 11) + (0) ≤ ln + 169 from by omega⟩) (pre_W hW hB_G_14 hK hZ hS kd_2 rfl) rfl rfl hl.1 rfl (lv_room (Nat.le_of_ble_eq_true rfl)) dX2_passUnit_203 ⟨Nat.le_of_ble_eq_true rfl, Nat.le_of_ble_eq_true rfl⟩) hS (fun G_72 H locs hpo hW hS => ?_)
        have hX_75 : P_emit_2 (G.1 3 3) 0 G_14 G_72 := hpo
        obtain ⟨hB_G_72, hq_73, -⟩ := hpo
        have hF := hF.call9 hq_73 rfl rfl
        refine lv_aload_n hx hb dX2_passUnit_206 rfl (lv_at hl 0 rfl) ?_
        refine S_getR (n := 3) (C := RX2) (T := TX2) (N := 3) hx hb hg iX2 hown hK hW kd_4 rfl 0 (lt_b rfl) (hg (Cond.fieldLink RX2 9 "SlabWalk$Formulas" "tokens" "LSlabWalk$Tokens;") m301) (fun _ h9 => h9) rfl dX2_passUnit_207 ?_
        refine S_calli (va_runV (As := []) (rest := []) ⟨hx, hb, hml, hown, hts⟩ (k_tAdvance l D k A a z G_72  ) (cwV 0 hts (gd_V hgd m854 m639 m640 m120 m641) rfl rfl rfl hd_X9_advance ⟨show 6 + 1 ≤ fn + 8 from by omega, show 8 + (2 + 11) + (127) ≤ ln + 169 from by omega⟩) (pre_W hW hB_G_72 hK hZ hS kd_3 rfl) rfl rfl hl.1 rfl (lv_room (Nat.le_of_ble_eq_true rfl)) dX2_passUnit_210 ⟨Nat.le_of_ble_eq_true rfl, Nat.le_of_ble_eq_true rfl⟩) hS (fun r_76 G_77 H locs hpo hW hS => ?_)
        have hX_80 : P_tAdvance G_72 r_76 G_77 := hpo
        obtain ⟨hB_G_77, hq_78, f_81, -⟩ := hpo
        have hF := hF.call9 hq_78 rfl rfl
        exact W.zret (v := r_76) hx hb hr (nar_z ((by first | (clear ha_p0 hd b_1 c_2 b_9 c_10 ty_11 ty_13 c_70; omega) | omega)) ((by first | (clear ha_p0 hd b_1 c_2 b_9 c_10 ty_11 ty_13 c_70; omega) | omega))) (fun t ht _ => ⟨⟨r_76, G_77, rfl, (P_fUnit_2_s_mk ⟨hB_G_77, hF, ⟨(by first | (clear ha_p0 hd b_1 c_2 b_9 c_10 ty_11 ty_13 c_70; omega) | omega), (by first | (clear ha_p0 hd b_1 c_2 b_9 c_10 ty_11 ty_13 c_70; omega) | omega)⟩, (Or.inr ⟨c_2, (Or.inl ⟨c_10, ⟨y_11, ty_11, ⟨y_13, ty_13, (Or.inr ⟨(xI_ne (Y := 40) rfl rfl c_15), (Or.inr ⟨(xI_ne (Y := 139) rfl rfl c_22), (Or.inr ⟨(xI_ne (Y := 140) rfl rfl c_34), (Or.inr ⟨(xI_ne (Y := 141) rfl rfl c_46), (Or.inr ⟨(xI_ne (Y := 142) rfl rfl c_58), (Or.inl ⟨c_70, ⟨G_14, hB_G_14, (Fr.put (rs := []) (fs := [(2, 12), (4, 2)]) (Fr.put (rs := []) (fs := [(2, 12), (4, 2)]) Fr.rf eG_12 (Or.inr (by decide))) eG_14 (Or.inr (by decide))), (gp_eq eG_14), ((gp_ne eG_14 (by decide)).trans (gp_eq eG_12)), ⟨G_72, hX_75, ⟨r_76, G_77, hX_80, ⟨rfl, rfl⟩⟩⟩⟩⟩)⟩)⟩)⟩)⟩)⟩)⟩⟩⟩)⟩)⟩), wd_t ht hW⟩, hS.F ht⟩) hS.2.2 dX2_passUnit_213
      by_cases c_82 : (G.1 3 3) = 147
      · refine lv_lookup (tgt := 191) hx hb dX2_passUnit_60 (by decide) (off := 131) (by rw [c_82]; decide) (by decide) ?_
        have c_82 : (G.1 3 3).toInt = 147 := xI_eq rfl rfl c_82
        refine lv_aload_n hx hb dX2_passUnit_191 rfl (lv_at hl 0 rfl) ?_
        refine S_getV (n := 2) (C := RX2) (T := TX2) (N := 3) hx hb hg iX2 hown hK hW kd_4 rfl 1 (lt_b rfl) (hg (Cond.fieldLink RX2 15 "SlabWalk$Formulas" "paving" "LSlabWalk$Paving;") m302) (fun _ h9 => h9) rfl ((((congrFun (congrFun (congrArg (fun q => q.2.2) eG_14) 4) 1).trans (congrFun (congrFun (congrArg (fun q => q.2.2) eG_12) 4) 1))).trans (hv_4_1)) dX2_passUnit_192 ?_
        refine lv_aload_n hx hb dX2_passUnit_195 rfl (lv_at hl 0 rfl) ?_
        refine S_getR (n := 3) (C := RX2) (T := TX2) (N := 3) hx hb hg iX2 hown hK hW kd_4 rfl 0 (lt_b rfl) (hg (Cond.fieldLink RX2 9 "SlabWalk$Formulas" "tokens" "LSlabWalk$Tokens;") m301) (fun _ h9 => h9) rfl dX2_passUnit_196 ?_
        refine S_getI (v := (G.1 3 3)) (C := RX9) (T := TX9) (N := 9) hx hb hg iX9 hown hK hW kd_3 rfl 3 (lt_b rfl) (hg (Cond.fieldLink RX2 30 "SlabWalk$Tokens" "kind" "I") m263) (fun _ h9 => h9) rfl ((gp_ne eG_14 (by decide)).trans ((gp_ne eG_12 (by decide)).trans (rfl))) dX2_passUnit_199 ?_
        refine ic_0 hx hb dX2_passUnit_202 ?_
        refine S_callv (va_runV (As := [.int (G.1 3 3), .int 0]) (rest := []) ⟨hx, hb, hml, hown, hts⟩ (k_emit_2 l D k A a z G_14 (G.1 3 3) 0 ) (cwV 2 hts (gd_V hgd m855 m856 m857 m118 m858) rfl rfl rfl hd_X6_emit ⟨show 0 + 1 ≤ fn + 8 from by omega, show 8 + (3 + 11) + (0) ≤ ln + 169 from by omega⟩) (pre_W hW hB_G_14 hK hZ hS kd_2 rfl) rfl rfl hl.1 rfl (lv_room (Nat.le_of_ble_eq_true rfl)) dX2_passUnit_203 ⟨Nat.le_of_ble_eq_true rfl, Nat.le_of_ble_eq_true rfl⟩) hS (fun G_84 H locs hpo hW hS => ?_)
        have hX_87 : P_emit_2 (G.1 3 3) 0 G_14 G_84 := hpo
        obtain ⟨hB_G_84, hq_85, -⟩ := hpo
        have hF := hF.call9 hq_85 rfl rfl
        refine lv_aload_n hx hb dX2_passUnit_206 rfl (lv_at hl 0 rfl) ?_
        refine S_getR (n := 3) (C := RX2) (T := TX2) (N := 3) hx hb hg iX2 hown hK hW kd_4 rfl 0 (lt_b rfl) (hg (Cond.fieldLink RX2 9 "SlabWalk$Formulas" "tokens" "LSlabWalk$Tokens;") m301) (fun _ h9 => h9) rfl dX2_passUnit_207 ?_
        refine S_calli (va_runV (As := []) (rest := []) ⟨hx, hb, hml, hown, hts⟩ (k_tAdvance l D k A a z G_84  ) (cwV 0 hts (gd_V hgd m854 m639 m640 m120 m641) rfl rfl rfl hd_X9_advance ⟨show 6 + 1 ≤ fn + 8 from by omega, show 8 + (2 + 11) + (127) ≤ ln + 169 from by omega⟩) (pre_W hW hB_G_84 hK hZ hS kd_3 rfl) rfl rfl hl.1 rfl (lv_room (Nat.le_of_ble_eq_true rfl)) dX2_passUnit_210 ⟨Nat.le_of_ble_eq_true rfl, Nat.le_of_ble_eq_true rfl⟩) hS (fun r_88 G_89 H locs hpo hW hS => ?_)
        have hX_92 : P_tAdvance G_84 r_88 G_89 := hpo
        obtain ⟨hB_G_89, hq_90, f_93, -⟩ := hpo
        have hF := hF.call9 hq_90 rfl rfl
        exact W.zret (v := r_88) hx hb hr (nar_z ((by first | (clear ha_p0 hd b_1 c_2 b_9 c_10 ty_11 ty_13 c_82; omega) | omega)) ((by first | (clear ha_p0 hd b_1 c_2 b_9 c_10 ty_11 ty_13 c_82; omega) | omega))) (fun t ht _ => ⟨⟨r_88, G_89, rfl, (P_fUnit_2_s_mk ⟨hB_G_89, hF, ⟨(by first | (clear ha_p0 hd b_1 c_2 b_9 c_10 ty_11 ty_13 c_82; omega) | omega), (by first | (clear ha_p0 hd b_1 c_2 b_9 c_10 ty_11 ty_13 c_82; omega) | omega)⟩, (Or.inr ⟨c_2, (Or.inl ⟨c_10, ⟨y_11, ty_11, ⟨y_13, ty_13, (Or.inr ⟨(xI_ne (Y := 40) rfl rfl c_15), (Or.inr ⟨(xI_ne (Y := 139) rfl rfl c_22), (Or.inr ⟨(xI_ne (Y := 140) rfl rfl c_34), (Or.inr ⟨(xI_ne (Y := 141) rfl rfl c_46), (Or.inr ⟨(xI_ne (Y := 142) rfl rfl c_58), (Or.inr ⟨(xI_ne (Y := 143) rfl rfl c_70), (Or.inl ⟨c_82, ⟨G_14, hB_G_14, (Fr.put (rs := []) (fs := [(2, 12), (4, 2)]) (Fr.put (rs := []) (fs := [(2, 12), (4, 2)]) Fr.rf eG_12 (Or.inr (by decide))) eG_14 (Or.inr (by decide))), (gp_eq eG_14), ((gp_ne eG_14 (by decide)).trans (gp_eq eG_12)), ⟨G_84, hX_87, ⟨r_88, G_89, hX_92, ⟨rfl, rfl⟩⟩⟩⟩⟩)⟩)⟩)⟩)⟩)⟩)⟩)⟩⟩⟩)⟩)⟩), wd_t ht hW⟩, hS.F ht⟩) hS.2.2 dX2_passUnit_213
      by_cases c_94 : (G.1 3 3) = 148
      · refine lv_lookup (tgt := 191) hx hb dX2_passUnit_60 (by decide) (off := 131) (by rw [c_94]; decide) (by decide) ?_
        have c_94 : (G.1 3 3).toInt = 148 := xI_eq rfl rfl c_94
        refine lv_aload_n hx hb dX2_passUnit_191 rfl (lv_at hl 0 rfl) ?_
        refine S_getV (n := 2) (C := RX2) (T := TX2) (N := 3) hx hb hg iX2 hown hK hW kd_4 rfl 1 (lt_b rfl) (hg (Cond.fieldLink RX2 15 "SlabWalk$Formulas" "paving" "LSlabWalk$Paving;") m302) (fun _ h9 => h9) rfl ((((congrFun (congrFun (congrArg (fun q => q.2.2) eG_14) 4) 1).trans (congrFun (congrFun (congrArg (fun q => q.2.2) eG_12) 4) 1))).trans (hv_4_1)) dX2_passUnit_192 ?_
        refine lv_aload_n hx hb dX2_passUnit_195 rfl (lv_at hl 0 rfl) ?_
        refine S_getR (n := 3) (C := RX2) (T := TX2) (N := 3) hx hb hg iX2 hown hK hW kd_4 rfl 0 (lt_b rfl) (hg (Cond.fieldLink RX2 9 "SlabWalk$Formulas" "tokens" "LSlabWalk$Tokens;") m301) (fun _ h9 => h9) rfl dX2_passUnit_196 ?_
        refine S_getI (v := (G.1 3 3)) (C := RX9) (T := TX9) (N := 9) hx hb hg iX9 hown hK hW kd_3 rfl 3 (lt_b rfl) (hg (Cond.fieldLink RX2 30 "SlabWalk$Tokens" "kind" "I") m263) (fun _ h9 => h9) rfl ((gp_ne eG_14 (by decide)).trans ((gp_ne eG_12 (by decide)).trans (rfl))) dX2_passUnit_199 ?_
        refine ic_0 hx hb dX2_passUnit_202 ?_
        refine S_callv (va_runV (As := [.int (G.1 3 3), .int 0]) (rest := []) ⟨hx, hb, hml, hown, hts⟩ (k_emit_2 l D k A a z G_14 (G.1 3 3) 0 ) (cwV 2 hts (gd_V hgd m855 m856 m857 m118 m858) rfl rfl rfl hd_X6_emit ⟨show 0 + 1 ≤ fn + 8 from by omega, show 8 + (3 + 11) + (0) ≤ ln + 169 from by omega⟩) (pre_W hW hB_G_14 hK hZ hS kd_2 rfl) rfl rfl hl.1 rfl (lv_room (Nat.le_of_ble_eq_true rfl)) dX2_passUnit_203 ⟨Nat.le_of_ble_eq_true rfl, Nat.le_of_ble_eq_true rfl⟩) hS (fun G_96 H locs hpo hW hS => ?_)
        have hX_99 : P_emit_2 (G.1 3 3) 0 G_14 G_96 := hpo
        obtain ⟨hB_G_96, hq_97, -⟩ := hpo
        have hF := hF.call9 hq_97 rfl rfl
        refine lv_aload_n hx hb dX2_passUnit_206 rfl (lv_at hl 0 rfl) ?_
        refine S_getR (n := 3) (C := RX2) (T := TX2) (N := 3) hx hb hg iX2 hown hK hW kd_4 rfl 0 (lt_b rfl) (hg (Cond.fieldLink RX2 9 "SlabWalk$Formulas" "tokens" "LSlabWalk$Tokens;") m301) (fun _ h9 => h9) rfl dX2_passUnit_207 ?_
        refine S_calli (va_runV (As := []) (rest := []) ⟨hx, hb, hml, hown, hts⟩ (k_tAdvance l D k A a z G_96  ) (cwV 0 hts (gd_V hgd m854 m639 m640 m120 m641) rfl rfl rfl hd_X9_advance ⟨show 6 + 1 ≤ fn + 8 from by omega, show 8 + (2 + 11) + (127) ≤ ln + 169 from by omega⟩) (pre_W hW hB_G_96 hK hZ hS kd_3 rfl) rfl rfl hl.1 rfl (lv_room (Nat.le_of_ble_eq_true rfl)) dX2_passUnit_210 ⟨Nat.le_of_ble_eq_true rfl, Nat.le_of_ble_eq_true rfl⟩) hS (fun r_100 G_101 H locs hpo hW hS => ?_)
        have hX_104 : P_tAdvance G_96 r_100 G_101 := hpo
        obtain ⟨hB_G_101, hq_102, f_105, -⟩ := hpo
        have hF := hF.call9 hq_102 rfl rfl
        exact W.zret (v := r_100) hx hb hr (nar_z ((by first | (clear ha_p0 hd b_1 c_2 b_9 c_10 ty_11 ty_13 c_94; omega) | omega)) ((by first | (clear ha_p0 hd b_1 c_2 b_9 c_10 ty_11 ty_13 c_94; omega) | omega))) (fun t ht _ => ⟨⟨r_100, G_101, rfl, (P_fUnit_2_s_mk ⟨hB_G_101, hF, ⟨(by first | (clear ha_p0 hd b_1 c_2 b_9 c_10 ty_11 ty_13 c_94; omega) | omega), (by first | (clear ha_p0 hd b_1 c_2 b_9 c_10 ty_11 ty_13 c_94; omega) | omega)⟩, (Or.inr ⟨c_2, (Or.inl ⟨c_10, ⟨y_11, ty_11, ⟨y_13, ty_13, (Or.inr ⟨(xI_ne (Y := 40) rfl rfl c_15), (Or.inr ⟨(xI_ne (Y := 139) rfl rfl c_22), (Or.inr ⟨(xI_ne (Y := 140) rfl rfl c_34), (Or.inr ⟨(xI_ne (Y := 141) rfl rfl c_46), (Or.inr ⟨(xI_ne (Y := 142) rfl rfl c_58), (Or.inr ⟨(xI_ne (Y := 143) rfl rfl c_70), (Or.inr ⟨(xI_ne (Y := 147) rfl rfl c_82), (Or.inl ⟨c_94, ⟨G_14, hB_G_14, (Fr.put (rs := []) (fs := [(2, 12), (4, 2)]) (Fr.put (rs := []) (fs := [(2, 12), (4, 2)]) Fr.rf eG_12 (Or.inr (by decide))) eG_14 (Or.inr (by decide))), (gp_eq eG_14), ((gp_ne eG_14 (by decide)).trans (gp_eq eG_12)), ⟨G_96, hX_99, ⟨r_100, G_101, hX_104, ⟨rfl, rfl⟩⟩⟩⟩⟩)⟩)⟩)⟩)⟩)⟩)⟩)⟩)⟩⟩⟩)⟩)⟩), wd_t ht hW⟩, hS.F ht⟩) hS.2.2 dX2_passUnit_213
      by_cases c_106 : (G.1 3 3) = 149
      · refine lv_lookup (tgt := 191) hx hb dX2_passUnit_60 (by decide) (off := 131) (by rw [c_106]; decide) (by decide) ?_
        have c_106 : (G.1 3 3).toInt = 149 := xI_eq rfl rfl c_106
        refine lv_aload_n hx hb dX2_passUnit_191 rfl (lv_at hl 0 rfl) ?_
        refine S_getV (n := 2) (C := RX2) (T := TX2) (N := 3) hx hb hg iX2 hown hK hW kd_4 rfl 1 (lt_b rfl) (hg (Cond.fieldLink RX2 15 "SlabWalk$Formulas" "paving" "LSlabWalk$Paving;") m302) (fun _ h9 => h9) rfl ((((congrFun (congrFun (congrArg (fun q => q.2.2) eG_14) 4) 1).trans (congrFun (congrFun (congrArg (fun q => q.2.2) eG_12) 4) 1))).trans (hv_4_1)) dX2_passUnit_192 ?_
        refine lv_aload_n hx hb dX2_passUnit_195 rfl (lv_at hl 0 rfl) ?_
        refine S_getR (n := 3) (C := RX2) (T := TX2) (N := 3) hx hb hg iX2 hown hK hW kd_4 rfl 0 (lt_b rfl) (hg (Cond.fieldLink RX2 9 "SlabWalk$Formulas" "tokens" "LSlabWalk$Tokens;") m301) (fun _ h9 => h9) rfl dX2_passUnit_196 ?_
        refine S_getI (v := (G.1 3 3)) (C := RX9) (T := TX9) (N := 9) hx hb hg iX9 hown hK hW kd_3 rfl 3 (lt_b rfl) (hg (Cond.fieldLink RX2 30 "SlabWalk$Tokens" "kind" "I") m263) (fun _ h9 => h9) rfl ((gp_ne eG_14 (by decide)).trans ((gp_ne eG_12 (by decide)).trans (rfl))) dX2_passUnit_199 ?_
        refine ic_0 hx hb dX2_passUnit_202 ?_
        refine S_callv (va_runV (As := [.int (G.1 3 3), .int 0]) (rest := []) ⟨hx, hb, hml, hown, hts⟩ (k_emit_2 l D k A a z G_14 (G.1 3 3) 0 ) (cwV 2 hts (gd_V hgd m855 m856 m857 m118 m858) rfl rfl rfl hd_X6_emit ⟨show 0 + 1 ≤ fn + 8 from by omega, show 8 + (3 + 11) + (0) ≤ ln + 169 from by omega⟩) (pre_W hW hB_G_14 hK hZ hS kd_2 rfl) rfl rfl hl.1 rfl (lv_room (Nat.le_of_ble_eq_true rfl)) dX2_passUnit_203 ⟨Nat.le_of_ble_eq_true rfl, Nat.le_of_ble_eq_true rfl⟩) hS (fun G_108 H locs hpo hW hS => ?_)
        have hX_111 : P_emit_2 (G.1 3 3) 0 G_14 G_108 := hpo
        obtain ⟨hB_G_108, hq_109, -⟩ := hpo
        have hF := hF.call9 hq_109 rfl rfl
        refine lv_aload_n hx hb dX2_passUnit_206 rfl (lv_at hl 0 rfl) ?_
        refine S_getR (n := 3) (C := RX2) (T := TX2) (N := 3) hx hb hg iX2 hown hK hW kd_4 rfl 0 (lt_b rfl) (hg (Cond.fieldLink RX2 9 "SlabWalk$Formulas" "tokens" "LSlabWalk$Tokens;") m301) (fun _ h9 => h9) rfl dX2_passUnit_207 ?_
        refine S_calli (va_runV (As := []) (rest := []) ⟨hx, hb, hml, hown, hts⟩ (k_tAdvance l D k A a z G_108  ) (cwV 0 hts (gd_V hgd m854 m639 m640 m120 m641) rfl rfl rfl hd_X9_advance ⟨show 6 + 1 ≤ fn + 8 from by omega, show 8 + (2 + 11) + (127) ≤ ln + 169 from by omega⟩) (pre_W hW hB_G_108 hK hZ hS kd_3 rfl) rfl rfl hl.1 rfl (lv_room (Nat.le_of_ble_eq_true rfl)) dX2_passUnit_210 ⟨Nat.le_of_ble_eq_true rfl, Nat.le_of_ble_eq_true rfl⟩) hS (fun r_112 G_113 H locs hpo hW hS => ?_)
        have hX_116 : P_tAdvance G_108 r_112 G_113 := hpo
        obtain ⟨hB_G_113, hq_114, f_117, -⟩ := hpo
        have hF := hF.call9 hq_114 rfl rfl
        exact W.zret (v := r_112) hx hb hr (nar_z ((by first | (clear ha_p0 hd b_1 c_2 b_9 c_10 ty_11 ty_13 c_106; omega) | omega)) ((by first | (clear ha_p0 hd b_1 c_2 b_9 c_10 ty_11 ty_13 c_106; omega) | omega))) (fun t ht _ => ⟨⟨r_112, G_113, rfl, (P_fUnit_2_s_mk ⟨hB_G_113, hF, ⟨(by first | (clear ha_p0 hd b_1 c_2 b_9 c_10 ty_11 ty_13 c_106; omega) | omega), (by first | (clear ha_p0 hd b_1 c_2 b_9 c_10 ty_11 ty_13 c_106; omega) | omega)⟩, (Or.inr ⟨c_2, (Or.inl ⟨c_10, ⟨y_11, ty_11, ⟨y_13, ty_13, (Or.inr ⟨(xI_ne (Y := 40) rfl rfl c_15), (Or.inr ⟨(xI_ne (Y := 139) rfl rfl c_22), (Or.inr ⟨(xI_ne (Y := 140) rfl rfl c_34), (Or.inr ⟨(xI_ne (Y := 141) rfl rfl c_46), (Or.inr ⟨(xI_ne (Y := 142) rfl rfl c_58), (Or.inr ⟨(xI_ne (Y := 143) rfl rfl c_70), (Or.inr ⟨(xI_ne (Y := 147) rfl rfl c_82), (Or.inr ⟨(xI_ne (Y := 148) rfl rfl c_94), (Or.inl ⟨c_106, ⟨G_14, hB_G_14, (Fr.put (rs := []) (fs := [(2, 12), (4, 2)]) (Fr.put (rs := []) (fs := [(2, 12), (4, 2)]) Fr.rf eG_12 (Or.inr (by decide))) eG_14 (Or.inr (by decide))), (gp_eq eG_14), ((gp_ne eG_14 (by decide)).trans (gp_eq eG_12)), ⟨G_108, hX_111, ⟨r_112, G_113, hX_116, ⟨rfl, rfl⟩⟩⟩⟩⟩)⟩)⟩)⟩)⟩)⟩)⟩)⟩)⟩)⟩⟩⟩)⟩)⟩), wd_t ht hW⟩, hS.F ht⟩) hS.2.2 dX2_passUnit_213
      by_cases c_118 : (G.1 3 3) = 150
      · refine lv_lookup (tgt := 191) hx hb dX2_passUnit_60 (by decide) (off := 131) (by rw [c_118]; decide) (by decide) ?_
        have c_118 : (G.1 3 3).toInt = 150 := xI_eq rfl rfl c_118
        refine lv_aload_n hx hb dX2_passUnit_191 rfl (lv_at hl 0 rfl) ?_
        refine S_getV (n := 2) (C := RX2) (T := TX2) (N := 3) hx hb hg iX2 hown hK hW kd_4 rfl 1 (lt_b rfl) (hg (Cond.fieldLink RX2 15 "SlabWalk$Formulas" "paving" "LSlabWalk$Paving;") m302) (fun _ h9 => h9) rfl ((((congrFun (congrFun (congrArg (fun q => q.2.2) eG_14) 4) 1).trans (congrFun (congrFun (congrArg (fun q => q.2.2) eG_12) 4) 1))).trans (hv_4_1)) dX2_passUnit_192 ?_
        refine lv_aload_n hx hb dX2_passUnit_195 rfl (lv_at hl 0 rfl) ?_
        refine S_getR (n := 3) (C := RX2) (T := TX2) (N := 3) hx hb hg iX2 hown hK hW kd_4 rfl 0 (lt_b rfl) (hg (Cond.fieldLink RX2 9 "SlabWalk$Formulas" "tokens" "LSlabWalk$Tokens;") m301) (fun _ h9 => h9) rfl dX2_passUnit_196 ?_
        refine S_getI (v := (G.1 3 3)) (C := RX9) (T := TX9) (N := 9) hx hb hg iX9 hown hK hW kd_3 rfl 3 (lt_b rfl) (hg (Cond.fieldLink RX2 30 "SlabWalk$Tokens" "kind" "I") m263) (fun _ h9 => h9) rfl ((gp_ne eG_14 (by decide)).trans ((gp_ne eG_12 (by decide)).trans (rfl))) dX2_passUnit_199 ?_
        refine ic_0 hx hb dX2_passUnit_202 ?_
        refine S_callv (va_runV (As := [.int (G.1 3 3), .int 0]) (rest := []) ⟨hx, hb, hml, hown, hts⟩ (k_emit_2 l D k A a z G_14 (G.1 3 3) 0 ) (cwV 2 hts (gd_V hgd m855 m856 m857 m118 m858) rfl rfl rfl hd_X6_emit ⟨show 0 + 1 ≤ fn + 8 from by omega, show 8 + (3 + 11) + (0) ≤ ln + 169 from by omega⟩) (pre_W hW hB_G_14 hK hZ hS kd_2 rfl) rfl rfl hl.1 rfl (lv_room (Nat.le_of_ble_eq_true rfl)) dX2_passUnit_203 ⟨Nat.le_of_ble_eq_true rfl, Nat.le_of_ble_eq_true rfl⟩) hS (fun G_120 H locs hpo hW hS => ?_)
        have hX_123 : P_emit_2 (G.1 3 3) 0 G_14 G_120 := hpo
        obtain ⟨hB_G_120, hq_121, -⟩ := hpo
        have hF := hF.call9 hq_121 rfl rfl
        refine lv_aload_n hx hb dX2_passUnit_206 rfl (lv_at hl 0 rfl) ?_
        refine S_getR (n := 3) (C := RX2) (T := TX2) (N := 3) hx hb hg iX2 hown hK hW kd_4 rfl 0 (lt_b rfl) (hg (Cond.fieldLink RX2 9 "SlabWalk$Formulas" "tokens" "LSlabWalk$Tokens;") m301) (fun _ h9 => h9) rfl dX2_passUnit_207 ?_
        refine S_calli (va_runV (As := []) (rest := []) ⟨hx, hb, hml, hown, hts⟩ (k_tAdvance l D k A a z G_120  ) (cwV 0 hts (gd_V hgd m854 m639 m640 m120 m641) rfl rfl rfl hd_X9_advance ⟨show 6 + 1 ≤ fn + 8 from by omega, show 8 + (2 + 11) + (127) ≤ ln + 169 from by omega⟩) (pre_W hW hB_G_120 hK hZ hS kd_3 rfl) rfl rfl hl.1 rfl (lv_room (Nat.le_of_ble_eq_true rfl)) dX2_passUnit_210 ⟨Nat.le_of_ble_eq_true rfl, Nat.le_of_ble_eq_true rfl⟩) hS (fun r_124 G_125 H locs hpo hW hS => ?_)
        have hX_128 : P_tAdvance G_120 r_124 G_125 := hpo
        obtain ⟨hB_G_125, hq_126, f_129, -⟩ := hpo
        have hF := hF.call9 hq_126 rfl rfl
        exact W.zret (v := r_124) hx hb hr (nar_z ((by first | (clear ha_p0 hd b_1 c_2 b_9 c_10 ty_11 ty_13 c_118; omega) | omega)) ((by first | (clear ha_p0 hd b_1 c_2 b_9 c_10 ty_11 ty_13 c_118; omega) | omega))) (fun t ht _ => ⟨⟨r_124, G_125, rfl, (P_fUnit_2_s_mk ⟨hB_G_125, hF, ⟨(by first | (clear ha_p0 hd b_1 c_2 b_9 c_10 ty_11 ty_13 c_118; omega) | omega), (by first | (clear ha_p0 hd b_1 c_2 b_9 c_10 ty_11 ty_13 c_118; omega) | omega)⟩, (Or.inr ⟨c_2, (Or.inl ⟨c_10, ⟨y_11, ty_11, ⟨y_13, ty_13, (Or.inr ⟨(xI_ne (Y := 40) rfl rfl c_15), (Or.inr ⟨(xI_ne (Y := 139) rfl rfl c_22), (Or.inr ⟨(xI_ne (Y := 140) rfl rfl c_34), (Or.inr ⟨(xI_ne (Y := 141) rfl rfl c_46), (Or.inr ⟨(xI_ne (Y := 142) rfl rfl c_58), (Or.inr ⟨(xI_ne (Y := 143) rfl rfl c_70), (Or.inr ⟨(xI_ne (Y := 147) rfl rfl c_82), (Or.inr ⟨(xI_ne (Y := 148) rfl rfl c_94), (Or.inr ⟨(xI_ne (Y := 149) rfl rfl c_106), (Or.inl ⟨c_118, ⟨G_14, hB_G_14, (Fr.put (rs := []) (fs := [(2, 12), (4, 2)]) (Fr.put (rs := []) (fs := [(2, 12), (4, 2)]) Fr.rf eG_12 (Or.inr (by decide))) eG_14 (Or.inr (by decide))), (gp_eq eG_14), ((gp_ne eG_14 (by decide)).trans (gp_eq eG_12)), ⟨G_120, hX_123, ⟨r_124, G_125, hX_128, ⟨rfl, rfl⟩⟩⟩⟩⟩)⟩)⟩)⟩)⟩)⟩)⟩)⟩)⟩)⟩)⟩⟩⟩)⟩)⟩), wd_t ht hW⟩, hS.F ht⟩) hS.2.2 dX2_passUnit_213
      by_cases c_130 : (G.1 3 3) = 201
      · refine lv_lookup (tgt := 166) hx hb dX2_passUnit_60 (by decide) (off := 106) (by rw [c_130]; decide) (by decide) ?_
        have c_130 : (G.1 3 3).toInt = 201 := xI_eq rfl rfl c_130
        refine lv_aload_n hx hb dX2_passUnit_166 rfl (lv_at hl 0 rfl) ?_
        refine S_getV (n := 2) (C := RX2) (T := TX2) (N := 3) hx hb hg iX2 hown hK hW kd_4 rfl 1 (lt_b rfl) (hg (Cond.fieldLink RX2 15 "SlabWalk$Formulas" "paving" "LSlabWalk$Paving;") m302) (fun _ h9 => h9) rfl ((((congrFun (congrFun (congrArg (fun q => q.2.2) eG_14) 4) 1).trans (congrFun (congrFun (congrArg (fun q => q.2.2) eG_12) 4) 1))).trans (hv_4_1)) dX2_passUnit_167 ?_
        refine lv_sipush (v := 201) hx hb dX2_passUnit_170 (by decide) ?_
        refine lv_aload_n hx hb dX2_passUnit_173 rfl (lv_at hl 0 rfl) ?_
        refine S_getR (n := 3) (C := RX2) (T := TX2) (N := 3) hx hb hg iX2 hown hK hW kd_4 rfl 0 (lt_b rfl) (hg (Cond.fieldLink RX2 9 "SlabWalk$Formulas" "tokens" "LSlabWalk$Tokens;") m301) (fun _ h9 => h9) rfl dX2_passUnit_174 ?_
        refine S_getI (v := (G.1 3 5)) (C := RX9) (T := TX9) (N := 9) hx hb hg iX9 hown hK hW kd_3 rfl 5 (lt_b rfl) (hg (Cond.fieldLink RX2 70 "SlabWalk$Tokens" "number" "I") m267) (fun _ h9 => h9) rfl ((gp_ne eG_14 (by decide)).trans (gp_ne eG_12 (by decide))) dX2_passUnit_177 ?_
        refine S_callv (va_runV (As := [.int 201, .int (G.1 3 5)]) (rest := []) ⟨hx, hb, hml, hown, hts⟩ (k_emit_2 l D k A a z G_14 201 (G.1 3 5) ) (cwV 2 hts (gd_V hgd m855 m856 m857 m118 m858) rfl rfl rfl hd_X6_emit ⟨show 0 + 1 ≤ fn + 8 from by omega, show 8 + (3 + 11) + (0) ≤ ln + 169 from by omega⟩) (pre_W hW hB_G_14 hK hZ hS kd_2 rfl) rfl rfl hl.1 rfl (lv_room (Nat.le_of_ble_eq_true rfl)) dX2_passUnit_180 ⟨Nat.le_of_ble_eq_true rfl, Nat.le_of_ble_eq_true rfl⟩) hS (fun G_132 H locs hpo hW hS => ?_)
        have hX_135 : P_emit_2 201 (G.1 3 5) G_14 G_132 := hpo
        obtain ⟨hB_G_132, hq_133, -⟩ := hpo
        have hF := hF.call9 hq_133 rfl rfl
        refine lv_aload_n hx hb dX2_passUnit_183 rfl (lv_at hl 0 rfl) ?_
        refine S_getR (n := 3) (C := RX2) (T := TX2) (N := 3) hx hb hg iX2 hown hK hW kd_4 rfl 0 (lt_b rfl) (hg (Cond.fieldLink RX2 9 "SlabWalk$Formulas" "tokens" "LSlabWalk$Tokens;") m301) (fun _ h9 => h9) rfl dX2_passUnit_184 ?_
        refine S_calli (va_runV (As := []) (rest := []) ⟨hx, hb, hml, hown, hts⟩ (k_tAdvance l D k A a z G_132  ) (cwV 0 hts (gd_V hgd m854 m639 m640 m120 m641) rfl rfl rfl hd_X9_advance ⟨show 6 + 1 ≤ fn + 8 from by omega, show 8 + (2 + 11) + (127) ≤ ln + 169 from by omega⟩) (pre_W hW hB_G_132 hK hZ hS kd_3 rfl) rfl rfl hl.1 rfl (lv_room (Nat.le_of_ble_eq_true rfl)) dX2_passUnit_187 ⟨Nat.le_of_ble_eq_true rfl, Nat.le_of_ble_eq_true rfl⟩) hS (fun r_136 G_137 H locs hpo hW hS => ?_)
        have hX_140 : P_tAdvance G_132 r_136 G_137 := hpo
        obtain ⟨hB_G_137, hq_138, f_141, -⟩ := hpo
        have hF := hF.call9 hq_138 rfl rfl
        exact W.zret (v := r_136) hx hb hr (nar_z ((by first | (clear ha_p0 hd b_1 c_2 b_9 c_10 ty_11 ty_13 c_130; omega) | omega)) ((by first | (clear ha_p0 hd b_1 c_2 b_9 c_10 ty_11 ty_13 c_130; omega) | omega))) (fun t ht _ => ⟨⟨r_136, G_137, rfl, (P_fUnit_2_s_mk ⟨hB_G_137, hF, ⟨(by first | (clear ha_p0 hd b_1 c_2 b_9 c_10 ty_11 ty_13 c_130; omega) | omega), (by first | (clear ha_p0 hd b_1 c_2 b_9 c_10 ty_11 ty_13 c_130; omega) | omega)⟩, (Or.inr ⟨c_2, (Or.inl ⟨c_10, ⟨y_11, ty_11, ⟨y_13, ty_13, (Or.inr ⟨(xI_ne (Y := 40) rfl rfl c_15), (Or.inr ⟨(xI_ne (Y := 139) rfl rfl c_22), (Or.inr ⟨(xI_ne (Y := 140) rfl rfl c_34), (Or.inr ⟨(xI_ne (Y := 141) rfl rfl c_46), (Or.inr ⟨(xI_ne (Y := 142) rfl rfl c_58), (Or.inr ⟨(xI_ne (Y := 143) rfl rfl c_70), (Or.inr ⟨(xI_ne (Y := 147) rfl rfl c_82), (Or.inr ⟨(xI_ne (Y := 148) rfl rfl c_94), (Or.inr ⟨(xI_ne (Y := 149) rfl rfl c_106), (Or.inr ⟨(xI_ne (Y := 150) rfl rfl c_118), (Or.inl ⟨c_130, ⟨G_14, hB_G_14, (Fr.put (rs := []) (fs := [(2, 12), (4, 2)]) (Fr.put (rs := []) (fs := [(2, 12), (4, 2)]) Fr.rf eG_12 (Or.inr (by decide))) eG_14 (Or.inr (by decide))), (gp_eq eG_14), ((gp_ne eG_14 (by decide)).trans (gp_eq eG_12)), ⟨G_132, hX_135, ⟨r_136, G_137, hX_140, ⟨rfl, rfl⟩⟩⟩⟩⟩)⟩)⟩)⟩)⟩)⟩)⟩)⟩)⟩)⟩)⟩)⟩⟩⟩)⟩)⟩), wd_t ht hW⟩, hS.F ht⟩) hS.2.2 dX2_passUnit_190
      refine lv_lookup (tgt := 214) hx hb dX2_passUnit_60 (by decide) (off := 154) (by show Op.lookupswitch.offset [(40, 100), (139, 131), (140, 131), (141, 131), (142, 131), (143, 131), (147, 131), (148, 131), (149, 131), (150, 131), (201, 106)] _ _ = _; have c_15 := xI_ne (Y := 40) rfl rfl c_15; have c_22 := xI_ne (Y := 139) rfl rfl c_22; have c_34 := xI_ne (Y := 140) rfl rfl c_34; have c_46 := xI_ne (Y := 141) rfl rfl c_46; have c_58 := xI_ne (Y := 142) rfl rfl c_58; have c_70 := xI_ne (Y := 143) rfl rfl c_70; have c_82 := xI_ne (Y := 147) rfl rfl c_82; have c_94 := xI_ne (Y := 148) rfl rfl c_94; have c_106 := xI_ne (Y := 149) rfl rfl c_106; have c_118 := xI_ne (Y := 150) rfl rfl c_118; have c_130 := xI_ne (Y := 201) rfl rfl c_130; rw [Op.lookupswitch.offset_cons, if_neg (by omega), Op.lookupswitch.offset_cons, if_neg (by omega), Op.lookupswitch.offset_cons, if_neg (by omega), Op.lookupswitch.offset_cons, if_neg (by omega), Op.lookupswitch.offset_cons, if_neg (by omega), Op.lookupswitch.offset_cons, if_neg (by omega), Op.lookupswitch.offset_cons, if_neg (by omega), Op.lookupswitch.offset_cons, if_neg (by omega), Op.lookupswitch.offset_cons, if_neg (by omega), Op.lookupswitch.offset_cons, if_neg (by omega), Op.lookupswitch.offset_cons, if_neg (by omega), Op.lookupswitch.offset_nil]) (by decide) ?_
      have c_15 := xI_ne (Y := 40) rfl rfl c_15
      have c_22 := xI_ne (Y := 139) rfl rfl c_22
      have c_34 := xI_ne (Y := 140) rfl rfl c_34
      have c_46 := xI_ne (Y := 141) rfl rfl c_46
      have c_58 := xI_ne (Y := 142) rfl rfl c_58
      have c_70 := xI_ne (Y := 143) rfl rfl c_70
      have c_82 := xI_ne (Y := 147) rfl rfl c_82
      have c_94 := xI_ne (Y := 148) rfl rfl c_94
      have c_106 := xI_ne (Y := 149) rfl rfl c_106
      have c_118 := xI_ne (Y := 150) rfl rfl c_118
      have c_130 := xI_ne (Y := 201) rfl rfl c_130
      refine lv_aload_n hx hb dX2_passUnit_214 rfl (lv_at hl 0 rfl) ?_
      refine S_getR (n := 3) (C := RX2) (T := TX2) (N := 3) hx hb hg iX2 hown hK hW kd_4 rfl 0 (lt_b rfl) (hg (Cond.fieldLink RX2 9 "SlabWalk$Formulas" "tokens" "LSlabWalk$Tokens;") m301) (fun _ h9 => h9) rfl dX2_passUnit_215 ?_
      refine ic_2 hx hb dX2_passUnit_218 ?_
      refine S_calli (va_runV (As := [.int 2]) (rest := []) ⟨hx, hb, hml, hown, hts⟩ (k_tRefuse l D k A a z G_14 2 ⟨by decide, by decide⟩) (cwV 1 hts (gd_V hgd m849 m779 m780 m120 m781) rfl rfl rfl hd_X9_refuse ⟨show 0 + 1 ≤ fn + 8 from by omega, show 8 + (2 + 11) + (0) ≤ ln + 169 from by omega⟩) (pre_W hW hB_G_14 hK hZ hS kd_3 rfl) rfl rfl hl.1 rfl (lv_room (Nat.le_of_ble_eq_true rfl)) dX2_passUnit_219 ⟨Nat.le_of_ble_eq_true rfl, Nat.le_of_ble_eq_true rfl⟩) hS (fun r_142 G_143 H locs hpo hW hS => ?_)
      have hX_146 : P_tRefuse 2 G_14 r_142 G_143 := hpo
      obtain ⟨hB_G_143, hq_144, f_147, -⟩ := hpo
      have hF := hF.call9 hq_144 rfl rfl
      exact W.zret (v := r_142) hx hb hr (nar_z ((by first | (clear ha_p0 hd b_1 c_2 b_9 c_10 ty_11 ty_13; omega) | omega)) ((by first | (clear ha_p0 hd b_1 c_2 b_9 c_10 ty_11 ty_13; omega) | omega))) (fun t ht _ => ⟨⟨r_142, G_143, rfl, (P_fUnit_2_s_mk ⟨hB_G_143, hF, ⟨(by first | (clear ha_p0 hd b_1 c_2 b_9 c_10 ty_11 ty_13; omega) | omega), (by first | (clear ha_p0 hd b_1 c_2 b_9 c_10 ty_11 ty_13; omega) | omega)⟩, (Or.inr ⟨c_2, (Or.inl ⟨c_10, ⟨y_11, ty_11, ⟨y_13, ty_13, (Or.inr ⟨c_15, (Or.inr ⟨c_22, (Or.inr ⟨c_34, (Or.inr ⟨c_46, (Or.inr ⟨c_58, (Or.inr ⟨c_70, (Or.inr ⟨c_82, (Or.inr ⟨c_94, (Or.inr ⟨c_106, (Or.inr ⟨c_118, (Or.inr ⟨c_130, ⟨G_14, hB_G_14, (Fr.put (rs := []) (fs := [(2, 12), (4, 2)]) (Fr.put (rs := []) (fs := [(2, 12), (4, 2)]) Fr.rf eG_12 (Or.inr (by decide))) eG_14 (Or.inr (by decide))), (gp_eq eG_14), ((gp_ne eG_14 (by decide)).trans (gp_eq eG_12)), ⟨r_142, G_143, hX_146, ⟨rfl, rfl⟩⟩⟩⟩)⟩)⟩)⟩)⟩)⟩)⟩)⟩)⟩)⟩)⟩)⟩⟩⟩)⟩)⟩), wd_t ht hW⟩, hS.F ht⟩) hS.2.2 dX2_passUnit_222
    · have c_10 : 90 ≤ (G.1 2 12).toInt := xI_nlt rfl rfl c_10
      refine lv_aload_n hx hb dX2_passUnit_21 rfl (lv_at hl 0 rfl) ?_
      refine S_getR (n := 3) (C := RX2) (T := TX2) (N := 3) hx hb hg iX2 hown hK hW kd_4 rfl 0 (lt_b rfl) (hg (Cond.fieldLink RX2 9 "SlabWalk$Formulas" "tokens" "LSlabWalk$Tokens;") m301) (fun _ h9 => h9) rfl dX2_passUnit_22 ?_
      refine ic_2 hx hb dX2_passUnit_25 ?_
      refine S_calli (va_runV (As := [.int 2]) (rest := []) ⟨hx, hb, hml, hown, hts⟩ (k_tRefuse l D k A a z G 2 ⟨by decide, by decide⟩) (cwV 1 hts (gd_V hgd m849 m779 m780 m120 m781) rfl rfl rfl hd_X9_refuse ⟨show 0 + 1 ≤ fn + 8 from by omega, show 8 + (2 + 11) + (0) ≤ ln + 169 from by omega⟩) (pre_W hW hB_G hK hZ hS kd_3 rfl) rfl rfl hl.1 rfl (lv_room (Nat.le_of_ble_eq_true rfl)) dX2_passUnit_26 ⟨Nat.le_of_ble_eq_true rfl, Nat.le_of_ble_eq_true rfl⟩) hS (fun r_148 G_149 H locs hpo hW hS => ?_)
      have hX_152 : P_tRefuse 2 G r_148 G_149 := hpo
      obtain ⟨hB_G_149, hq_150, f_153, -⟩ := hpo
      have hF := hF.call9 hq_150 rfl rfl
      exact W.zret (v := r_148) hx hb hr (nar_z ((by first | (clear ha_p0 hd b_1 c_2 b_9 c_10; omega) | omega)) ((by first | (clear ha_p0 hd b_1 c_2 b_9 c_10; omega) | omega))) (fun t ht _ => ⟨⟨r_148, G_149, rfl, (P_fUnit_2_s_mk ⟨hB_G_149, hF, ⟨(by first | (clear ha_p0 hd b_1 c_2 b_9 c_10; omega) | omega), (by first | (clear ha_p0 hd b_1 c_2 b_9 c_10; omega) | omega)⟩, (Or.inr ⟨c_2, (Or.inr ⟨c_10, ⟨r_148, G_149, hX_152, ⟨rfl, rfl⟩⟩⟩)⟩)⟩), wd_t ht hW⟩, hS.F ht⟩) hS.2.2 dX2_passUnit_29

set_option maxHeartbeats 4000000 in
set_option maxRecDepth 100000 in
theorem k_fTerm_2_s (l : Launch) (D : va_G) (k : KT) (A : Nat → Prop) (a : Nat → Nat) (z : SK) (fn ln n : Nat) (E O : XR) (hEb : ∀ (p0 : Int32) (G : GS) (r : Int32) (G1 : GS), E p0 G r G1 → Bd G1 ∧ Fr [27] [(2, 12), (2, 13), (3, 2), (3, 3), (3, 4), (3, 5), (3, 6), (3, 7), (3, 8), (4, 2)] G G1 ∧ (0 ≤ r.toInt ∧ r.toInt ≤ 1)) (hOb : ∀ (p0 : Int32) (G : GS) (r : Int32) (G1 : GS), O p0 G r G1 → Bd G1 ∧ Fr [27] [(2, 12), (2, 13), (3, 2), (3, 3), (3, 4), (3, 5), (3, 6), (3, 7), (3, 8), (4, 2)] G G1 ∧ (0 ≤ r.toInt ∧ r.toInt ≤ 1)) (hE : ∀ (G : GS) (p0 : Int32) (ha_p0 : 0 ≤ p0.toInt ∧ p0.toInt ≤ 7) (hv_4_1 : G.2.2 4 1 = 2) (hd : 8 ≤ p0.toInt + (n : Int)), Met l yX2_passEither (WS yX2_passEither cX2_passEither 3 (some .boolean)) ({ frames := fn + 2, cells := 0, slots := 0, locals := ln + 43 }) (va_Pc [.ref (a 4), .int p0] (cW D k A a z G)) (va_Qi (fun (r : Int32) (G1 : GS) => E p0 G r G1) (fun (G1 : GS) t => Wd D k A a G1 t.heap) A) 0 0 A) (hO : ∀ (G : GS) (p0 : Int32) (ha_p0 : 0 ≤ p0.toInt ∧ p0.toInt ≤ 7) (hv_4_1 : G.2.2 4 1 = 2) (hd : 8 ≤ p0.toInt + (n : Int)), Met l yX2_passOne (WS yX2_passOne cX2_passOne 2 (some .boolean)) ({ frames := fn + 0, cells := 0, slots := 0, locals := ln + 0 }) (va_Pc [.ref (a 4), .int p0] (cW D k A a z G)) (va_Qi (fun (r : Int32) (G1 : GS) => O p0 G r G1) (fun (G1 : GS) t => Wd D k A a G1 t.heap) A) 0 0 A) (G : GS) (p0 : Int32) (ha_p0 : 0 ≤ p0.toInt ∧ p0.toInt ≤ 7) (hv_4_1 : G.2.2 4 1 = 2) (hd : 8 ≤ p0.toInt + (n : Int) + 1) : Met l yX2_passTerm (WS yX2_passTerm cX2_passTerm 4 (some .boolean)) ({ frames := fn + 9, cells := 0, slots := 0, locals := ln + 190 }) (va_Pc [.ref (a 4), .int p0] (cW D k A a z G)) (va_Qi (fun (r : Int32) (G1 : GS) => P_fTerm_2_s E O p0 G r G1) (fun (G1 : GS) t => Wd D k A a G1 t.heap) A) 0 0 A := by
  refine Met.ofW (cc := cX2_passTerm) (maxL := 4) (ret := (some .boolean)) (by decide) rfl ?_
  intro p e s m args below meth c s₁ B hml hv
  obtain ⟨rfl, hW, hB_G, hK, hZ⟩ := hv
  have hx := B.exec
  have hb := B.bytes
  have hr := B.returns
  have hts := atoms_spec (ws := WS yX2_passTerm cX2_passTerm 4 (some .boolean)) B.pre
  have hgd : ∀ w ∈ gd, w ∈ WS yX2_passTerm cX2_passTerm 4 (some .boolean) := fun w h => List.mem_cons_of_mem _ h
  have hg : ∀ w ∈ gd, w.before _ s = true := fun w h => hts w (hgd w h)
  have hown : s.vm.findClass RX2 = some m.cls := findClass_of_methodNamed B.named
  have hS : va_S A s.heap s.heap [] := va_S.rf
  have hF : Fr [27] [(2, 12), (2, 13), (3, 2), (3, 3), (3, 4), (3, 5), (3, 6), (3, 7), (3, 8), (4, 2)] G G := Fr.rf
  have hl := lv_entry ([.ref (a 4), .int p0]) (n := 4) (Nat.le_of_ble_eq_true rfl)
  rw [lg_entry_eq]
  generalize (lg_sl ([.ref (a 4), .int p0]) ++ List.replicate (4 - (lg_sl ([.ref (a 4), .int p0])).length) Slot.unset).toArray = ls at hl ⊢
  have hl : lv_has ls 4 [(0, .ref (a 4)), (1, .int p0)] := hl
  refine lv_aload_n hx hb dX2_passTerm_0 rfl (lv_at hl 0 rfl) ?_
  refine lv_iload_n hx hb dX2_passTerm_1 rfl (lv_at hl 1 rfl) ?_
  refine S_calli (va_runV (As := [.int p0]) (rest := []) ⟨hx, hb, hml, hown, hts⟩ (k_fUnit_2_s l D k A a z fn ln n E O hEb hOb hE hO G p0 ⟨by omega, by omega⟩ hv_4_1 (by omega)) (cwV 1 hts (gd_V hgd m845 m847 m22 m121 m848) rfl rfl rfl hd_X2_passUnit ⟨show fn + 8 + 1 ≤ fn + 9 from by omega, show 8 + (2 + 11) + (ln + 169) ≤ ln + 190 from by omega⟩) (pre_W hW hB_G hK hZ hS kd_4 rfl) rfl rfl hl.1 rfl (lv_room (Nat.le_of_ble_eq_true rfl)) dX2_passTerm_2 ⟨Nat.le_of_ble_eq_true rfl, Nat.le_of_ble_eq_true rfl⟩) hS (fun r_1 G_2 H locs hpo hW hS => ?_)
  have hX_5 : P_fUnit_2_s E O p0 G r_1 G_2 := hpo
  obtain ⟨hB_G_2, hq_3, f_6, -⟩ := hpo
  have hF := hF.call9 hq_3 rfl rfl
  refine lv_if_ne (tgt := 10) hx hb dX2_passTerm_5 rfl (fun c_7 => ?_) (fun c_7 => ?_)
  · have c_7 : r_1.toInt ≠ 0 := xI_ne rfl rfl c_7
    refine ic_0 hx hb dX2_passTerm_10 ?_
    refine lv_istore_n (lv' := [(2, .int 0), (0, .ref (a 4)), (1, .int p0)]) hx hb dX2_passTerm_11 rfl hl (lt_b rfl) rfl (fun ls hl => ?_)
    have qc_14 : (0 : Int32).toInt = 0 := rfl
    refine loop_N (Inv := fun n H locs ls => ∃ (G_8 : GS) (x_12 : Int32), (n : Int) = 1600 - x_12.toInt ∧ (0 ≤ x_12.toInt ∧ x_12.toInt ≤ 1600) ∧ Rc (St_k_fTerm_2_s_1 E O p0) (0, G_2) (x_12, G_8) ∧ Wd D k A a G_8 H ∧ Bd G_8 ∧ Fr [27] [(2, 12), (2, 13), (3, 2), (3, 3), (3, 4), (3, 5), (3, 6), (3, 7), (3, 8), (4, 2)] G G_8 ∧ Fr [27] [(2, 12), (2, 13), (3, 2), (3, 3), (3, 4), (3, 5), (3, 6), (3, 7), (3, 8), (4, 2)] G_2 G_8 ∧ va_S A s.heap H locs ∧ lv_has ls 4 [(2, .int x_12), (0, .ref (a 4)), (1, .int p0)]) (fun n_11 H locs ls ih_10 hI => ?_) (1600 - 0 : Int).toNat ⟨G_2, 0, (Int.toNat_of_nonneg ((by first | (clear ha_p0 hd f_6 c_7; omega) | omega))), ⟨(by first | (clear ha_p0 hd f_6 c_7; omega) | omega), (by first | (clear ha_p0 hd f_6 c_7; omega) | omega)⟩, Rc.rf, hW, hB_G_2, hF, Fr.rf, hS, lv_sub hl [0, 1, 2] rfl⟩
    obtain ⟨G_8, x_12, hn_16, f_15, hX_13, hW, hB_G_8, hF, hq_9, hS, hl⟩ := hI
    refine lv_iload_n hx hb dX2_passTerm_12 rfl (lv_at hl 0 rfl) ?_
    refine lv_sipush (v := 1600) hx hb dX2_passTerm_13 (by decide) ?_
    refine lv_icmp_ge (tgt := 73) hx hb dX2_passTerm_16 rfl (fun c_17 => ?_) (fun c_17 => ?_)
    · have c_17 : 1600 ≤ x_12.toInt := xI_le rfl rfl c_17
      refine ic_1 hx hb dX2_passTerm_73 ?_
      exact W.zret (v := 1) hx hb hr (by decide) (fun t ht _ => ⟨⟨1, G_8, rfl, (P_fTerm_2_s_mk ⟨hB_G_8, hF, ⟨by decide, by decide⟩, ⟨r_1, G_2, hX_5, (Or.inr ⟨c_7, ⟨x_12, G_8, hX_13, f_15, hB_G_8, hq_9, (Or.inl ⟨c_17, ⟨rfl, rfl⟩⟩)⟩⟩)⟩⟩), wd_t ht hW⟩, hS.F ht⟩) hS.2.2 dX2_passTerm_74
    · have c_17 : x_12.toInt < 1600 := xI_nle rfl rfl c_17
      refine lv_aload_n hx hb dX2_passTerm_19 rfl (lv_at hl 1 rfl) ?_
      refine S_getR (n := 3) (C := RX2) (T := TX2) (N := 3) hx hb hg iX2 hown hK hW kd_4 rfl 0 (lt_b rfl) (hg (Cond.fieldLink RX2 9 "SlabWalk$Formulas" "tokens" "LSlabWalk$Tokens;") m301) (fun _ h9 => h9) rfl dX2_passTerm_20 ?_
      refine S_getI (v := (G_8.1 3 3)) (C := RX9) (T := TX9) (N := 9) hx hb hg iX9 hown hK hW kd_3 rfl 3 (lt_b rfl) (hg (Cond.fieldLink RX2 30 "SlabWalk$Tokens" "kind" "I") m263) (fun _ h9 => h9) rfl rfl dX2_passTerm_23 ?_
      refine S_calli (va_runS (As := [.int (G_8.1 3 3)]) (rest := []) ⟨hx, hb, hml, hown, hts⟩ (k_fTimes l D k A a z G_8 (G_8.1 3 3) ) (va_cwS 1 hts (gd_S hgd m859 m860 m121 m861) rfl rfl rfl hd_X2_isTimes.2 ⟨show 0 + 1 ≤ fn + 9 from by omega, show 8 + (1 + 11) + (0) ≤ ln + 190 from by omega⟩) (pre_S hW hB_G_8 hK hZ hS) rfl rfl hl.1 rfl (lv_room (Nat.le_of_ble_eq_true rfl)) dX2_passTerm_26 ⟨Nat.le_of_ble_eq_true rfl, Nat.le_of_ble_eq_true rfl⟩) hS (fun r_18 G_19 H locs hpo hW hS => ?_)
      have hX_22 : P_fTimes (G_8.1 3 3) G_8 r_18 G_19 := hpo
      obtain ⟨hB_G_19, hq_20, f_23, -⟩ := hpo
      have hF := hF.call9 hq_20 rfl rfl
      refine lv_if_eq (tgt := 73) hx hb dX2_passTerm_29 rfl (fun c_24 => ?_) (fun c_24 => ?_)
      · have c_24 : r_18.toInt = 0 := xI_eq rfl rfl c_24
        refine ic_1 hx hb dX2_passTerm_73 ?_
        exact W.zret (v := 1) hx hb hr (by decide) (fun t ht _ => ⟨⟨1, G_19, rfl, (P_fTerm_2_s_mk ⟨hB_G_19, hF, ⟨by decide, by decide⟩, ⟨r_1, G_2, hX_5, (Or.inr ⟨c_7, ⟨x_12, G_8, hX_13, f_15, hB_G_8, hq_9, (Or.inr ⟨c_17, ⟨r_18, G_19, hX_22, (Or.inl ⟨c_24, ⟨rfl, rfl⟩⟩)⟩⟩)⟩⟩)⟩⟩), wd_t ht hW⟩, hS.F ht⟩) hS.2.2 dX2_passTerm_74
      · have c_24 : r_18.toInt ≠ 0 := xI_ne rfl rfl c_24
        refine lv_aload_n hx hb dX2_passTerm_32 rfl (lv_at hl 1 rfl) ?_
        refine S_getR (n := 3) (C := RX2) (T := TX2) (N := 3) hx hb hg iX2 hown hK hW kd_4 rfl 0 (lt_b rfl) (hg (Cond.fieldLink RX2 9 "SlabWalk$Formulas" "tokens" "LSlabWalk$Tokens;") m301) (fun _ h9 => h9) rfl dX2_passTerm_33 ?_
        refine S_getI (v := (G_8.1 3 3)) (C := RX9) (T := TX9) (N := 9) hx hb hg iX9 hown hK hW kd_3 rfl 3 (lt_b rfl) (hg (Cond.fieldLink RX2 30 "SlabWalk$Tokens" "kind" "I") m263) (fun _ h9 => h9) rfl ((hq_20.i9 3 3 rfl rfl).trans (rfl)) dX2_passTerm_36 ?_
        refine lv_istore_n (lv' := [(3, .int (G_8.1 3 3)), (2, .int x_12), (0, .ref (a 4)), (1, .int p0)]) hx hb dX2_passTerm_39 rfl hl (lt_b rfl) rfl (fun ls hl => ?_)
        refine lv_aload_n hx hb dX2_passTerm_40 rfl (lv_at hl 2 rfl) ?_
        refine S_getR (n := 3) (C := RX2) (T := TX2) (N := 3) hx hb hg iX2 hown hK hW kd_4 rfl 0 (lt_b rfl) (hg (Cond.fieldLink RX2 9 "SlabWalk$Formulas" "tokens" "LSlabWalk$Tokens;") m301) (fun _ h9 => h9) rfl dX2_passTerm_41 ?_
        refine S_calli (va_runV (As := []) (rest := []) ⟨hx, hb, hml, hown, hts⟩ (k_tAdvance l D k A a z G_19  ) (cwV 0 hts (gd_V hgd m854 m639 m640 m120 m641) rfl rfl rfl hd_X9_advance ⟨show 6 + 1 ≤ fn + 9 from by omega, show 8 + (2 + 11) + (127) ≤ ln + 190 from by omega⟩) (pre_W hW hB_G_19 hK hZ hS kd_3 rfl) rfl rfl hl.1 rfl (lv_room (Nat.le_of_ble_eq_true rfl)) dX2_passTerm_44 ⟨Nat.le_of_ble_eq_true rfl, Nat.le_of_ble_eq_true rfl⟩) hS (fun r_25 G_26 H locs hpo hW hS => ?_)
        have hX_29 : P_tAdvance G_19 r_25 G_26 := hpo
        obtain ⟨hB_G_26, hq_27, f_30, -⟩ := hpo
        have hF := hF.call9 hq_27 rfl rfl
        refine lv_pop hx hb dX2_passTerm_47 rfl ?_
        refine lv_aload_n hx hb dX2_passTerm_48 rfl (lv_at hl 2 rfl) ?_
        refine lv_iload_n hx hb dX2_passTerm_49 rfl (lv_at hl 3 rfl) ?_
        refine S_calli (va_runV (As := [.int p0]) (rest := []) ⟨hx, hb, hml, hown, hts⟩ (k_fUnit_2_s l D k A a z fn ln n E O hEb hOb hE hO G_26 p0 ⟨(by first | (clear f_6 c_7 hn_16 f_15 c_17 f_23 c_24 f_30; omega) | omega), (by first | (clear f_6 c_7 hn_16 f_15 c_17 f_23 c_24 f_30; omega) | omega)⟩ ((((hq_27.r9 4 1 rfl rfl).trans ((hq_20.r9 4 1 rfl rfl).trans ((hq_9.r9 4 1 rfl rfl).trans (hq_3.r9 4 1 rfl rfl))))).trans (hv_4_1)) ((by first | (clear f_6 c_7 hn_16 f_15 c_17 f_23 c_24 f_30; omega) | omega))) (cwV 1 hts (gd_V hgd m845 m847 m22 m121 m848) rfl rfl rfl hd_X2_passUnit ⟨show fn + 8 + 1 ≤ fn + 9 from by omega, show 8 + (2 + 11) + (ln + 169) ≤ ln + 190 from by omega⟩) (pre_W hW hB_G_26 hK hZ hS kd_4 rfl) rfl rfl hl.1 rfl (lv_room (Nat.le_of_ble_eq_true rfl)) dX2_passTerm_50 ⟨Nat.le_of_ble_eq_true rfl, Nat.le_of_ble_eq_true rfl⟩) hS (fun r_31 G_32 H locs hpo hW hS => ?_)
        have hX_35 : P_fUnit_2_s E O p0 G_26 r_31 G_32 := hpo
        obtain ⟨hB_G_32, hq_33, f_36, -⟩ := hpo
        have hF := hF.call9 hq_33 rfl rfl
        refine lv_if_ne (tgt := 58) hx hb dX2_passTerm_53 rfl (fun c_37 => ?_) (fun c_37 => ?_)
        · have c_37 : r_31.toInt ≠ 0 := xI_ne rfl rfl c_37
          refine lv_aload_n hx hb dX2_passTerm_58 rfl (lv_at hl 2 rfl) ?_
          refine S_getV (n := 2) (C := RX2) (T := TX2) (N := 3) hx hb hg iX2 hown hK hW kd_4 rfl 1 (lt_b rfl) (hg (Cond.fieldLink RX2 15 "SlabWalk$Formulas" "paving" "LSlabWalk$Paving;") m302) (fun _ h9 => h9) rfl ((((hq_33.r9 4 1 rfl rfl).trans ((hq_27.r9 4 1 rfl rfl).trans ((hq_20.r9 4 1 rfl rfl).trans ((hq_9.r9 4 1 rfl rfl).trans (hq_3.r9 4 1 rfl rfl)))))).trans (hv_4_1)) dX2_passTerm_59 ?_
          refine lv_iload_n hx hb dX2_passTerm_62 rfl (lv_at hl 0 rfl) ?_
          refine ic_0 hx hb dX2_passTerm_63 ?_
          refine S_callv (va_runV (As := [.int (G_8.1 3 3), .int 0]) (rest := []) ⟨hx, hb, hml, hown, hts⟩ (k_emit_2 l D k A a z G_32 (G_8.1 3 3) 0 ) (cwV 2 hts (gd_V hgd m855 m856 m857 m118 m858) rfl rfl rfl hd_X6_emit ⟨show 0 + 1 ≤ fn + 9 from by omega, show 8 + (3 + 11) + (0) ≤ ln + 190 from by omega⟩) (pre_W hW hB_G_32 hK hZ hS kd_2 rfl) rfl rfl hl.1 rfl (lv_room (Nat.le_of_ble_eq_true rfl)) dX2_passTerm_64 ⟨Nat.le_of_ble_eq_true rfl, Nat.le_of_ble_eq_true rfl⟩) hS (fun G_39 H locs hpo hW hS => ?_)
          have hX_42 : P_emit_2 (G_8.1 3 3) 0 G_32 G_39 := hpo
          obtain ⟨hB_G_39, hq_40, -⟩ := hpo
          have hF := hF.call9 hq_40 rfl rfl
          obtain ⟨y_43, ey_43⟩ : ∃ q, q = x_12 + 1 := ⟨_, rfl⟩
          have ty_43 : y_43.toInt = x_12.toInt + 1 := xI_add rfl rfl ey_43 ((by first | (clear ha_p0 hd f_6 c_7 hn_16 f_23 c_24 f_30 f_36 c_37; omega) | omega)) ((by first | (clear ha_p0 hd f_6 c_7 hn_16 f_23 c_24 f_30 f_36 c_37; omega) | omega))
          refine lv_iinc (v := y_43) (lv' := [(2, .int y_43), (3, .int (G_8.1 3 3)), (0, .ref (a 4)), (1, .int p0)]) hx hb dX2_passTerm_67 hl (k := 1) rfl (by rw [ey_43]; rfl) (lt_b rfl) rfl (fun ls hl => ?_)
          refine lv_goto (tgt := 12) hx hb dX2_passTerm_70 rfl ?_
          exact ih_10 (1600 - y_43.toInt : Int).toNat ((by first | (clear ha_p0 hd f_6 c_7 f_23 c_24 f_30 f_36 c_37; omega) | omega)) _ _ _ ⟨G_39, y_43, (Int.toNat_of_nonneg ((by first | (clear ha_p0 hd f_6 c_7 hn_16 f_23 c_24 f_30 f_36 c_37; omega) | omega))), ⟨(by first | (clear ha_p0 hd f_6 c_7 hn_16 f_23 c_24 f_30 f_36 c_37; omega) | omega), (by first | (clear ha_p0 hd f_6 c_7 hn_16 f_23 c_24 f_30 f_36 c_37; omega) | omega)⟩, (hX_13.st (St_k_fTerm_2_s_1_mk ⟨x_12, G_8, y_43, G_39, rfl, rfl, f_15, hB_G_8, ⟨c_17, ⟨r_18, G_19, hX_22, ⟨c_24, ⟨r_25, G_26, hX_29, ⟨r_31, G_32, hX_35, ⟨c_37, ⟨G_39, hX_42, ⟨y_43, ty_43, ⟨rfl, rfl⟩⟩⟩⟩⟩⟩⟩⟩⟩⟩)), hW, hB_G_39, hF, (Fr.call9 (rs := [27]) (fs := [(2, 12), (2, 13), (3, 2), (3, 3), (3, 4), (3, 5), (3, 6), (3, 7), (3, 8), (4, 2)]) (Fr.call9 (rs := [27]) (fs := [(2, 12), (2, 13), (3, 2), (3, 3), (3, 4), (3, 5), (3, 6), (3, 7), (3, 8), (4, 2)]) (Fr.call9 (rs := [27]) (fs := [(2, 12), (2, 13), (3, 2), (3, 3), (3, 4), (3, 5), (3, 6), (3, 7), (3, 8), (4, 2)]) (Fr.call9 (rs := [27]) (fs := [(2, 12), (2, 13), (3, 2), (3, 3), (3, 4), (3, 5), (3, 6), (3, 7), (3, 8), (4, 2)]) (Fr.call9 (rs := [27]) (fs := [(2, 12), (2, 13), (3, 2), (3, 3), (3, 4), (3, 5), (3, 6), (3, 7), (3, 8), (4, 2)]) Fr.rf hq_9 rfl rfl) hq_20 rfl rfl) hq_27 rfl rfl) hq_33 rfl rfl) hq_40 rfl rfl), hS, lv_sub hl [0, 2, 3] rfl⟩
        · have c_37 : r_31.toInt = 0 := xI_eq rfl rfl c_37
          refine ic_0 hx hb dX2_passTerm_56 ?_
          exact W.zret (v := 0) hx hb hr (by decide) (fun t ht _ => ⟨⟨0, G_32, rfl, (P_fTerm_2_s_mk ⟨hB_G_32, hF, ⟨by decide, by decide⟩, ⟨r_1, G_2, hX_5, (Or.inr ⟨c_7, ⟨x_12, G_8, hX_13, f_15, hB_G_8, hq_9, (Or.inr ⟨c_17, ⟨r_18, G_19, hX_22, (Or.inr ⟨c_24, ⟨r_25, G_26, hX_29, ⟨r_31, G_32, hX_35, ⟨c_37, ⟨rfl, rfl⟩⟩⟩⟩⟩)⟩⟩)⟩⟩)⟩⟩), wd_t ht hW⟩, hS.F ht⟩) hS.2.2 dX2_passTerm_57
  · have c_7 : r_1.toInt = 0 := xI_eq rfl rfl c_7
    refine ic_0 hx hb dX2_passTerm_8 ?_
    exact W.zret (v := 0) hx hb hr (by decide) (fun t ht _ => ⟨⟨0, G_2, rfl, (P_fTerm_2_s_mk ⟨hB_G_2, hF, ⟨by decide, by decide⟩, ⟨r_1, G_2, hX_5, (Or.inl ⟨c_7, ⟨rfl, rfl⟩⟩)⟩⟩), wd_t ht hW⟩, hS.F ht⟩) hS.2.2 dX2_passTerm_9

set_option maxHeartbeats 4000000 in
set_option maxRecDepth 100000 in
theorem k_fSum_2_s (l : Launch) (D : va_G) (k : KT) (A : Nat → Prop) (a : Nat → Nat) (z : SK) (fn ln n : Nat) (E O : XR) (hEb : ∀ (p0 : Int32) (G : GS) (r : Int32) (G1 : GS), E p0 G r G1 → Bd G1 ∧ Fr [27] [(2, 12), (2, 13), (3, 2), (3, 3), (3, 4), (3, 5), (3, 6), (3, 7), (3, 8), (4, 2)] G G1 ∧ (0 ≤ r.toInt ∧ r.toInt ≤ 1)) (hOb : ∀ (p0 : Int32) (G : GS) (r : Int32) (G1 : GS), O p0 G r G1 → Bd G1 ∧ Fr [27] [(2, 12), (2, 13), (3, 2), (3, 3), (3, 4), (3, 5), (3, 6), (3, 7), (3, 8), (4, 2)] G G1 ∧ (0 ≤ r.toInt ∧ r.toInt ≤ 1)) (hE : ∀ (G : GS) (p0 : Int32) (ha_p0 : 0 ≤ p0.toInt ∧ p0.toInt ≤ 7) (hv_4_1 : G.2.2 4 1 = 2) (hd : 8 ≤ p0.toInt + (n : Int)), Met l yX2_passEither (WS yX2_passEither cX2_passEither 3 (some .boolean)) ({ frames := fn + 2, cells := 0, slots := 0, locals := ln + 43 }) (va_Pc [.ref (a 4), .int p0] (cW D k A a z G)) (va_Qi (fun (r : Int32) (G1 : GS) => E p0 G r G1) (fun (G1 : GS) t => Wd D k A a G1 t.heap) A) 0 0 A) (hO : ∀ (G : GS) (p0 : Int32) (ha_p0 : 0 ≤ p0.toInt ∧ p0.toInt ≤ 7) (hv_4_1 : G.2.2 4 1 = 2) (hd : 8 ≤ p0.toInt + (n : Int)), Met l yX2_passOne (WS yX2_passOne cX2_passOne 2 (some .boolean)) ({ frames := fn + 0, cells := 0, slots := 0, locals := ln + 0 }) (va_Pc [.ref (a 4), .int p0] (cW D k A a z G)) (va_Qi (fun (r : Int32) (G1 : GS) => O p0 G r G1) (fun (G1 : GS) t => Wd D k A a G1 t.heap) A) 0 0 A) (G : GS) (p0 : Int32) (ha_p0 : 0 ≤ p0.toInt ∧ p0.toInt ≤ 7) (hv_4_1 : G.2.2 4 1 = 2) (hd : 8 ≤ p0.toInt + (n : Int) + 1) : Met l yX2_passSum (WS yX2_passSum cX2_passSum 4 (some .boolean)) ({ frames := fn + 10, cells := 0, slots := 0, locals := ln + 213 }) (va_Pc [.ref (a 4), .int p0] (cW D k A a z G)) (va_Qi (fun (r : Int32) (G1 : GS) => P_fSum_2_s E O p0 G r G1) (fun (G1 : GS) t => Wd D k A a G1 t.heap) A) 0 0 A := by
  refine Met.ofW (cc := cX2_passSum) (maxL := 4) (ret := (some .boolean)) (by decide) rfl ?_
  intro p e s m args below meth c s₁ B hml hv
  obtain ⟨rfl, hW, hB_G, hK, hZ⟩ := hv
  have hx := B.exec
  have hb := B.bytes
  have hr := B.returns
  have hts := atoms_spec (ws := WS yX2_passSum cX2_passSum 4 (some .boolean)) B.pre
  have hgd : ∀ w ∈ gd, w ∈ WS yX2_passSum cX2_passSum 4 (some .boolean) := fun w h => List.mem_cons_of_mem _ h
  have hg : ∀ w ∈ gd, w.before _ s = true := fun w h => hts w (hgd w h)
  have hown : s.vm.findClass RX2 = some m.cls := findClass_of_methodNamed B.named
  have hS : va_S A s.heap s.heap [] := va_S.rf
  have hF : Fr [27] [(2, 12), (2, 13), (3, 2), (3, 3), (3, 4), (3, 5), (3, 6), (3, 7), (3, 8), (4, 2)] G G := Fr.rf
  have hl := lv_entry ([.ref (a 4), .int p0]) (n := 4) (Nat.le_of_ble_eq_true rfl)
  rw [lg_entry_eq]
  generalize (lg_sl ([.ref (a 4), .int p0]) ++ List.replicate (4 - (lg_sl ([.ref (a 4), .int p0])).length) Slot.unset).toArray = ls at hl ⊢
  have hl : lv_has ls 4 [(0, .ref (a 4)), (1, .int p0)] := hl
  refine lv_aload_n hx hb dX2_passSum_0 rfl (lv_at hl 0 rfl) ?_
  refine lv_iload_n hx hb dX2_passSum_1 rfl (lv_at hl 1 rfl) ?_
  refine S_calli (va_runV (As := [.int p0]) (rest := []) ⟨hx, hb, hml, hown, hts⟩ (k_fTerm_2_s l D k A a z fn ln n E O hEb hOb hE hO G p0 ⟨by omega, by omega⟩ hv_4_1 (by omega)) (cwV 1 hts (gd_V hgd m841 m843 m21 m121 m844) rfl rfl rfl hd_X2_passTerm ⟨show fn + 9 + 1 ≤ fn + 10 from by omega, show 8 + (4 + 11) + (ln + 190) ≤ ln + 213 from by omega⟩) (pre_W hW hB_G hK hZ hS kd_4 rfl) rfl rfl hl.1 rfl (lv_room (Nat.le_of_ble_eq_true rfl)) dX2_passSum_2 ⟨Nat.le_of_ble_eq_true rfl, Nat.le_of_ble_eq_true rfl⟩) hS (fun r_1 G_2 H locs hpo hW hS => ?_)
  have hX_5 : P_fTerm_2_s E O p0 G r_1 G_2 := hpo
  obtain ⟨hB_G_2, hq_3, f_6, -⟩ := hpo
  have hF := hF.call9 hq_3 rfl rfl
  refine lv_if_ne (tgt := 10) hx hb dX2_passSum_5 rfl (fun c_7 => ?_) (fun c_7 => ?_)
  · have c_7 : r_1.toInt ≠ 0 := xI_ne rfl rfl c_7
    refine ic_0 hx hb dX2_passSum_10 ?_
    refine lv_istore_n (lv' := [(2, .int 0), (0, .ref (a 4)), (1, .int p0)]) hx hb dX2_passSum_11 rfl hl (lt_b rfl) rfl (fun ls hl => ?_)
    have qc_14 : (0 : Int32).toInt = 0 := rfl
    refine loop_N (Inv := fun n H locs ls => ∃ (G_8 : GS) (x_12 : Int32), (n : Int) = 1600 - x_12.toInt ∧ (0 ≤ x_12.toInt ∧ x_12.toInt ≤ 1600) ∧ Rc (St_k_fSum_2_s_1 E O p0) (0, G_2) (x_12, G_8) ∧ Wd D k A a G_8 H ∧ Bd G_8 ∧ Fr [27] [(2, 12), (2, 13), (3, 2), (3, 3), (3, 4), (3, 5), (3, 6), (3, 7), (3, 8), (4, 2)] G G_8 ∧ Fr [27] [(2, 12), (2, 13), (3, 2), (3, 3), (3, 4), (3, 5), (3, 6), (3, 7), (3, 8), (4, 2)] G_2 G_8 ∧ va_S A s.heap H locs ∧ lv_has ls 4 [(2, .int x_12), (0, .ref (a 4)), (1, .int p0)]) (fun n_11 H locs ls ih_10 hI => ?_) (1600 - 0 : Int).toNat ⟨G_2, 0, (Int.toNat_of_nonneg ((by first | (clear ha_p0 hd f_6 c_7; omega) | omega))), ⟨(by first | (clear ha_p0 hd f_6 c_7; omega) | omega), (by first | (clear ha_p0 hd f_6 c_7; omega) | omega)⟩, Rc.rf, hW, hB_G_2, hF, Fr.rf, hS, lv_sub hl [0, 1, 2] rfl⟩
    obtain ⟨G_8, x_12, hn_16, f_15, hX_13, hW, hB_G_8, hF, hq_9, hS, hl⟩ := hI
    refine lv_iload_n hx hb dX2_passSum_12 rfl (lv_at hl 0 rfl) ?_
    refine lv_sipush (v := 1600) hx hb dX2_passSum_13 (by decide) ?_
    refine lv_icmp_ge (tgt := 84) hx hb dX2_passSum_16 rfl (fun c_17 => ?_) (fun c_17 => ?_)
    · have c_17 : 1600 ≤ x_12.toInt := xI_le rfl rfl c_17
      refine ic_1 hx hb dX2_passSum_84 ?_
      exact W.zret (v := 1) hx hb hr (by decide) (fun t ht _ => ⟨⟨1, G_8, rfl, (P_fSum_2_s_mk ⟨hB_G_8, hF, ⟨by decide, by decide⟩, ⟨r_1, G_2, hX_5, (Or.inr ⟨c_7, ⟨x_12, G_8, hX_13, f_15, hB_G_8, hq_9, (Or.inl ⟨c_17, ⟨rfl, rfl⟩⟩)⟩⟩)⟩⟩), wd_t ht hW⟩, hS.F ht⟩) hS.2.2 dX2_passSum_85
    · have c_17 : x_12.toInt < 1600 := xI_nle rfl rfl c_17
      refine lv_aload_n hx hb dX2_passSum_19 rfl (lv_at hl 1 rfl) ?_
      refine S_getR (n := 3) (C := RX2) (T := TX2) (N := 3) hx hb hg iX2 hown hK hW kd_4 rfl 0 (lt_b rfl) (hg (Cond.fieldLink RX2 9 "SlabWalk$Formulas" "tokens" "LSlabWalk$Tokens;") m301) (fun _ h9 => h9) rfl dX2_passSum_20 ?_
      refine S_getI (v := (G_8.1 3 3)) (C := RX9) (T := TX9) (N := 9) hx hb hg iX9 hown hK hW kd_3 rfl 3 (lt_b rfl) (hg (Cond.fieldLink RX2 30 "SlabWalk$Tokens" "kind" "I") m263) (fun _ h9 => h9) rfl rfl dX2_passSum_23 ?_
      refine lv_bipush (v := 43) hx hb dX2_passSum_26 (by decide) ?_
      refine W.cut (σ := Unit) (pcJ := 43) (J := fun y H locs ls => ∃ (G_21 : GS), Jn_k_fSum_2_s_2 E O G_8 G_21 ∧ Wd D k A a G_21 H ∧ Bd G_21 ∧ Fr [27] [(2, 12), (2, 13), (3, 2), (3, 3), (3, 4), (3, 5), (3, 6), (3, 7), (3, 8), (4, 2)] G G_21 ∧ Fr [] [] G_8 G_21 ∧ va_S A s.heap H locs ∧ lv_has ls 4 [(2, .int x_12), (0, .ref (a 4)), (1, .int p0)]) (stJ := fun _ => []) ?_ (fun hJ_22 => ?_)
      · intro y H locs ls hI
        obtain ⟨G_21, hX_24, hW, hB_G_21, hF, hq_23, hS, hl⟩ := hI
        refine lv_aload_n hx hb dX2_passSum_43 rfl (lv_at hl 1 rfl) ?_
        refine S_getR (n := 3) (C := RX2) (T := TX2) (N := 3) hx hb hg iX2 hown hK hW kd_4 rfl 0 (lt_b rfl) (hg (Cond.fieldLink RX2 9 "SlabWalk$Formulas" "tokens" "LSlabWalk$Tokens;") m301) (fun _ h9 => h9) rfl dX2_passSum_44 ?_
        refine S_getI (v := (G_8.1 3 3)) (C := RX9) (T := TX9) (N := 9) hx hb hg iX9 hown hK hW kd_3 rfl 3 (lt_b rfl) (hg (Cond.fieldLink RX2 30 "SlabWalk$Tokens" "kind" "I") m263) (fun _ h9 => h9) rfl ((hq_23.i9 3 3 rfl rfl).trans (rfl)) dX2_passSum_47 ?_
        refine lv_istore_n (lv' := [(3, .int (G_8.1 3 3)), (2, .int x_12), (0, .ref (a 4)), (1, .int p0)]) hx hb dX2_passSum_50 rfl hl (lt_b rfl) rfl (fun ls hl => ?_)
        refine lv_aload_n hx hb dX2_passSum_51 rfl (lv_at hl 2 rfl) ?_
        refine S_getR (n := 3) (C := RX2) (T := TX2) (N := 3) hx hb hg iX2 hown hK hW kd_4 rfl 0 (lt_b rfl) (hg (Cond.fieldLink RX2 9 "SlabWalk$Formulas" "tokens" "LSlabWalk$Tokens;") m301) (fun _ h9 => h9) rfl dX2_passSum_52 ?_
        refine S_calli (va_runV (As := []) (rest := []) ⟨hx, hb, hml, hown, hts⟩ (k_tAdvance l D k A a z G_21  ) (cwV 0 hts (gd_V hgd m854 m639 m640 m120 m641) rfl rfl rfl hd_X9_advance ⟨show 6 + 1 ≤ fn + 10 from by omega, show 8 + (2 + 11) + (127) ≤ ln + 213 from by omega⟩) (pre_W hW hB_G_21 hK hZ hS kd_3 rfl) rfl rfl hl.1 rfl (lv_room (Nat.le_of_ble_eq_true rfl)) dX2_passSum_55 ⟨Nat.le_of_ble_eq_true rfl, Nat.le_of_ble_eq_true rfl⟩) hS (fun r_25 G_26 H locs hpo hW hS => ?_)
        have hX_29 : P_tAdvance G_21 r_25 G_26 := hpo
        obtain ⟨hB_G_26, hq_27, f_30, -⟩ := hpo
        have hF := hF.call9 hq_27 rfl rfl
        refine lv_pop hx hb dX2_passSum_58 rfl ?_
        refine lv_aload_n hx hb dX2_passSum_59 rfl (lv_at hl 2 rfl) ?_
        refine lv_iload_n hx hb dX2_passSum_60 rfl (lv_at hl 3 rfl) ?_
        refine S_calli (va_runV (As := [.int p0]) (rest := []) ⟨hx, hb, hml, hown, hts⟩ (k_fTerm_2_s l D k A a z fn ln n E O hEb hOb hE hO G_26 p0 ⟨(by first | (clear f_6 c_7 hn_16 f_15 c_17 f_30; omega) | omega), (by first | (clear f_6 c_7 hn_16 f_15 c_17 f_30; omega) | omega)⟩ ((((hq_27.r9 4 1 rfl rfl).trans ((hq_23.r9 4 1 rfl rfl).trans ((hq_9.r9 4 1 rfl rfl).trans (hq_3.r9 4 1 rfl rfl))))).trans (hv_4_1)) ((by first | (clear f_6 c_7 hn_16 f_15 c_17 f_30; omega) | omega))) (cwV 1 hts (gd_V hgd m841 m843 m21 m121 m844) rfl rfl rfl hd_X2_passTerm ⟨show fn + 9 + 1 ≤ fn + 10 from by omega, show 8 + (4 + 11) + (ln + 190) ≤ ln + 213 from by omega⟩) (pre_W hW hB_G_26 hK hZ hS kd_4 rfl) rfl rfl hl.1 rfl (lv_room (Nat.le_of_ble_eq_true rfl)) dX2_passSum_61 ⟨Nat.le_of_ble_eq_true rfl, Nat.le_of_ble_eq_true rfl⟩) hS (fun r_31 G_32 H locs hpo hW hS => ?_)
        have hX_35 : P_fTerm_2_s E O p0 G_26 r_31 G_32 := hpo
        obtain ⟨hB_G_32, hq_33, f_36, -⟩ := hpo
        have hF := hF.call9 hq_33 rfl rfl
        refine lv_if_ne (tgt := 69) hx hb dX2_passSum_64 rfl (fun c_37 => ?_) (fun c_37 => ?_)
        · have c_37 : r_31.toInt ≠ 0 := xI_ne rfl rfl c_37
          refine lv_aload_n hx hb dX2_passSum_69 rfl (lv_at hl 2 rfl) ?_
          refine S_getV (n := 2) (C := RX2) (T := TX2) (N := 3) hx hb hg iX2 hown hK hW kd_4 rfl 1 (lt_b rfl) (hg (Cond.fieldLink RX2 15 "SlabWalk$Formulas" "paving" "LSlabWalk$Paving;") m302) (fun _ h9 => h9) rfl ((((hq_33.r9 4 1 rfl rfl).trans ((hq_27.r9 4 1 rfl rfl).trans ((hq_23.r9 4 1 rfl rfl).trans ((hq_9.r9 4 1 rfl rfl).trans (hq_3.r9 4 1 rfl rfl)))))).trans (hv_4_1)) dX2_passSum_70 ?_
          refine lv_iload_n hx hb dX2_passSum_73 rfl (lv_at hl 0 rfl) ?_
          refine ic_0 hx hb dX2_passSum_74 ?_
          refine S_callv (va_runV (As := [.int (G_8.1 3 3), .int 0]) (rest := []) ⟨hx, hb, hml, hown, hts⟩ (k_emit_2 l D k A a z G_32 (G_8.1 3 3) 0 ) (cwV 2 hts (gd_V hgd m855 m856 m857 m118 m858) rfl rfl rfl hd_X6_emit ⟨show 0 + 1 ≤ fn + 10 from by omega, show 8 + (3 + 11) + (0) ≤ ln + 213 from by omega⟩) (pre_W hW hB_G_32 hK hZ hS kd_2 rfl) rfl rfl hl.1 rfl (lv_room (Nat.le_of_ble_eq_true rfl)) dX2_passSum_75 ⟨Nat.le_of_ble_eq_true rfl, Nat.le_of_ble_eq_true rfl⟩) hS (fun G_39 H locs hpo hW hS => ?_)
          have hX_42 : P_emit_2 (G_8.1 3 3) 0 G_32 G_39 := hpo
          obtain ⟨hB_G_39, hq_40, -⟩ := hpo
          have hF := hF.call9 hq_40 rfl rfl
          obtain ⟨y_43, ey_43⟩ : ∃ q, q = x_12 + 1 := ⟨_, rfl⟩
          have ty_43 : y_43.toInt = x_12.toInt + 1 := xI_add rfl rfl ey_43 ((by first | (clear ha_p0 hd f_6 c_7 hn_16 f_30 f_36 c_37; omega) | omega)) ((by first | (clear ha_p0 hd f_6 c_7 hn_16 f_30 f_36 c_37; omega) | omega))
          refine lv_iinc (v := y_43) (lv' := [(2, .int y_43), (3, .int (G_8.1 3 3)), (0, .ref (a 4)), (1, .int p0)]) hx hb dX2_passSum_78 hl (k := 1) rfl (by rw [ey_43]; rfl) (lt_b rfl) rfl (fun ls hl => ?_)
          refine lv_goto (tgt := 12) hx hb dX2_passSum_81 rfl ?_
          exact ih_10 (1600 - y_43.toInt : Int).toNat ((by first | (clear ha_p0 hd f_6 c_7 f_30 f_36 c_37; omega) | omega)) _ _ _ ⟨G_39, y_43, (Int.toNat_of_nonneg ((by first | (clear ha_p0 hd f_6 c_7 hn_16 f_30 f_36 c_37; omega) | omega))), ⟨(by first | (clear ha_p0 hd f_6 c_7 hn_16 f_30 f_36 c_37; omega) | omega), (by first | (clear ha_p0 hd f_6 c_7 hn_16 f_30 f_36 c_37; omega) | omega)⟩, (hX_13.st (St_k_fSum_2_s_1_mk ⟨x_12, G_8, y_43, G_39, rfl, rfl, f_15, hB_G_8, ⟨c_17, ⟨G_21, hX_24, hB_G_21, hq_23, ⟨r_25, G_26, hX_29, ⟨r_31, G_32, hX_35, ⟨c_37, ⟨G_39, hX_42, ⟨y_43, ty_43, ⟨rfl, rfl⟩⟩⟩⟩⟩⟩⟩⟩⟩)), hW, hB_G_39, hF, (Fr.call9 (rs := [27]) (fs := [(2, 12), (2, 13), (3, 2), (3, 3), (3, 4), (3, 5), (3, 6), (3, 7), (3, 8), (4, 2)]) (Fr.call9 (rs := [27]) (fs := [(2, 12), (2, 13), (3, 2), (3, 3), (3, 4), (3, 5), (3, 6), (3, 7), (3, 8), (4, 2)]) (Fr.call9 (rs := [27]) (fs := [(2, 12), (2, 13), (3, 2), (3, 3), (3, 4), (3, 5), (3, 6), (3, 7), (3, 8), (4, 2)]) (Fr.call9 (rs := [27]) (fs := [(2, 12), (2, 13), (3, 2), (3, 3), (3, 4), (3, 5), (3, 6), (3, 7), (3, 8), (4, 2)]) (Fr.call9 (rs := [27]) (fs := [(2, 12), (2, 13), (3, 2), (3, 3), (3, 4), (3, 5), (3, 6), (3, 7), (3, 8), (4, 2)]) Fr.rf hq_9 rfl rfl) hq_23 rfl rfl) hq_27 rfl rfl) hq_33 rfl rfl) hq_40 rfl rfl), hS, lv_sub hl [0, 2, 3] rfl⟩
        · have c_37 : r_31.toInt = 0 := xI_eq rfl rfl c_37
          refine ic_0 hx hb dX2_passSum_67 ?_
          exact W.zret (v := 0) hx hb hr (by decide) (fun t ht _ => ⟨⟨0, G_32, rfl, (P_fSum_2_s_mk ⟨hB_G_32, hF, ⟨by decide, by decide⟩, ⟨r_1, G_2, hX_5, (Or.inr ⟨c_7, ⟨x_12, G_8, hX_13, f_15, hB_G_8, hq_9, (Or.inr ⟨c_17, (Or.inr ⟨G_21, hX_24, hB_G_21, hq_23, ⟨r_25, G_26, hX_29, ⟨r_31, G_32, hX_35, ⟨c_37, ⟨rfl, rfl⟩⟩⟩⟩⟩)⟩)⟩⟩)⟩⟩), wd_t ht hW⟩, hS.F ht⟩) hS.2.2 dX2_passSum_68
      refine lv_icmp_eq (tgt := 43) hx hb dX2_passSum_28 rfl (fun c_44 => ?_) (fun c_44 => ?_)
      · have c_44 : (G_8.1 3 3).toInt = 43 := xI_eq rfl rfl c_44
        exact hJ_22 () _ _ _ ⟨G_8, (Jn_k_fSum_2_s_2_mk (Or.inl ⟨c_44, rfl⟩)), hW, hB_G_8, hF, (Fr.rf (rs := []) (fs := [])), hS, lv_sub hl [0, 1, 2] rfl⟩
      · have c_44 : (G_8.1 3 3).toInt ≠ 43 := xI_ne rfl rfl c_44
        refine lv_aload_n hx hb dX2_passSum_31 rfl (lv_at hl 1 rfl) ?_
        refine S_getR (n := 3) (C := RX2) (T := TX2) (N := 3) hx hb hg iX2 hown hK hW kd_4 rfl 0 (lt_b rfl) (hg (Cond.fieldLink RX2 9 "SlabWalk$Formulas" "tokens" "LSlabWalk$Tokens;") m301) (fun _ h9 => h9) rfl dX2_passSum_32 ?_
        refine S_getI (v := (G_8.1 3 3)) (C := RX9) (T := TX9) (N := 9) hx hb hg iX9 hown hK hW kd_3 rfl 3 (lt_b rfl) (hg (Cond.fieldLink RX2 30 "SlabWalk$Tokens" "kind" "I") m263) (fun _ h9 => h9) rfl rfl dX2_passSum_35 ?_
        refine lv_bipush (v := 45) hx hb dX2_passSum_38 (by decide) ?_
        refine lv_icmp_ne (tgt := 84) hx hb dX2_passSum_40 rfl (fun c_45 => ?_) (fun c_45 => ?_)
        · have c_45 : (G_8.1 3 3).toInt ≠ 45 := xI_ne rfl rfl c_45
          refine ic_1 hx hb dX2_passSum_84 ?_
          exact W.zret (v := 1) hx hb hr (by decide) (fun t ht _ => ⟨⟨1, G_8, rfl, (P_fSum_2_s_mk ⟨hB_G_8, hF, ⟨by decide, by decide⟩, ⟨r_1, G_2, hX_5, (Or.inr ⟨c_7, ⟨x_12, G_8, hX_13, f_15, hB_G_8, hq_9, (Or.inr ⟨c_17, (Or.inl ⟨c_44, ⟨c_45, ⟨rfl, rfl⟩⟩⟩)⟩)⟩⟩)⟩⟩), wd_t ht hW⟩, hS.F ht⟩) hS.2.2 dX2_passSum_85
        · have c_45 : (G_8.1 3 3).toInt = 45 := xI_eq rfl rfl c_45
          exact hJ_22 () _ _ _ ⟨G_8, (Jn_k_fSum_2_s_2_mk (Or.inr ⟨c_44, ⟨c_45, rfl⟩⟩)), hW, hB_G_8, hF, (Fr.rf (rs := []) (fs := [])), hS, lv_sub hl [0, 1, 2] rfl⟩
  · have c_7 : r_1.toInt = 0 := xI_eq rfl rfl c_7
    refine ic_0 hx hb dX2_passSum_8 ?_
    exact W.zret (v := 0) hx hb hr (by decide) (fun t ht _ => ⟨⟨0, G_2, rfl, (P_fSum_2_s_mk ⟨hB_G_2, hF, ⟨by decide, by decide⟩, ⟨r_1, G_2, hX_5, (Or.inl ⟨c_7, ⟨rfl, rfl⟩⟩)⟩⟩), wd_t ht hW⟩, hS.F ht⟩) hS.2.2 dX2_passSum_9

set_option maxHeartbeats 4000000 in
set_option maxRecDepth 100000 in
theorem k_fRelation_2_s (l : Launch) (D : va_G) (k : KT) (A : Nat → Prop) (a : Nat → Nat) (z : SK) (fn ln n : Nat) (E O : XR) (hEb : ∀ (p0 : Int32) (G : GS) (r : Int32) (G1 : GS), E p0 G r G1 → Bd G1 ∧ Fr [27] [(2, 12), (2, 13), (3, 2), (3, 3), (3, 4), (3, 5), (3, 6), (3, 7), (3, 8), (4, 2)] G G1 ∧ (0 ≤ r.toInt ∧ r.toInt ≤ 1)) (hOb : ∀ (p0 : Int32) (G : GS) (r : Int32) (G1 : GS), O p0 G r G1 → Bd G1 ∧ Fr [27] [(2, 12), (2, 13), (3, 2), (3, 3), (3, 4), (3, 5), (3, 6), (3, 7), (3, 8), (4, 2)] G G1 ∧ (0 ≤ r.toInt ∧ r.toInt ≤ 1)) (hE : ∀ (G : GS) (p0 : Int32) (ha_p0 : 0 ≤ p0.toInt ∧ p0.toInt ≤ 7) (hv_4_1 : G.2.2 4 1 = 2) (hd : 8 ≤ p0.toInt + (n : Int)), Met l yX2_passEither (WS yX2_passEither cX2_passEither 3 (some .boolean)) ({ frames := fn + 2, cells := 0, slots := 0, locals := ln + 43 }) (va_Pc [.ref (a 4), .int p0] (cW D k A a z G)) (va_Qi (fun (r : Int32) (G1 : GS) => E p0 G r G1) (fun (G1 : GS) t => Wd D k A a G1 t.heap) A) 0 0 A) (hO : ∀ (G : GS) (p0 : Int32) (ha_p0 : 0 ≤ p0.toInt ∧ p0.toInt ≤ 7) (hv_4_1 : G.2.2 4 1 = 2) (hd : 8 ≤ p0.toInt + (n : Int)), Met l yX2_passOne (WS yX2_passOne cX2_passOne 2 (some .boolean)) ({ frames := fn + 0, cells := 0, slots := 0, locals := ln + 0 }) (va_Pc [.ref (a 4), .int p0] (cW D k A a z G)) (va_Qi (fun (r : Int32) (G1 : GS) => O p0 G r G1) (fun (G1 : GS) t => Wd D k A a G1 t.heap) A) 0 0 A) (G : GS) (p0 : Int32) (ha_p0 : 0 ≤ p0.toInt ∧ p0.toInt ≤ 7) (hv_4_1 : G.2.2 4 1 = 2) (hd : 8 ≤ p0.toInt + (n : Int) + 1) : Met l yX2_passRelation (WS yX2_passRelation cX2_passRelation 3 (some .boolean)) ({ frames := fn + 11, cells := 0, slots := 0, locals := ln + 236 }) (va_Pc [.ref (a 4), .int p0] (cW D k A a z G)) (va_Qi (fun (r : Int32) (G1 : GS) => P_fRelation_2_s E O p0 G r G1) (fun (G1 : GS) t => Wd D k A a G1 t.heap) A) 0 0 A := by
  refine Met.ofW (cc := cX2_passRelation) (maxL := 3) (ret := (some .boolean)) (by decide) rfl ?_
  intro p e s m args below meth c s₁ B hml hv
  obtain ⟨rfl, hW, hB_G, hK, hZ⟩ := hv
  have hx := B.exec
  have hb := B.bytes
  have hr := B.returns
  have hts := atoms_spec (ws := WS yX2_passRelation cX2_passRelation 3 (some .boolean)) B.pre
  have hgd : ∀ w ∈ gd, w ∈ WS yX2_passRelation cX2_passRelation 3 (some .boolean) := fun w h => List.mem_cons_of_mem _ h
  have hg : ∀ w ∈ gd, w.before _ s = true := fun w h => hts w (hgd w h)
  have hown : s.vm.findClass RX2 = some m.cls := findClass_of_methodNamed B.named
  have hS : va_S A s.heap s.heap [] := va_S.rf
  have hF : Fr [27] [(2, 12), (2, 13), (3, 2), (3, 3), (3, 4), (3, 5), (3, 6), (3, 7), (3, 8), (4, 2)] G G := Fr.rf
  have hl := lv_entry ([.ref (a 4), .int p0]) (n := 3) (Nat.le_of_ble_eq_true rfl)
  rw [lg_entry_eq]
  generalize (lg_sl ([.ref (a 4), .int p0]) ++ List.replicate (3 - (lg_sl ([.ref (a 4), .int p0])).length) Slot.unset).toArray = ls at hl ⊢
  have hl : lv_has ls 3 [(0, .ref (a 4)), (1, .int p0)] := hl
  refine lv_aload_n hx hb dX2_passRelation_0 rfl (lv_at hl 0 rfl) ?_
  refine lv_iload_n hx hb dX2_passRelation_1 rfl (lv_at hl 1 rfl) ?_
  refine S_calli (va_runV (As := [.int p0]) (rest := []) ⟨hx, hb, hml, hown, hts⟩ (k_fSum_2_s l D k A a z fn ln n E O hEb hOb hE hO G p0 ⟨by omega, by omega⟩ hv_4_1 (by omega)) (cwV 1 hts (gd_V hgd m837 m839 m20 m121 m840) rfl rfl rfl hd_X2_passSum ⟨show fn + 10 + 1 ≤ fn + 11 from by omega, show 8 + (4 + 11) + (ln + 213) ≤ ln + 236 from by omega⟩) (pre_W hW hB_G hK hZ hS kd_4 rfl) rfl rfl hl.1 rfl (lv_room (Nat.le_of_ble_eq_true rfl)) dX2_passRelation_2 ⟨Nat.le_of_ble_eq_true rfl, Nat.le_of_ble_eq_true rfl⟩) hS (fun r_1 G_2 H locs hpo hW hS => ?_)
  have hX_5 : P_fSum_2_s E O p0 G r_1 G_2 := hpo
  obtain ⟨hB_G_2, hq_3, f_6, -⟩ := hpo
  have hF := hF.call9 hq_3 rfl rfl
  refine lv_if_ne (tgt := 10) hx hb dX2_passRelation_5 rfl (fun c_7 => ?_) (fun c_7 => ?_)
  · have c_7 : r_1.toInt ≠ 0 := xI_ne rfl rfl c_7
    refine lv_aload_n hx hb dX2_passRelation_10 rfl (lv_at hl 0 rfl) ?_
    refine S_getR (n := 3) (C := RX2) (T := TX2) (N := 3) hx hb hg iX2 hown hK hW kd_4 rfl 0 (lt_b rfl) (hg (Cond.fieldLink RX2 9 "SlabWalk$Formulas" "tokens" "LSlabWalk$Tokens;") m301) (fun _ h9 => h9) rfl dX2_passRelation_11 ?_
    refine S_getI (v := (G_2.1 3 3)) (C := RX9) (T := TX9) (N := 9) hx hb hg iX9 hown hK hW kd_3 rfl 3 (lt_b rfl) (hg (Cond.fieldLink RX2 30 "SlabWalk$Tokens" "kind" "I") m263) (fun _ h9 => h9) rfl rfl dX2_passRelation_14 ?_
    refine lv_istore_n (lv' := [(2, .int (G_2.1 3 3)), (0, .ref (a 4)), (1, .int p0)]) hx hb dX2_passRelation_17 rfl hl (lt_b rfl) rfl (fun ls hl => ?_)
    refine lv_iload_n hx hb dX2_passRelation_18 rfl (lv_at hl 0 rfl) ?_
    refine lv_bipush (v := 60) hx hb dX2_passRelation_19 (by decide) ?_
    refine W.cut (σ := Unit) (pcJ := 38) (J := fun y H locs ls => ∃ (G_11 : GS), Jn_k_fRelation_2_s_1 E O G_2 G_11 ∧ Wd D k A a G_11 H ∧ Bd G_11 ∧ Fr [27] [(2, 12), (2, 13), (3, 2), (3, 3), (3, 4), (3, 5), (3, 6), (3, 7), (3, 8), (4, 2)] G G_11 ∧ Fr [] [] G_2 G_11 ∧ va_S A s.heap H locs ∧ lv_has ls 3 [(2, .int (G_2.1 3 3)), (0, .ref (a 4)), (1, .int p0)]) (stJ := fun _ => []) ?_ (fun hJ_12 => ?_)
    · intro y H locs ls hI
      obtain ⟨G_11, hX_14, hW, hB_G_11, hF, hq_13, hS, hl⟩ := hI
      refine lv_aload_n hx hb dX2_passRelation_38 rfl (lv_at hl 1 rfl) ?_
      refine S_getR (n := 3) (C := RX2) (T := TX2) (N := 3) hx hb hg iX2 hown hK hW kd_4 rfl 0 (lt_b rfl) (hg (Cond.fieldLink RX2 9 "SlabWalk$Formulas" "tokens" "LSlabWalk$Tokens;") m301) (fun _ h9 => h9) rfl dX2_passRelation_39 ?_
      refine S_calli (va_runV (As := []) (rest := []) ⟨hx, hb, hml, hown, hts⟩ (k_tAdvance l D k A a z G_11  ) (cwV 0 hts (gd_V hgd m854 m639 m640 m120 m641) rfl rfl rfl hd_X9_advance ⟨show 6 + 1 ≤ fn + 11 from by omega, show 8 + (2 + 11) + (127) ≤ ln + 236 from by omega⟩) (pre_W hW hB_G_11 hK hZ hS kd_3 rfl) rfl rfl hl.1 rfl (lv_room (Nat.le_of_ble_eq_true rfl)) dX2_passRelation_42 ⟨Nat.le_of_ble_eq_true rfl, Nat.le_of_ble_eq_true rfl⟩) hS (fun r_15 G_16 H locs hpo hW hS => ?_)
      have hX_19 : P_tAdvance G_11 r_15 G_16 := hpo
      obtain ⟨hB_G_16, hq_17, f_20, -⟩ := hpo
      have hF := hF.call9 hq_17 rfl rfl
      refine lv_pop hx hb dX2_passRelation_45 rfl ?_
      refine lv_aload_n hx hb dX2_passRelation_46 rfl (lv_at hl 1 rfl) ?_
      refine lv_iload_n hx hb dX2_passRelation_47 rfl (lv_at hl 2 rfl) ?_
      refine S_calli (va_runV (As := [.int p0]) (rest := []) ⟨hx, hb, hml, hown, hts⟩ (k_fSum_2_s l D k A a z fn ln n E O hEb hOb hE hO G_16 p0 ⟨(by first | (clear f_6 c_7 f_20; omega) | omega), (by first | (clear f_6 c_7 f_20; omega) | omega)⟩ ((((hq_17.r9 4 1 rfl rfl).trans ((hq_13.r9 4 1 rfl rfl).trans (hq_3.r9 4 1 rfl rfl)))).trans (hv_4_1)) ((by first | (clear f_6 c_7 f_20; omega) | omega))) (cwV 1 hts (gd_V hgd m837 m839 m20 m121 m840) rfl rfl rfl hd_X2_passSum ⟨show fn + 10 + 1 ≤ fn + 11 from by omega, show 8 + (4 + 11) + (ln + 213) ≤ ln + 236 from by omega⟩) (pre_W hW hB_G_16 hK hZ hS kd_4 rfl) rfl rfl hl.1 rfl (lv_room (Nat.le_of_ble_eq_true rfl)) dX2_passRelation_48 ⟨Nat.le_of_ble_eq_true rfl, Nat.le_of_ble_eq_true rfl⟩) hS (fun r_21 G_22 H locs hpo hW hS => ?_)
      have hX_25 : P_fSum_2_s E O p0 G_16 r_21 G_22 := hpo
      obtain ⟨hB_G_22, hq_23, f_26, -⟩ := hpo
      have hF := hF.call9 hq_23 rfl rfl
      refine lv_if_ne (tgt := 56) hx hb dX2_passRelation_51 rfl (fun c_27 => ?_) (fun c_27 => ?_)
      · have c_27 : r_21.toInt ≠ 0 := xI_ne rfl rfl c_27
        refine lv_aload_n hx hb dX2_passRelation_56 rfl (lv_at hl 1 rfl) ?_
        refine S_getV (n := 2) (C := RX2) (T := TX2) (N := 3) hx hb hg iX2 hown hK hW kd_4 rfl 1 (lt_b rfl) (hg (Cond.fieldLink RX2 15 "SlabWalk$Formulas" "paving" "LSlabWalk$Paving;") m302) (fun _ h9 => h9) rfl ((((hq_23.r9 4 1 rfl rfl).trans ((hq_17.r9 4 1 rfl rfl).trans ((hq_13.r9 4 1 rfl rfl).trans (hq_3.r9 4 1 rfl rfl))))).trans (hv_4_1)) dX2_passRelation_57 ?_
        refine lv_iload_n hx hb dX2_passRelation_60 rfl (lv_at hl 0 rfl) ?_
        refine ic_0 hx hb dX2_passRelation_61 ?_
        refine S_callv (va_runV (As := [.int (G_2.1 3 3), .int 0]) (rest := []) ⟨hx, hb, hml, hown, hts⟩ (k_emit_2 l D k A a z G_22 (G_2.1 3 3) 0 ) (cwV 2 hts (gd_V hgd m855 m856 m857 m118 m858) rfl rfl rfl hd_X6_emit ⟨show 0 + 1 ≤ fn + 11 from by omega, show 8 + (3 + 11) + (0) ≤ ln + 236 from by omega⟩) (pre_W hW hB_G_22 hK hZ hS kd_2 rfl) rfl rfl hl.1 rfl (lv_room (Nat.le_of_ble_eq_true rfl)) dX2_passRelation_62 ⟨Nat.le_of_ble_eq_true rfl, Nat.le_of_ble_eq_true rfl⟩) hS (fun G_29 H locs hpo hW hS => ?_)
        have hX_32 : P_emit_2 (G_2.1 3 3) 0 G_22 G_29 := hpo
        obtain ⟨hB_G_29, hq_30, -⟩ := hpo
        have hF := hF.call9 hq_30 rfl rfl
        refine ic_1 hx hb dX2_passRelation_65 ?_
        exact W.zret (v := 1) hx hb hr (by decide) (fun t ht _ => ⟨⟨1, G_29, rfl, (P_fRelation_2_s_mk ⟨hB_G_29, hF, ⟨by decide, by decide⟩, ⟨r_1, G_2, hX_5, (Or.inr ⟨c_7, (Or.inr ⟨G_11, hX_14, hB_G_11, hq_13, ⟨r_15, G_16, hX_19, ⟨r_21, G_22, hX_25, (Or.inr ⟨c_27, ⟨G_29, hX_32, ⟨rfl, rfl⟩⟩⟩)⟩⟩⟩)⟩)⟩⟩), wd_t ht hW⟩, hS.F ht⟩) hS.2.2 dX2_passRelation_66
      · have c_27 : r_21.toInt = 0 := xI_eq rfl rfl c_27
        refine ic_0 hx hb dX2_passRelation_54 ?_
        exact W.zret (v := 0) hx hb hr (by decide) (fun t ht _ => ⟨⟨0, G_22, rfl, (P_fRelation_2_s_mk ⟨hB_G_22, hF, ⟨by decide, by decide⟩, ⟨r_1, G_2, hX_5, (Or.inr ⟨c_7, (Or.inr ⟨G_11, hX_14, hB_G_11, hq_13, ⟨r_15, G_16, hX_19, ⟨r_21, G_22, hX_25, (Or.inl ⟨c_27, ⟨rfl, rfl⟩⟩)⟩⟩⟩)⟩)⟩⟩), wd_t ht hW⟩, hS.F ht⟩) hS.2.2 dX2_passRelation_55
    refine lv_icmp_eq (tgt := 38) hx hb dX2_passRelation_21 rfl (fun c_33 => ?_) (fun c_33 => ?_)
    · have c_33 : (G_2.1 3 3).toInt = 60 := xI_eq rfl rfl c_33
      exact hJ_12 () _ _ _ ⟨G_2, (Jn_k_fRelation_2_s_1_mk (Or.inl ⟨c_33, rfl⟩)), hW, hB_G_2, hF, (Fr.rf (rs := []) (fs := [])), hS, lv_sub hl [0, 1, 2] rfl⟩
    · have c_33 : (G_2.1 3 3).toInt ≠ 60 := xI_ne rfl rfl c_33
      refine lv_iload_n hx hb dX2_passRelation_24 rfl (lv_at hl 0 rfl) ?_
      refine lv_bipush (v := 62) hx hb dX2_passRelation_25 (by decide) ?_
      refine lv_icmp_eq (tgt := 38) hx hb dX2_passRelation_27 rfl (fun c_34 => ?_) (fun c_34 => ?_)
      · have c_34 : (G_2.1 3 3).toInt = 62 := xI_eq rfl rfl c_34
        exact hJ_12 () _ _ _ ⟨G_2, (Jn_k_fRelation_2_s_1_mk (Or.inr ⟨c_33, (Or.inl ⟨c_34, rfl⟩)⟩)), hW, hB_G_2, hF, (Fr.rf (rs := []) (fs := [])), hS, lv_sub hl [0, 1, 2] rfl⟩
      · have c_34 : (G_2.1 3 3).toInt ≠ 62 := xI_ne rfl rfl c_34
        refine lv_iload_n hx hb dX2_passRelation_30 rfl (lv_at hl 0 rfl) ?_
        refine lv_bipush (v := 61) hx hb dX2_passRelation_31 (by decide) ?_
        refine lv_icmp_eq (tgt := 38) hx hb dX2_passRelation_33 rfl (fun c_35 => ?_) (fun c_35 => ?_)
        · have c_35 : (G_2.1 3 3).toInt = 61 := xI_eq rfl rfl c_35
          exact hJ_12 () _ _ _ ⟨G_2, (Jn_k_fRelation_2_s_1_mk (Or.inr ⟨c_33, (Or.inr ⟨c_34, ⟨c_35, rfl⟩⟩)⟩)), hW, hB_G_2, hF, (Fr.rf (rs := []) (fs := [])), hS, lv_sub hl [0, 1, 2] rfl⟩
        · have c_35 : (G_2.1 3 3).toInt ≠ 61 := xI_ne rfl rfl c_35
          refine ic_1 hx hb dX2_passRelation_36 ?_
          exact W.zret (v := 1) hx hb hr (by decide) (fun t ht _ => ⟨⟨1, G_2, rfl, (P_fRelation_2_s_mk ⟨hB_G_2, hF, ⟨by decide, by decide⟩, ⟨r_1, G_2, hX_5, (Or.inr ⟨c_7, (Or.inl ⟨c_33, ⟨c_34, ⟨c_35, ⟨rfl, rfl⟩⟩⟩⟩)⟩)⟩⟩), wd_t ht hW⟩, hS.F ht⟩) hS.2.2 dX2_passRelation_37
  · have c_7 : r_1.toInt = 0 := xI_eq rfl rfl c_7
    refine ic_0 hx hb dX2_passRelation_8 ?_
    exact W.zret (v := 0) hx hb hr (by decide) (fun t ht _ => ⟨⟨0, G_2, rfl, (P_fRelation_2_s_mk ⟨hB_G_2, hF, ⟨by decide, by decide⟩, ⟨r_1, G_2, hX_5, (Or.inl ⟨c_7, ⟨rfl, rfl⟩⟩)⟩⟩), wd_t ht hW⟩, hS.F ht⟩) hS.2.2 dX2_passRelation_9

set_option maxHeartbeats 4000000 in
set_option maxRecDepth 100000 in
theorem k_fOne_2_s (l : Launch) (D : va_G) (k : KT) (A : Nat → Prop) (a : Nat → Nat) (z : SK) (fn ln n : Nat) (E O : XR) (hEb : ∀ (p0 : Int32) (G : GS) (r : Int32) (G1 : GS), E p0 G r G1 → Bd G1 ∧ Fr [27] [(2, 12), (2, 13), (3, 2), (3, 3), (3, 4), (3, 5), (3, 6), (3, 7), (3, 8), (4, 2)] G G1 ∧ (0 ≤ r.toInt ∧ r.toInt ≤ 1)) (hOb : ∀ (p0 : Int32) (G : GS) (r : Int32) (G1 : GS), O p0 G r G1 → Bd G1 ∧ Fr [27] [(2, 12), (2, 13), (3, 2), (3, 3), (3, 4), (3, 5), (3, 6), (3, 7), (3, 8), (4, 2)] G G1 ∧ (0 ≤ r.toInt ∧ r.toInt ≤ 1)) (hE : ∀ (G : GS) (p0 : Int32) (ha_p0 : 0 ≤ p0.toInt ∧ p0.toInt ≤ 7) (hv_4_1 : G.2.2 4 1 = 2) (hd : 8 ≤ p0.toInt + (n : Int)), Met l yX2_passEither (WS yX2_passEither cX2_passEither 3 (some .boolean)) ({ frames := fn + 2, cells := 0, slots := 0, locals := ln + 43 }) (va_Pc [.ref (a 4), .int p0] (cW D k A a z G)) (va_Qi (fun (r : Int32) (G1 : GS) => E p0 G r G1) (fun (G1 : GS) t => Wd D k A a G1 t.heap) A) 0 0 A) (hO : ∀ (G : GS) (p0 : Int32) (ha_p0 : 0 ≤ p0.toInt ∧ p0.toInt ≤ 7) (hv_4_1 : G.2.2 4 1 = 2) (hd : 8 ≤ p0.toInt + (n : Int)), Met l yX2_passOne (WS yX2_passOne cX2_passOne 2 (some .boolean)) ({ frames := fn + 0, cells := 0, slots := 0, locals := ln + 0 }) (va_Pc [.ref (a 4), .int p0] (cW D k A a z G)) (va_Qi (fun (r : Int32) (G1 : GS) => O p0 G r G1) (fun (G1 : GS) t => Wd D k A a G1 t.heap) A) 0 0 A) (G : GS) (p0 : Int32) (ha_p0 : 0 ≤ p0.toInt ∧ p0.toInt ≤ 7) (hv_4_1 : G.2.2 4 1 = 2) (hd : 8 ≤ p0.toInt + (n : Int) + 1) : Met l yX2_passOne (WS yX2_passOne cX2_passOne 2 (some .boolean)) ({ frames := fn + 12, cells := 0, slots := 0, locals := ln + 258 }) (va_Pc [.ref (a 4), .int p0] (cW D k A a z G)) (va_Qi (fun (r : Int32) (G1 : GS) => P_fOne_2_s E O p0 G r G1) (fun (G1 : GS) t => Wd D k A a G1 t.heap) A) 0 0 A := by
  refine Met.ofW (cc := cX2_passOne) (maxL := 2) (ret := (some .boolean)) (by decide) rfl ?_
  intro p e s m args below meth c s₁ B hml hv
  obtain ⟨rfl, hW, hB_G, hK, hZ⟩ := hv
  have hx := B.exec
  have hb := B.bytes
  have hr := B.returns
  have hts := atoms_spec (ws := WS yX2_passOne cX2_passOne 2 (some .boolean)) B.pre
  have hgd : ∀ w ∈ gd, w ∈ WS yX2_passOne cX2_passOne 2 (some .boolean) := fun w h => List.mem_cons_of_mem _ h
  have hg : ∀ w ∈ gd, w.before _ s = true := fun w h => hts w (hgd w h)
  have hown : s.vm.findClass RX2 = some m.cls := findClass_of_methodNamed B.named
  have hS : va_S A s.heap s.heap [] := va_S.rf
  have hF : Fr [27] [(2, 12), (2, 13), (3, 2), (3, 3), (3, 4), (3, 5), (3, 6), (3, 7), (3, 8), (4, 2)] G G := Fr.rf
  have hl := lv_entry ([.ref (a 4), .int p0]) (n := 2) (Nat.le_of_ble_eq_true rfl)
  rw [lg_entry_eq]
  generalize (lg_sl ([.ref (a 4), .int p0]) ++ List.replicate (2 - (lg_sl ([.ref (a 4), .int p0])).length) Slot.unset).toArray = ls at hl ⊢
  have hl : lv_has ls 2 [(0, .ref (a 4)), (1, .int p0)] := hl
  refine lv_aload_n hx hb dX2_passOne_0 rfl (lv_at hl 0 rfl) ?_
  refine S_getR (n := 3) (C := RX2) (T := TX2) (N := 3) hx hb hg iX2 hown hK hW kd_4 rfl 0 (lt_b rfl) (hg (Cond.fieldLink RX2 9 "SlabWalk$Formulas" "tokens" "LSlabWalk$Tokens;") m301) (fun _ h9 => h9) rfl dX2_passOne_1 ?_
  refine S_getI (v := (G.1 3 3)) (C := RX9) (T := TX9) (N := 9) hx hb hg iX9 hown hK hW kd_3 rfl 3 (lt_b rfl) (hg (Cond.fieldLink RX2 30 "SlabWalk$Tokens" "kind" "I") m263) (fun _ h9 => h9) rfl rfl dX2_passOne_4 ?_
  refine lv_sipush (v := 146) hx hb dX2_passOne_7 (by decide) ?_
  refine lv_icmp_eq (tgt := 19) hx hb dX2_passOne_10 rfl (fun c_1 => ?_) (fun c_1 => ?_)
  · have c_1 : (G.1 3 3).toInt = 146 := xI_eq rfl rfl c_1
    refine lv_iload_n hx hb dX2_passOne_19 rfl (lv_at hl 1 rfl) ?_
    refine lv_bipush (v := 6) hx hb dX2_passOne_20 (by decide) ?_
    refine lv_icmp_le (tgt := 34) hx hb dX2_passOne_22 rfl (fun c_2 => ?_) (fun c_2 => ?_)
    · have c_2 : p0.toInt ≤ 6 := xI_le rfl rfl c_2
      refine lv_aload_n hx hb dX2_passOne_34 rfl (lv_at hl 0 rfl) ?_
      refine S_getR (n := 3) (C := RX2) (T := TX2) (N := 3) hx hb hg iX2 hown hK hW kd_4 rfl 0 (lt_b rfl) (hg (Cond.fieldLink RX2 9 "SlabWalk$Formulas" "tokens" "LSlabWalk$Tokens;") m301) (fun _ h9 => h9) rfl dX2_passOne_35 ?_
      refine S_calli (va_runV (As := []) (rest := []) ⟨hx, hb, hml, hown, hts⟩ (k_tAdvance l D k A a z G  ) (cwV 0 hts (gd_V hgd m854 m639 m640 m120 m641) rfl rfl rfl hd_X9_advance ⟨show 6 + 1 ≤ fn + 12 from by omega, show 8 + (2 + 11) + (127) ≤ ln + 258 from by omega⟩) (pre_W hW hB_G hK hZ hS kd_3 rfl) rfl rfl hl.1 rfl (lv_room (Nat.le_of_ble_eq_true rfl)) dX2_passOne_38 ⟨Nat.le_of_ble_eq_true rfl, Nat.le_of_ble_eq_true rfl⟩) hS (fun r_3 G_4 H locs hpo hW hS => ?_)
      have hX_7 : P_tAdvance G r_3 G_4 := hpo
      obtain ⟨hB_G_4, hq_5, f_8, -⟩ := hpo
      have hF := hF.call9 hq_5 rfl rfl
      refine lv_pop hx hb dX2_passOne_41 rfl ?_
      refine lv_aload_n hx hb dX2_passOne_42 rfl (lv_at hl 0 rfl) ?_
      refine lv_iload_n hx hb dX2_passOne_43 rfl (lv_at hl 1 rfl) ?_
      refine ic_1 hx hb dX2_passOne_44 ?_
      refine lv_iadd hx hb dX2_passOne_45 ?_
      refine lv_topi (fun y_9 ey_9 => ?_)
      have ty_9 : y_9.toInt = p0.toInt + 1 := xI_add rfl rfl ey_9 (by omega) (by omega)
      refine S_calli (va_runV (As := [.int y_9]) (rest := []) ⟨hx, hb, hml, hown, hts⟩ (hO G_4 y_9 ⟨by omega, by omega⟩ (((hq_5.r9 4 1 rfl rfl)).trans (hv_4_1)) (by omega)) (cwV 1 hts (gd_V hgd m829 m831 m18 m121 m832) rfl rfl rfl hd_X2_passOne ⟨show fn + 0 + 1 ≤ fn + 12 from by omega, show 8 + (2 + 11) + (ln + 0) ≤ ln + 258 from by omega⟩) (pre_W hW hB_G_4 hK hZ hS kd_4 rfl) rfl rfl hl.1 rfl (lv_room (Nat.le_of_ble_eq_true rfl)) dX2_passOne_46 ⟨Nat.le_of_ble_eq_true rfl, Nat.le_of_ble_eq_true rfl⟩) hS (fun r_10 G_11 H locs hpo hW hS => ?_)
      have hX_14 : O y_9 G_4 r_10 G_11 := hpo
      obtain ⟨hB_G_11, hq_12, f_15⟩ := hOb _ _ _ _ hpo
      have hF := hF.call9 hq_12 rfl rfl
      refine lv_if_ne (tgt := 54) hx hb dX2_passOne_49 rfl (fun c_16 => ?_) (fun c_16 => ?_)
      · have c_16 : r_10.toInt ≠ 0 := xI_ne rfl rfl c_16
        refine lv_aload_n hx hb dX2_passOne_54 rfl (lv_at hl 0 rfl) ?_
        refine S_getV (n := 2) (C := RX2) (T := TX2) (N := 3) hx hb hg iX2 hown hK hW kd_4 rfl 1 (lt_b rfl) (hg (Cond.fieldLink RX2 15 "SlabWalk$Formulas" "paving" "LSlabWalk$Paving;") m302) (fun _ h9 => h9) rfl ((((hq_12.r9 4 1 rfl rfl).trans (hq_5.r9 4 1 rfl rfl))).trans (hv_4_1)) dX2_passOne_55 ?_
        refine lv_sipush (v := 146) hx hb dX2_passOne_58 (by decide) ?_
        refine ic_0 hx hb dX2_passOne_61 ?_
        refine S_callv (va_runV (As := [.int 146, .int 0]) (rest := []) ⟨hx, hb, hml, hown, hts⟩ (k_emit_2 l D k A a z G_11 146 0 ) (cwV 2 hts (gd_V hgd m855 m856 m857 m118 m858) rfl rfl rfl hd_X6_emit ⟨show 0 + 1 ≤ fn + 12 from by omega, show 8 + (3 + 11) + (0) ≤ ln + 258 from by omega⟩) (pre_W hW hB_G_11 hK hZ hS kd_2 rfl) rfl rfl hl.1 rfl (lv_room (Nat.le_of_ble_eq_true rfl)) dX2_passOne_62 ⟨Nat.le_of_ble_eq_true rfl, Nat.le_of_ble_eq_true rfl⟩) hS (fun G_18 H locs hpo hW hS => ?_)
        have hX_21 : P_emit_2 146 0 G_11 G_18 := hpo
        obtain ⟨hB_G_18, hq_19, -⟩ := hpo
        have hF := hF.call9 hq_19 rfl rfl
        refine ic_1 hx hb dX2_passOne_65 ?_
        exact W.zret (v := 1) hx hb hr (by decide) (fun t ht _ => ⟨⟨1, G_18, rfl, (P_fOne_2_s_mk ⟨hB_G_18, hF, ⟨by decide, by decide⟩, (Or.inl ⟨c_1, (Or.inl ⟨c_2, ⟨r_3, G_4, hX_7, ⟨y_9, ty_9, ⟨r_10, G_11, hX_14, (Or.inr ⟨c_16, ⟨G_18, hX_21, ⟨rfl, rfl⟩⟩⟩)⟩⟩⟩⟩)⟩)⟩), wd_t ht hW⟩, hS.F ht⟩) hS.2.2 dX2_passOne_66
      · have c_16 : r_10.toInt = 0 := xI_eq rfl rfl c_16
        refine ic_0 hx hb dX2_passOne_52 ?_
        exact W.zret (v := 0) hx hb hr (by decide) (fun t ht _ => ⟨⟨0, G_11, rfl, (P_fOne_2_s_mk ⟨hB_G_11, hF, ⟨by decide, by decide⟩, (Or.inl ⟨c_1, (Or.inl ⟨c_2, ⟨r_3, G_4, hX_7, ⟨y_9, ty_9, ⟨r_10, G_11, hX_14, (Or.inl ⟨c_16, ⟨rfl, rfl⟩⟩)⟩⟩⟩⟩)⟩)⟩), wd_t ht hW⟩, hS.F ht⟩) hS.2.2 dX2_passOne_53
    · have c_2 : 6 < p0.toInt := xI_nle rfl rfl c_2
      refine lv_aload_n hx hb dX2_passOne_25 rfl (lv_at hl 0 rfl) ?_
      refine S_getR (n := 3) (C := RX2) (T := TX2) (N := 3) hx hb hg iX2 hown hK hW kd_4 rfl 0 (lt_b rfl) (hg (Cond.fieldLink RX2 9 "SlabWalk$Formulas" "tokens" "LSlabWalk$Tokens;") m301) (fun _ h9 => h9) rfl dX2_passOne_26 ?_
      refine ic_2 hx hb dX2_passOne_29 ?_
      refine S_calli (va_runV (As := [.int 2]) (rest := []) ⟨hx, hb, hml, hown, hts⟩ (k_tRefuse l D k A a z G 2 ⟨by decide, by decide⟩) (cwV 1 hts (gd_V hgd m849 m779 m780 m120 m781) rfl rfl rfl hd_X9_refuse ⟨show 0 + 1 ≤ fn + 12 from by omega, show 8 + (2 + 11) + (0) ≤ ln + 258 from by omega⟩) (pre_W hW hB_G hK hZ hS kd_3 rfl) rfl rfl hl.1 rfl (lv_room (Nat.le_of_ble_eq_true rfl)) dX2_passOne_30 ⟨Nat.le_of_ble_eq_true rfl, Nat.le_of_ble_eq_true rfl⟩) hS (fun r_22 G_23 H locs hpo hW hS => ?_)
      have hX_26 : P_tRefuse 2 G r_22 G_23 := hpo
      obtain ⟨hB_G_23, hq_24, f_27, -⟩ := hpo
      have hF := hF.call9 hq_24 rfl rfl
      exact W.zret (v := r_22) hx hb hr (nar_z ((by first | (clear ha_p0 hd c_1 c_2; omega) | omega)) ((by first | (clear ha_p0 hd c_1 c_2; omega) | omega))) (fun t ht _ => ⟨⟨r_22, G_23, rfl, (P_fOne_2_s_mk ⟨hB_G_23, hF, ⟨(by first | (clear ha_p0 hd c_1 c_2; omega) | omega), (by first | (clear ha_p0 hd c_1 c_2; omega) | omega)⟩, (Or.inl ⟨c_1, (Or.inr ⟨c_2, ⟨r_22, G_23, hX_26, ⟨rfl, rfl⟩⟩⟩)⟩)⟩), wd_t ht hW⟩, hS.F ht⟩) hS.2.2 dX2_passOne_33
  · have c_1 : (G.1 3 3).toInt ≠ 146 := xI_ne rfl rfl c_1
    refine lv_aload_n hx hb dX2_passOne_13 rfl (lv_at hl 0 rfl) ?_
    refine lv_iload_n hx hb dX2_passOne_14 rfl (lv_at hl 1 rfl) ?_
    refine S_calli (va_runV (As := [.int p0]) (rest := []) ⟨hx, hb, hml, hown, hts⟩ (k_fRelation_2_s l D k A a z fn ln n E O hEb hOb hE hO G p0 ⟨by omega, by omega⟩ hv_4_1 (by omega)) (cwV 1 hts (gd_V hgd m833 m835 m19 m121 m836) rfl rfl rfl hd_X2_passRelation ⟨show fn + 11 + 1 ≤ fn + 12 from by omega, show 8 + (3 + 11) + (ln + 236) ≤ ln + 258 from by omega⟩) (pre_W hW hB_G hK hZ hS kd_4 rfl) rfl rfl hl.1 rfl (lv_room (Nat.le_of_ble_eq_true rfl)) dX2_passOne_15 ⟨Nat.le_of_ble_eq_true rfl, Nat.le_of_ble_eq_true rfl⟩) hS (fun r_28 G_29 H locs hpo hW hS => ?_)
    have hX_32 : P_fRelation_2_s E O p0 G r_28 G_29 := hpo
    obtain ⟨hB_G_29, hq_30, f_33, -⟩ := hpo
    have hF := hF.call9 hq_30 rfl rfl
    exact W.zret (v := r_28) hx hb hr (nar_z ((by first | (clear ha_p0 hd c_1; omega) | omega)) ((by first | (clear ha_p0 hd c_1; omega) | omega))) (fun t ht _ => ⟨⟨r_28, G_29, rfl, (P_fOne_2_s_mk ⟨hB_G_29, hF, ⟨(by first | (clear ha_p0 hd c_1; omega) | omega), (by first | (clear ha_p0 hd c_1; omega) | omega)⟩, (Or.inr ⟨c_1, ⟨r_28, G_29, hX_32, ⟨rfl, rfl⟩⟩⟩)⟩), wd_t ht hW⟩, hS.F ht⟩) hS.2.2 dX2_passOne_18

set_option maxHeartbeats 4000000 in
set_option maxRecDepth 100000 in
theorem k_fBoth_2_s (l : Launch) (D : va_G) (k : KT) (A : Nat → Prop) (a : Nat → Nat) (z : SK) (fn ln n : Nat) (E O : XR) (hEb : ∀ (p0 : Int32) (G : GS) (r : Int32) (G1 : GS), E p0 G r G1 → Bd G1 ∧ Fr [27] [(2, 12), (2, 13), (3, 2), (3, 3), (3, 4), (3, 5), (3, 6), (3, 7), (3, 8), (4, 2)] G G1 ∧ (0 ≤ r.toInt ∧ r.toInt ≤ 1)) (hOb : ∀ (p0 : Int32) (G : GS) (r : Int32) (G1 : GS), O p0 G r G1 → Bd G1 ∧ Fr [27] [(2, 12), (2, 13), (3, 2), (3, 3), (3, 4), (3, 5), (3, 6), (3, 7), (3, 8), (4, 2)] G G1 ∧ (0 ≤ r.toInt ∧ r.toInt ≤ 1)) (hE : ∀ (G : GS) (p0 : Int32) (ha_p0 : 0 ≤ p0.toInt ∧ p0.toInt ≤ 7) (hv_4_1 : G.2.2 4 1 = 2) (hd : 8 ≤ p0.toInt + (n : Int)), Met l yX2_passEither (WS yX2_passEither cX2_passEither 3 (some .boolean)) ({ frames := fn + 2, cells := 0, slots := 0, locals := ln + 43 }) (va_Pc [.ref (a 4), .int p0] (cW D k A a z G)) (va_Qi (fun (r : Int32) (G1 : GS) => E p0 G r G1) (fun (G1 : GS) t => Wd D k A a G1 t.heap) A) 0 0 A) (hO : ∀ (G : GS) (p0 : Int32) (ha_p0 : 0 ≤ p0.toInt ∧ p0.toInt ≤ 7) (hv_4_1 : G.2.2 4 1 = 2) (hd : 8 ≤ p0.toInt + (n : Int)), Met l yX2_passOne (WS yX2_passOne cX2_passOne 2 (some .boolean)) ({ frames := fn + 0, cells := 0, slots := 0, locals := ln + 0 }) (va_Pc [.ref (a 4), .int p0] (cW D k A a z G)) (va_Qi (fun (r : Int32) (G1 : GS) => O p0 G r G1) (fun (G1 : GS) t => Wd D k A a G1 t.heap) A) 0 0 A) (G : GS) (p0 : Int32) (ha_p0 : 0 ≤ p0.toInt ∧ p0.toInt ≤ 7) (hv_4_1 : G.2.2 4 1 = 2) (hd : 8 ≤ p0.toInt + (n : Int) + 1) : Met l yX2_passBoth (WS yX2_passBoth cX2_passBoth 3 (some .boolean)) ({ frames := fn + 13, cells := 0, slots := 0, locals := ln + 279 }) (va_Pc [.ref (a 4), .int p0] (cW D k A a z G)) (va_Qi (fun (r : Int32) (G1 : GS) => P_fBoth_2_s E O p0 G r G1) (fun (G1 : GS) t => Wd D k A a G1 t.heap) A) 0 0 A := by
  refine Met.ofW (cc := cX2_passBoth) (maxL := 3) (ret := (some .boolean)) (by decide) rfl ?_
  intro p e s m args below meth c s₁ B hml hv
  obtain ⟨rfl, hW, hB_G, hK, hZ⟩ := hv
  have hx := B.exec
  have hb := B.bytes
  have hr := B.returns
  have hts := atoms_spec (ws := WS yX2_passBoth cX2_passBoth 3 (some .boolean)) B.pre
  have hgd : ∀ w ∈ gd, w ∈ WS yX2_passBoth cX2_passBoth 3 (some .boolean) := fun w h => List.mem_cons_of_mem _ h
  have hg : ∀ w ∈ gd, w.before _ s = true := fun w h => hts w (hgd w h)
  have hown : s.vm.findClass RX2 = some m.cls := findClass_of_methodNamed B.named
  have hS : va_S A s.heap s.heap [] := va_S.rf
  have hF : Fr [27] [(2, 12), (2, 13), (3, 2), (3, 3), (3, 4), (3, 5), (3, 6), (3, 7), (3, 8), (4, 2)] G G := Fr.rf
  have hl := lv_entry ([.ref (a 4), .int p0]) (n := 3) (Nat.le_of_ble_eq_true rfl)
  rw [lg_entry_eq]
  generalize (lg_sl ([.ref (a 4), .int p0]) ++ List.replicate (3 - (lg_sl ([.ref (a 4), .int p0])).length) Slot.unset).toArray = ls at hl ⊢
  have hl : lv_has ls 3 [(0, .ref (a 4)), (1, .int p0)] := hl
  refine lv_aload_n hx hb dX2_passBoth_0 rfl (lv_at hl 0 rfl) ?_
  refine lv_iload_n hx hb dX2_passBoth_1 rfl (lv_at hl 1 rfl) ?_
  refine S_calli (va_runV (As := [.int p0]) (rest := []) ⟨hx, hb, hml, hown, hts⟩ (k_fOne_2_s l D k A a z fn ln n E O hEb hOb hE hO G p0 ⟨by omega, by omega⟩ hv_4_1 (by omega)) (cwV 1 hts (gd_V hgd m829 m831 m18 m121 m832) rfl rfl rfl hd_X2_passOne ⟨show fn + 12 + 1 ≤ fn + 13 from by omega, show 8 + (2 + 11) + (ln + 258) ≤ ln + 279 from by omega⟩) (pre_W hW hB_G hK hZ hS kd_4 rfl) rfl rfl hl.1 rfl (lv_room (Nat.le_of_ble_eq_true rfl)) dX2_passBoth_2 ⟨Nat.le_of_ble_eq_true rfl, Nat.le_of_ble_eq_true rfl⟩) hS (fun r_1 G_2 H locs hpo hW hS => ?_)
  have hX_5 : P_fOne_2_s E O p0 G r_1 G_2 := hpo
  obtain ⟨hB_G_2, hq_3, f_6, -⟩ := hpo
  have hF := hF.call9 hq_3 rfl rfl
  refine lv_if_ne (tgt := 10) hx hb dX2_passBoth_5 rfl (fun c_7 => ?_) (fun c_7 => ?_)
  · have c_7 : r_1.toInt ≠ 0 := xI_ne rfl rfl c_7
    refine ic_0 hx hb dX2_passBoth_10 ?_
    refine lv_istore_n (lv' := [(2, .int 0), (0, .ref (a 4)), (1, .int p0)]) hx hb dX2_passBoth_11 rfl hl (lt_b rfl) rfl (fun ls hl => ?_)
    have qc_14 : (0 : Int32).toInt = 0 := rfl
    refine loop_N (Inv := fun n H locs ls => ∃ (G_8 : GS) (x_12 : Int32), (n : Int) = 1600 - x_12.toInt ∧ (0 ≤ x_12.toInt ∧ x_12.toInt ≤ 1600) ∧ Rc (St_k_fBoth_2_s_1 E O p0) (0, G_2) (x_12, G_8) ∧ Wd D k A a G_8 H ∧ Bd G_8 ∧ Fr [27] [(2, 12), (2, 13), (3, 2), (3, 3), (3, 4), (3, 5), (3, 6), (3, 7), (3, 8), (4, 2)] G G_8 ∧ Fr [27] [(2, 12), (2, 13), (3, 2), (3, 3), (3, 4), (3, 5), (3, 6), (3, 7), (3, 8), (4, 2)] G_2 G_8 ∧ va_S A s.heap H locs ∧ lv_has ls 3 [(2, .int x_12), (0, .ref (a 4)), (1, .int p0)]) (fun n_11 H locs ls ih_10 hI => ?_) (1600 - 0 : Int).toNat ⟨G_2, 0, (Int.toNat_of_nonneg ((by first | (clear ha_p0 hd f_6 c_7; omega) | omega))), ⟨(by first | (clear ha_p0 hd f_6 c_7; omega) | omega), (by first | (clear ha_p0 hd f_6 c_7; omega) | omega)⟩, Rc.rf, hW, hB_G_2, hF, Fr.rf, hS, lv_sub hl [0, 1, 2] rfl⟩
    obtain ⟨G_8, x_12, hn_16, f_15, hX_13, hW, hB_G_8, hF, hq_9, hS, hl⟩ := hI
    refine lv_iload_n hx hb dX2_passBoth_12 rfl (lv_at hl 0 rfl) ?_
    refine lv_sipush (v := 1600) hx hb dX2_passBoth_13 (by decide) ?_
    refine lv_icmp_ge (tgt := 67) hx hb dX2_passBoth_16 rfl (fun c_17 => ?_) (fun c_17 => ?_)
    · have c_17 : 1600 ≤ x_12.toInt := xI_le rfl rfl c_17
      refine ic_1 hx hb dX2_passBoth_67 ?_
      exact W.zret (v := 1) hx hb hr (by decide) (fun t ht _ => ⟨⟨1, G_8, rfl, (P_fBoth_2_s_mk ⟨hB_G_8, hF, ⟨by decide, by decide⟩, ⟨r_1, G_2, hX_5, (Or.inr ⟨c_7, ⟨x_12, G_8, hX_13, f_15, hB_G_8, hq_9, (Or.inl ⟨c_17, ⟨rfl, rfl⟩⟩)⟩⟩)⟩⟩), wd_t ht hW⟩, hS.F ht⟩) hS.2.2 dX2_passBoth_68
    · have c_17 : x_12.toInt < 1600 := xI_nle rfl rfl c_17
      refine lv_aload_n hx hb dX2_passBoth_19 rfl (lv_at hl 1 rfl) ?_
      refine S_getR (n := 3) (C := RX2) (T := TX2) (N := 3) hx hb hg iX2 hown hK hW kd_4 rfl 0 (lt_b rfl) (hg (Cond.fieldLink RX2 9 "SlabWalk$Formulas" "tokens" "LSlabWalk$Tokens;") m301) (fun _ h9 => h9) rfl dX2_passBoth_20 ?_
      refine S_getI (v := (G_8.1 3 3)) (C := RX9) (T := TX9) (N := 9) hx hb hg iX9 hown hK hW kd_3 rfl 3 (lt_b rfl) (hg (Cond.fieldLink RX2 30 "SlabWalk$Tokens" "kind" "I") m263) (fun _ h9 => h9) rfl rfl dX2_passBoth_23 ?_
      refine lv_sipush (v := 145) hx hb dX2_passBoth_26 (by decide) ?_
      refine lv_icmp_ne (tgt := 67) hx hb dX2_passBoth_29 rfl (fun c_18 => ?_) (fun c_18 => ?_)
      · have c_18 : (G_8.1 3 3).toInt ≠ 145 := xI_ne rfl rfl c_18
        refine ic_1 hx hb dX2_passBoth_67 ?_
        exact W.zret (v := 1) hx hb hr (by decide) (fun t ht _ => ⟨⟨1, G_8, rfl, (P_fBoth_2_s_mk ⟨hB_G_8, hF, ⟨by decide, by decide⟩, ⟨r_1, G_2, hX_5, (Or.inr ⟨c_7, ⟨x_12, G_8, hX_13, f_15, hB_G_8, hq_9, (Or.inr ⟨c_17, (Or.inr ⟨c_18, ⟨rfl, rfl⟩⟩)⟩)⟩⟩)⟩⟩), wd_t ht hW⟩, hS.F ht⟩) hS.2.2 dX2_passBoth_68
      · have c_18 : (G_8.1 3 3).toInt = 145 := xI_eq rfl rfl c_18
        refine lv_aload_n hx hb dX2_passBoth_32 rfl (lv_at hl 1 rfl) ?_
        refine S_getR (n := 3) (C := RX2) (T := TX2) (N := 3) hx hb hg iX2 hown hK hW kd_4 rfl 0 (lt_b rfl) (hg (Cond.fieldLink RX2 9 "SlabWalk$Formulas" "tokens" "LSlabWalk$Tokens;") m301) (fun _ h9 => h9) rfl dX2_passBoth_33 ?_
        refine S_calli (va_runV (As := []) (rest := []) ⟨hx, hb, hml, hown, hts⟩ (k_tAdvance l D k A a z G_8  ) (cwV 0 hts (gd_V hgd m854 m639 m640 m120 m641) rfl rfl rfl hd_X9_advance ⟨show 6 + 1 ≤ fn + 13 from by omega, show 8 + (2 + 11) + (127) ≤ ln + 279 from by omega⟩) (pre_W hW hB_G_8 hK hZ hS kd_3 rfl) rfl rfl hl.1 rfl (lv_room (Nat.le_of_ble_eq_true rfl)) dX2_passBoth_36 ⟨Nat.le_of_ble_eq_true rfl, Nat.le_of_ble_eq_true rfl⟩) hS (fun r_19 G_20 H locs hpo hW hS => ?_)
        have hX_23 : P_tAdvance G_8 r_19 G_20 := hpo
        obtain ⟨hB_G_20, hq_21, f_24, -⟩ := hpo
        have hF := hF.call9 hq_21 rfl rfl
        refine lv_pop hx hb dX2_passBoth_39 rfl ?_
        refine lv_aload_n hx hb dX2_passBoth_40 rfl (lv_at hl 1 rfl) ?_
        refine lv_iload_n hx hb dX2_passBoth_41 rfl (lv_at hl 2 rfl) ?_
        refine S_calli (va_runV (As := [.int p0]) (rest := []) ⟨hx, hb, hml, hown, hts⟩ (k_fOne_2_s l D k A a z fn ln n E O hEb hOb hE hO G_20 p0 ⟨(by first | (clear f_6 c_7 hn_16 f_15 c_17 c_18 f_24; omega) | omega), (by first | (clear f_6 c_7 hn_16 f_15 c_17 c_18 f_24; omega) | omega)⟩ ((((hq_21.r9 4 1 rfl rfl).trans ((hq_9.r9 4 1 rfl rfl).trans (hq_3.r9 4 1 rfl rfl)))).trans (hv_4_1)) ((by first | (clear f_6 c_7 hn_16 f_15 c_17 c_18 f_24; omega) | omega))) (cwV 1 hts (gd_V hgd m829 m831 m18 m121 m832) rfl rfl rfl hd_X2_passOne ⟨show fn + 12 + 1 ≤ fn + 13 from by omega, show 8 + (2 + 11) + (ln + 258) ≤ ln + 279 from by omega⟩) (pre_W hW hB_G_20 hK hZ hS kd_4 rfl) rfl rfl hl.1 rfl (lv_room (Nat.le_of_ble_eq_true rfl)) dX2_passBoth_42 ⟨Nat.le_of_ble_eq_true rfl, Nat.le_of_ble_eq_true rfl⟩) hS (fun r_25 G_26 H locs hpo hW hS => ?_)
        have hX_29 : P_fOne_2_s E O p0 G_20 r_25 G_26 := hpo
        obtain ⟨hB_G_26, hq_27, f_30, -⟩ := hpo
        have hF := hF.call9 hq_27 rfl rfl
        refine lv_if_ne (tgt := 50) hx hb dX2_passBoth_45 rfl (fun c_31 => ?_) (fun c_31 => ?_)
        · have c_31 : r_25.toInt ≠ 0 := xI_ne rfl rfl c_31
          refine lv_aload_n hx hb dX2_passBoth_50 rfl (lv_at hl 1 rfl) ?_
          refine S_getV (n := 2) (C := RX2) (T := TX2) (N := 3) hx hb hg iX2 hown hK hW kd_4 rfl 1 (lt_b rfl) (hg (Cond.fieldLink RX2 15 "SlabWalk$Formulas" "paving" "LSlabWalk$Paving;") m302) (fun _ h9 => h9) rfl ((((hq_27.r9 4 1 rfl rfl).trans ((hq_21.r9 4 1 rfl rfl).trans ((hq_9.r9 4 1 rfl rfl).trans (hq_3.r9 4 1 rfl rfl))))).trans (hv_4_1)) dX2_passBoth_51 ?_
          refine lv_sipush (v := 145) hx hb dX2_passBoth_54 (by decide) ?_
          refine ic_0 hx hb dX2_passBoth_57 ?_
          refine S_callv (va_runV (As := [.int 145, .int 0]) (rest := []) ⟨hx, hb, hml, hown, hts⟩ (k_emit_2 l D k A a z G_26 145 0 ) (cwV 2 hts (gd_V hgd m855 m856 m857 m118 m858) rfl rfl rfl hd_X6_emit ⟨show 0 + 1 ≤ fn + 13 from by omega, show 8 + (3 + 11) + (0) ≤ ln + 279 from by omega⟩) (pre_W hW hB_G_26 hK hZ hS kd_2 rfl) rfl rfl hl.1 rfl (lv_room (Nat.le_of_ble_eq_true rfl)) dX2_passBoth_58 ⟨Nat.le_of_ble_eq_true rfl, Nat.le_of_ble_eq_true rfl⟩) hS (fun G_33 H locs hpo hW hS => ?_)
          have hX_36 : P_emit_2 145 0 G_26 G_33 := hpo
          obtain ⟨hB_G_33, hq_34, -⟩ := hpo
          have hF := hF.call9 hq_34 rfl rfl
          obtain ⟨y_37, ey_37⟩ : ∃ q, q = x_12 + 1 := ⟨_, rfl⟩
          have ty_37 : y_37.toInt = x_12.toInt + 1 := xI_add rfl rfl ey_37 ((by first | (clear ha_p0 hd f_6 c_7 hn_16 c_18 f_24 f_30 c_31; omega) | omega)) ((by first | (clear ha_p0 hd f_6 c_7 hn_16 c_18 f_24 f_30 c_31; omega) | omega))
          refine lv_iinc (v := y_37) (lv' := [(2, .int y_37), (0, .ref (a 4)), (1, .int p0)]) hx hb dX2_passBoth_61 hl (k := 0) rfl (by rw [ey_37]; rfl) (lt_b rfl) rfl (fun ls hl => ?_)
          refine lv_goto (tgt := 12) hx hb dX2_passBoth_64 rfl ?_
          exact ih_10 (1600 - y_37.toInt : Int).toNat ((by first | (clear ha_p0 hd f_6 c_7 c_18 f_24 f_30 c_31; omega) | omega)) _ _ _ ⟨G_33, y_37, (Int.toNat_of_nonneg ((by first | (clear ha_p0 hd f_6 c_7 hn_16 c_18 f_24 f_30 c_31; omega) | omega))), ⟨(by first | (clear ha_p0 hd f_6 c_7 hn_16 c_18 f_24 f_30 c_31; omega) | omega), (by first | (clear ha_p0 hd f_6 c_7 hn_16 c_18 f_24 f_30 c_31; omega) | omega)⟩, (hX_13.st (St_k_fBoth_2_s_1_mk ⟨x_12, G_8, y_37, G_33, rfl, rfl, f_15, hB_G_8, ⟨c_17, ⟨c_18, ⟨r_19, G_20, hX_23, ⟨r_25, G_26, hX_29, ⟨c_31, ⟨G_33, hX_36, ⟨y_37, ty_37, ⟨rfl, rfl⟩⟩⟩⟩⟩⟩⟩⟩⟩)), hW, hB_G_33, hF, (Fr.call9 (rs := [27]) (fs := [(2, 12), (2, 13), (3, 2), (3, 3), (3, 4), (3, 5), (3, 6), (3, 7), (3, 8), (4, 2)]) (Fr.call9 (rs := [27]) (fs := [(2, 12), (2, 13), (3, 2), (3, 3), (3, 4), (3, 5), (3, 6), (3, 7), (3, 8), (4, 2)]) (Fr.call9 (rs := [27]) (fs := [(2, 12), (2, 13), (3, 2), (3, 3), (3, 4), (3, 5), (3, 6), (3, 7), (3, 8), (4, 2)]) (Fr.call9 (rs := [27]) (fs := [(2, 12), (2, 13), (3, 2), (3, 3), (3, 4), (3, 5), (3, 6), (3, 7), (3, 8), (4, 2)]) Fr.rf hq_9 rfl rfl) hq_21 rfl rfl) hq_27 rfl rfl) hq_34 rfl rfl), hS, lv_sub hl [0, 1, 2] rfl⟩
        · have c_31 : r_25.toInt = 0 := xI_eq rfl rfl c_31
          refine ic_0 hx hb dX2_passBoth_48 ?_
          exact W.zret (v := 0) hx hb hr (by decide) (fun t ht _ => ⟨⟨0, G_26, rfl, (P_fBoth_2_s_mk ⟨hB_G_26, hF, ⟨by decide, by decide⟩, ⟨r_1, G_2, hX_5, (Or.inr ⟨c_7, ⟨x_12, G_8, hX_13, f_15, hB_G_8, hq_9, (Or.inr ⟨c_17, (Or.inl ⟨c_18, ⟨r_19, G_20, hX_23, ⟨r_25, G_26, hX_29, ⟨c_31, ⟨rfl, rfl⟩⟩⟩⟩⟩)⟩)⟩⟩)⟩⟩), wd_t ht hW⟩, hS.F ht⟩) hS.2.2 dX2_passBoth_49
  · have c_7 : r_1.toInt = 0 := xI_eq rfl rfl c_7
    refine ic_0 hx hb dX2_passBoth_8 ?_
    exact W.zret (v := 0) hx hb hr (by decide) (fun t ht _ => ⟨⟨0, G_2, rfl, (P_fBoth_2_s_mk ⟨hB_G_2, hF, ⟨by decide, by decide⟩, ⟨r_1, G_2, hX_5, (Or.inl ⟨c_7, ⟨rfl, rfl⟩⟩)⟩⟩), wd_t ht hW⟩, hS.F ht⟩) hS.2.2 dX2_passBoth_9

set_option maxHeartbeats 4000000 in
set_option maxRecDepth 100000 in
theorem k_fEither_2_s (l : Launch) (D : va_G) (k : KT) (A : Nat → Prop) (a : Nat → Nat) (z : SK) (fn ln n : Nat) (E O : XR) (hEb : ∀ (p0 : Int32) (G : GS) (r : Int32) (G1 : GS), E p0 G r G1 → Bd G1 ∧ Fr [27] [(2, 12), (2, 13), (3, 2), (3, 3), (3, 4), (3, 5), (3, 6), (3, 7), (3, 8), (4, 2)] G G1 ∧ (0 ≤ r.toInt ∧ r.toInt ≤ 1)) (hOb : ∀ (p0 : Int32) (G : GS) (r : Int32) (G1 : GS), O p0 G r G1 → Bd G1 ∧ Fr [27] [(2, 12), (2, 13), (3, 2), (3, 3), (3, 4), (3, 5), (3, 6), (3, 7), (3, 8), (4, 2)] G G1 ∧ (0 ≤ r.toInt ∧ r.toInt ≤ 1)) (hE : ∀ (G : GS) (p0 : Int32) (ha_p0 : 0 ≤ p0.toInt ∧ p0.toInt ≤ 7) (hv_4_1 : G.2.2 4 1 = 2) (hd : 8 ≤ p0.toInt + (n : Int)), Met l yX2_passEither (WS yX2_passEither cX2_passEither 3 (some .boolean)) ({ frames := fn + 2, cells := 0, slots := 0, locals := ln + 43 }) (va_Pc [.ref (a 4), .int p0] (cW D k A a z G)) (va_Qi (fun (r : Int32) (G1 : GS) => E p0 G r G1) (fun (G1 : GS) t => Wd D k A a G1 t.heap) A) 0 0 A) (hO : ∀ (G : GS) (p0 : Int32) (ha_p0 : 0 ≤ p0.toInt ∧ p0.toInt ≤ 7) (hv_4_1 : G.2.2 4 1 = 2) (hd : 8 ≤ p0.toInt + (n : Int)), Met l yX2_passOne (WS yX2_passOne cX2_passOne 2 (some .boolean)) ({ frames := fn + 0, cells := 0, slots := 0, locals := ln + 0 }) (va_Pc [.ref (a 4), .int p0] (cW D k A a z G)) (va_Qi (fun (r : Int32) (G1 : GS) => O p0 G r G1) (fun (G1 : GS) t => Wd D k A a G1 t.heap) A) 0 0 A) (G : GS) (p0 : Int32) (ha_p0 : 0 ≤ p0.toInt ∧ p0.toInt ≤ 7) (hv_4_1 : G.2.2 4 1 = 2) (hd : 8 ≤ p0.toInt + (n : Int) + 1) : Met l yX2_passEither (WS yX2_passEither cX2_passEither 3 (some .boolean)) ({ frames := fn + 14, cells := 0, slots := 0, locals := ln + 301 }) (va_Pc [.ref (a 4), .int p0] (cW D k A a z G)) (va_Qi (fun (r : Int32) (G1 : GS) => P_fEither_2_s E O p0 G r G1) (fun (G1 : GS) t => Wd D k A a G1 t.heap) A) 0 0 A := by
  refine Met.ofW (cc := cX2_passEither) (maxL := 3) (ret := (some .boolean)) (by decide) rfl ?_
  intro p e s m args below meth c s₁ B hml hv
  obtain ⟨rfl, hW, hB_G, hK, hZ⟩ := hv
  have hx := B.exec
  have hb := B.bytes
  have hr := B.returns
  have hts := atoms_spec (ws := WS yX2_passEither cX2_passEither 3 (some .boolean)) B.pre
  have hgd : ∀ w ∈ gd, w ∈ WS yX2_passEither cX2_passEither 3 (some .boolean) := fun w h => List.mem_cons_of_mem _ h
  have hg : ∀ w ∈ gd, w.before _ s = true := fun w h => hts w (hgd w h)
  have hown : s.vm.findClass RX2 = some m.cls := findClass_of_methodNamed B.named
  have hS : va_S A s.heap s.heap [] := va_S.rf
  have hF : Fr [27] [(2, 12), (2, 13), (3, 2), (3, 3), (3, 4), (3, 5), (3, 6), (3, 7), (3, 8), (4, 2)] G G := Fr.rf
  have hl := lv_entry ([.ref (a 4), .int p0]) (n := 3) (Nat.le_of_ble_eq_true rfl)
  rw [lg_entry_eq]
  generalize (lg_sl ([.ref (a 4), .int p0]) ++ List.replicate (3 - (lg_sl ([.ref (a 4), .int p0])).length) Slot.unset).toArray = ls at hl ⊢
  have hl : lv_has ls 3 [(0, .ref (a 4)), (1, .int p0)] := hl
  refine lv_aload_n hx hb dX2_passEither_0 rfl (lv_at hl 0 rfl) ?_
  refine lv_iload_n hx hb dX2_passEither_1 rfl (lv_at hl 1 rfl) ?_
  refine S_calli (va_runV (As := [.int p0]) (rest := []) ⟨hx, hb, hml, hown, hts⟩ (k_fBoth_2_s l D k A a z fn ln n E O hEb hOb hE hO G p0 ⟨by omega, by omega⟩ hv_4_1 (by omega)) (cwV 1 hts (gd_V hgd m825 m827 m17 m121 m828) rfl rfl rfl hd_X2_passBoth ⟨show fn + 13 + 1 ≤ fn + 14 from by omega, show 8 + (3 + 11) + (ln + 279) ≤ ln + 301 from by omega⟩) (pre_W hW hB_G hK hZ hS kd_4 rfl) rfl rfl hl.1 rfl (lv_room (Nat.le_of_ble_eq_true rfl)) dX2_passEither_2 ⟨Nat.le_of_ble_eq_true rfl, Nat.le_of_ble_eq_true rfl⟩) hS (fun r_1 G_2 H locs hpo hW hS => ?_)
  have hX_5 : P_fBoth_2_s E O p0 G r_1 G_2 := hpo
  obtain ⟨hB_G_2, hq_3, f_6, -⟩ := hpo
  have hF := hF.call9 hq_3 rfl rfl
  refine lv_if_ne (tgt := 10) hx hb dX2_passEither_5 rfl (fun c_7 => ?_) (fun c_7 => ?_)
  · have c_7 : r_1.toInt ≠ 0 := xI_ne rfl rfl c_7
    refine ic_0 hx hb dX2_passEither_10 ?_
    refine lv_istore_n (lv' := [(2, .int 0), (0, .ref (a 4)), (1, .int p0)]) hx hb dX2_passEither_11 rfl hl (lt_b rfl) rfl (fun ls hl => ?_)
    have qc_14 : (0 : Int32).toInt = 0 := rfl
    refine loop_N (Inv := fun n H locs ls => ∃ (G_8 : GS) (x_12 : Int32), (n : Int) = 1600 - x_12.toInt ∧ (0 ≤ x_12.toInt ∧ x_12.toInt ≤ 1600) ∧ Rc (St_k_fEither_2_s_1 E O p0) (0, G_2) (x_12, G_8) ∧ Wd D k A a G_8 H ∧ Bd G_8 ∧ Fr [27] [(2, 12), (2, 13), (3, 2), (3, 3), (3, 4), (3, 5), (3, 6), (3, 7), (3, 8), (4, 2)] G G_8 ∧ Fr [27] [(2, 12), (2, 13), (3, 2), (3, 3), (3, 4), (3, 5), (3, 6), (3, 7), (3, 8), (4, 2)] G_2 G_8 ∧ va_S A s.heap H locs ∧ lv_has ls 3 [(2, .int x_12), (0, .ref (a 4)), (1, .int p0)]) (fun n_11 H locs ls ih_10 hI => ?_) (1600 - 0 : Int).toNat ⟨G_2, 0, (Int.toNat_of_nonneg ((by first | (clear ha_p0 hd f_6 c_7; omega) | omega))), ⟨(by first | (clear ha_p0 hd f_6 c_7; omega) | omega), (by first | (clear ha_p0 hd f_6 c_7; omega) | omega)⟩, Rc.rf, hW, hB_G_2, hF, Fr.rf, hS, lv_sub hl [0, 1, 2] rfl⟩
    obtain ⟨G_8, x_12, hn_16, f_15, hX_13, hW, hB_G_8, hF, hq_9, hS, hl⟩ := hI
    refine lv_iload_n hx hb dX2_passEither_12 rfl (lv_at hl 0 rfl) ?_
    refine lv_sipush (v := 1600) hx hb dX2_passEither_13 (by decide) ?_
    refine lv_icmp_ge (tgt := 67) hx hb dX2_passEither_16 rfl (fun c_17 => ?_) (fun c_17 => ?_)
    · have c_17 : 1600 ≤ x_12.toInt := xI_le rfl rfl c_17
      refine ic_1 hx hb dX2_passEither_67 ?_
      exact W.zret (v := 1) hx hb hr (by decide) (fun t ht _ => ⟨⟨1, G_8, rfl, (P_fEither_2_s_mk ⟨hB_G_8, hF, ⟨by decide, by decide⟩, ⟨r_1, G_2, hX_5, (Or.inr ⟨c_7, ⟨x_12, G_8, hX_13, f_15, hB_G_8, hq_9, (Or.inl ⟨c_17, ⟨rfl, rfl⟩⟩)⟩⟩)⟩⟩), wd_t ht hW⟩, hS.F ht⟩) hS.2.2 dX2_passEither_68
    · have c_17 : x_12.toInt < 1600 := xI_nle rfl rfl c_17
      refine lv_aload_n hx hb dX2_passEither_19 rfl (lv_at hl 1 rfl) ?_
      refine S_getR (n := 3) (C := RX2) (T := TX2) (N := 3) hx hb hg iX2 hown hK hW kd_4 rfl 0 (lt_b rfl) (hg (Cond.fieldLink RX2 9 "SlabWalk$Formulas" "tokens" "LSlabWalk$Tokens;") m301) (fun _ h9 => h9) rfl dX2_passEither_20 ?_
      refine S_getI (v := (G_8.1 3 3)) (C := RX9) (T := TX9) (N := 9) hx hb hg iX9 hown hK hW kd_3 rfl 3 (lt_b rfl) (hg (Cond.fieldLink RX2 30 "SlabWalk$Tokens" "kind" "I") m263) (fun _ h9 => h9) rfl rfl dX2_passEither_23 ?_
      refine lv_sipush (v := 144) hx hb dX2_passEither_26 (by decide) ?_
      refine lv_icmp_ne (tgt := 67) hx hb dX2_passEither_29 rfl (fun c_18 => ?_) (fun c_18 => ?_)
      · have c_18 : (G_8.1 3 3).toInt ≠ 144 := xI_ne rfl rfl c_18
        refine ic_1 hx hb dX2_passEither_67 ?_
        exact W.zret (v := 1) hx hb hr (by decide) (fun t ht _ => ⟨⟨1, G_8, rfl, (P_fEither_2_s_mk ⟨hB_G_8, hF, ⟨by decide, by decide⟩, ⟨r_1, G_2, hX_5, (Or.inr ⟨c_7, ⟨x_12, G_8, hX_13, f_15, hB_G_8, hq_9, (Or.inr ⟨c_17, (Or.inr ⟨c_18, ⟨rfl, rfl⟩⟩)⟩)⟩⟩)⟩⟩), wd_t ht hW⟩, hS.F ht⟩) hS.2.2 dX2_passEither_68
      · have c_18 : (G_8.1 3 3).toInt = 144 := xI_eq rfl rfl c_18
        refine lv_aload_n hx hb dX2_passEither_32 rfl (lv_at hl 1 rfl) ?_
        refine S_getR (n := 3) (C := RX2) (T := TX2) (N := 3) hx hb hg iX2 hown hK hW kd_4 rfl 0 (lt_b rfl) (hg (Cond.fieldLink RX2 9 "SlabWalk$Formulas" "tokens" "LSlabWalk$Tokens;") m301) (fun _ h9 => h9) rfl dX2_passEither_33 ?_
        refine S_calli (va_runV (As := []) (rest := []) ⟨hx, hb, hml, hown, hts⟩ (k_tAdvance l D k A a z G_8  ) (cwV 0 hts (gd_V hgd m854 m639 m640 m120 m641) rfl rfl rfl hd_X9_advance ⟨show 6 + 1 ≤ fn + 14 from by omega, show 8 + (2 + 11) + (127) ≤ ln + 301 from by omega⟩) (pre_W hW hB_G_8 hK hZ hS kd_3 rfl) rfl rfl hl.1 rfl (lv_room (Nat.le_of_ble_eq_true rfl)) dX2_passEither_36 ⟨Nat.le_of_ble_eq_true rfl, Nat.le_of_ble_eq_true rfl⟩) hS (fun r_19 G_20 H locs hpo hW hS => ?_)
        have hX_23 : P_tAdvance G_8 r_19 G_20 := hpo
        obtain ⟨hB_G_20, hq_21, f_24, -⟩ := hpo
        have hF := hF.call9 hq_21 rfl rfl
        refine lv_pop hx hb dX2_passEither_39 rfl ?_
        refine lv_aload_n hx hb dX2_passEither_40 rfl (lv_at hl 1 rfl) ?_
        refine lv_iload_n hx hb dX2_passEither_41 rfl (lv_at hl 2 rfl) ?_
        refine S_calli (va_runV (As := [.int p0]) (rest := []) ⟨hx, hb, hml, hown, hts⟩ (k_fBoth_2_s l D k A a z fn ln n E O hEb hOb hE hO G_20 p0 ⟨(by first | (clear f_6 c_7 hn_16 f_15 c_17 c_18 f_24; omega) | omega), (by first | (clear f_6 c_7 hn_16 f_15 c_17 c_18 f_24; omega) | omega)⟩ ((((hq_21.r9 4 1 rfl rfl).trans ((hq_9.r9 4 1 rfl rfl).trans (hq_3.r9 4 1 rfl rfl)))).trans (hv_4_1)) ((by first | (clear f_6 c_7 hn_16 f_15 c_17 c_18 f_24; omega) | omega))) (cwV 1 hts (gd_V hgd m825 m827 m17 m121 m828) rfl rfl rfl hd_X2_passBoth ⟨show fn + 13 + 1 ≤ fn + 14 from by omega, show 8 + (3 + 11) + (ln + 279) ≤ ln + 301 from by omega⟩) (pre_W hW hB_G_20 hK hZ hS kd_4 rfl) rfl rfl hl.1 rfl (lv_room (Nat.le_of_ble_eq_true rfl)) dX2_passEither_42 ⟨Nat.le_of_ble_eq_true rfl, Nat.le_of_ble_eq_true rfl⟩) hS (fun r_25 G_26 H locs hpo hW hS => ?_)
        have hX_29 : P_fBoth_2_s E O p0 G_20 r_25 G_26 := hpo
        obtain ⟨hB_G_26, hq_27, f_30, -⟩ := hpo
        have hF := hF.call9 hq_27 rfl rfl
        refine lv_if_ne (tgt := 50) hx hb dX2_passEither_45 rfl (fun c_31 => ?_) (fun c_31 => ?_)
        · have c_31 : r_25.toInt ≠ 0 := xI_ne rfl rfl c_31
          refine lv_aload_n hx hb dX2_passEither_50 rfl (lv_at hl 1 rfl) ?_
          refine S_getV (n := 2) (C := RX2) (T := TX2) (N := 3) hx hb hg iX2 hown hK hW kd_4 rfl 1 (lt_b rfl) (hg (Cond.fieldLink RX2 15 "SlabWalk$Formulas" "paving" "LSlabWalk$Paving;") m302) (fun _ h9 => h9) rfl ((((hq_27.r9 4 1 rfl rfl).trans ((hq_21.r9 4 1 rfl rfl).trans ((hq_9.r9 4 1 rfl rfl).trans (hq_3.r9 4 1 rfl rfl))))).trans (hv_4_1)) dX2_passEither_51 ?_
          refine lv_sipush (v := 144) hx hb dX2_passEither_54 (by decide) ?_
          refine ic_0 hx hb dX2_passEither_57 ?_
          refine S_callv (va_runV (As := [.int 144, .int 0]) (rest := []) ⟨hx, hb, hml, hown, hts⟩ (k_emit_2 l D k A a z G_26 144 0 ) (cwV 2 hts (gd_V hgd m855 m856 m857 m118 m858) rfl rfl rfl hd_X6_emit ⟨show 0 + 1 ≤ fn + 14 from by omega, show 8 + (3 + 11) + (0) ≤ ln + 301 from by omega⟩) (pre_W hW hB_G_26 hK hZ hS kd_2 rfl) rfl rfl hl.1 rfl (lv_room (Nat.le_of_ble_eq_true rfl)) dX2_passEither_58 ⟨Nat.le_of_ble_eq_true rfl, Nat.le_of_ble_eq_true rfl⟩) hS (fun G_33 H locs hpo hW hS => ?_)
          have hX_36 : P_emit_2 144 0 G_26 G_33 := hpo
          obtain ⟨hB_G_33, hq_34, -⟩ := hpo
          have hF := hF.call9 hq_34 rfl rfl
          obtain ⟨y_37, ey_37⟩ : ∃ q, q = x_12 + 1 := ⟨_, rfl⟩
          have ty_37 : y_37.toInt = x_12.toInt + 1 := xI_add rfl rfl ey_37 ((by first | (clear ha_p0 hd f_6 c_7 hn_16 c_18 f_24 f_30 c_31; omega) | omega)) ((by first | (clear ha_p0 hd f_6 c_7 hn_16 c_18 f_24 f_30 c_31; omega) | omega))
          refine lv_iinc (v := y_37) (lv' := [(2, .int y_37), (0, .ref (a 4)), (1, .int p0)]) hx hb dX2_passEither_61 hl (k := 0) rfl (by rw [ey_37]; rfl) (lt_b rfl) rfl (fun ls hl => ?_)
          refine lv_goto (tgt := 12) hx hb dX2_passEither_64 rfl ?_
          exact ih_10 (1600 - y_37.toInt : Int).toNat ((by first | (clear ha_p0 hd f_6 c_7 c_18 f_24 f_30 c_31; omega) | omega)) _ _ _ ⟨G_33, y_37, (Int.toNat_of_nonneg ((by first | (clear ha_p0 hd f_6 c_7 hn_16 c_18 f_24 f_30 c_31; omega) | omega))), ⟨(by first | (clear ha_p0 hd f_6 c_7 hn_16 c_18 f_24 f_30 c_31; omega) | omega), (by first | (clear ha_p0 hd f_6 c_7 hn_16 c_18 f_24 f_30 c_31; omega) | omega)⟩, (hX_13.st (St_k_fEither_2_s_1_mk ⟨x_12, G_8, y_37, G_33, rfl, rfl, f_15, hB_G_8, ⟨c_17, ⟨c_18, ⟨r_19, G_20, hX_23, ⟨r_25, G_26, hX_29, ⟨c_31, ⟨G_33, hX_36, ⟨y_37, ty_37, ⟨rfl, rfl⟩⟩⟩⟩⟩⟩⟩⟩⟩)), hW, hB_G_33, hF, (Fr.call9 (rs := [27]) (fs := [(2, 12), (2, 13), (3, 2), (3, 3), (3, 4), (3, 5), (3, 6), (3, 7), (3, 8), (4, 2)]) (Fr.call9 (rs := [27]) (fs := [(2, 12), (2, 13), (3, 2), (3, 3), (3, 4), (3, 5), (3, 6), (3, 7), (3, 8), (4, 2)]) (Fr.call9 (rs := [27]) (fs := [(2, 12), (2, 13), (3, 2), (3, 3), (3, 4), (3, 5), (3, 6), (3, 7), (3, 8), (4, 2)]) (Fr.call9 (rs := [27]) (fs := [(2, 12), (2, 13), (3, 2), (3, 3), (3, 4), (3, 5), (3, 6), (3, 7), (3, 8), (4, 2)]) Fr.rf hq_9 rfl rfl) hq_21 rfl rfl) hq_27 rfl rfl) hq_34 rfl rfl), hS, lv_sub hl [0, 1, 2] rfl⟩
        · have c_31 : r_25.toInt = 0 := xI_eq rfl rfl c_31
          refine ic_0 hx hb dX2_passEither_48 ?_
          exact W.zret (v := 0) hx hb hr (by decide) (fun t ht _ => ⟨⟨0, G_26, rfl, (P_fEither_2_s_mk ⟨hB_G_26, hF, ⟨by decide, by decide⟩, ⟨r_1, G_2, hX_5, (Or.inr ⟨c_7, ⟨x_12, G_8, hX_13, f_15, hB_G_8, hq_9, (Or.inr ⟨c_17, (Or.inl ⟨c_18, ⟨r_19, G_20, hX_23, ⟨r_25, G_26, hX_29, ⟨c_31, ⟨rfl, rfl⟩⟩⟩⟩⟩)⟩)⟩⟩)⟩⟩), wd_t ht hW⟩, hS.F ht⟩) hS.2.2 dX2_passEither_49
  · have c_7 : r_1.toInt = 0 := xI_eq rfl rfl c_7
    refine ic_0 hx hb dX2_passEither_8 ?_
    exact W.zret (v := 0) hx hb hr (by decide) (fun t ht _ => ⟨⟨0, G_2, rfl, (P_fEither_2_s_mk ⟨hB_G_2, hF, ⟨by decide, by decide⟩, ⟨r_1, G_2, hX_5, (Or.inl ⟨c_7, ⟨rfl, rfl⟩⟩)⟩⟩), wd_t ht hW⟩, hS.F ht⟩) hS.2.2 dX2_passEither_9



theorem PPf_1_b1 (n : Nat) : ∀ (p0 : Int32) (G : GS) (r : Int32) (G1 : GS), (PPf_1 n).1 p0 G r G1 → Bd G1 ∧ Fr [17] [(1, 12), (1, 13), (3, 2), (3, 3), (3, 4), (3, 5), (3, 6), (3, 7), (3, 8), (4, 2)] G G1 ∧ (0 ≤ r.toInt ∧ r.toInt ≤ 1) := by
  intro p0 G r G1 h
  cases n with
  | zero => exact h.elim
  | succ n => exact ⟨h.1, h.2.1, h.2.2.1⟩
theorem PPf_1_b2 (n : Nat) : ∀ (p0 : Int32) (G : GS) (r : Int32) (G1 : GS), (PPf_1 n).2 p0 G r G1 → Bd G1 ∧ Fr [17] [(1, 12), (1, 13), (3, 2), (3, 3), (3, 4), (3, 5), (3, 6), (3, 7), (3, 8), (4, 2)] G G1 ∧ (0 ≤ r.toInt ∧ r.toInt ≤ 1) := by
  intro p0 G r G1 h
  cases n with
  | zero => exact h.elim
  | succ n => exact ⟨h.1, h.2.1, h.2.2.1⟩
theorem k_fGrp_1 (l : Launch) (D : va_G) (k : KT) (A : Nat → Prop) (a : Nat → Nat) (z : SK) (n : Nat) : (∀ (G : GS) (p0 : Int32) (ha_p0 : 0 ≤ p0.toInt ∧ p0.toInt ≤ 7) (hv_4_1 : G.2.2 4 1 = 1) (hd : 8 ≤ p0.toInt + (n : Int)), Met l yX2_passEither (WS yX2_passEither cX2_passEither 3 (some .boolean)) ({ frames := 12 * n + 2, cells := 0, slots := 0, locals := 258 * n + 43 }) (va_Pc [.ref (a 4), .int p0] (cW D k A a z G)) (va_Qi (fun (r : Int32) (G1 : GS) => (PPf_1 n).1 p0 G r G1) (fun (G1 : GS) t => Wd D k A a G1 t.heap) A) 0 0 A) ∧ (∀ (G : GS) (p0 : Int32) (ha_p0 : 0 ≤ p0.toInt ∧ p0.toInt ≤ 7) (hv_4_1 : G.2.2 4 1 = 1) (hd : 8 ≤ p0.toInt + (n : Int)), Met l yX2_passOne (WS yX2_passOne cX2_passOne 2 (some .boolean)) ({ frames := 12 * n, cells := 0, slots := 0, locals := 258 * n }) (va_Pc [.ref (a 4), .int p0] (cW D k A a z G)) (va_Qi (fun (r : Int32) (G1 : GS) => (PPf_1 n).2 p0 G r G1) (fun (G1 : GS) t => Wd D k A a G1 t.heap) A) 0 0 A) := by
  induction n with
  | zero => exact ⟨fun G p0 ha_p0 hv_4_1 hd => by exfalso; omega, fun G p0 ha_p0 hv_4_1 hd => by exfalso; omega⟩
  | succ n ih =>
    obtain ⟨hE, hO⟩ := ih
    refine ⟨fun G p0 ha_p0 hv_4_1 hd => ?_, fun G p0 ha_p0 hv_4_1 hd => ?_⟩
    · have h9 := k_fEither_1_s l D k A a z (12 * n) (258 * n) n (PPf_1 n).1 (PPf_1 n).2 (PPf_1_b1 n) (PPf_1_b2 n) (fun G p0 ha_p0 hv_4_1 hd => by have := hE G p0 ha_p0 hv_4_1 hd; exact this) (fun G p0 ha_p0 hv_4_1 hd => by have := hO G p0 ha_p0 hv_4_1 hd; exact this) G p0 ha_p0 hv_4_1 (by omega)
      rw [show 12 * n + 14 = 12 * (n + 1) + 2 by omega, show 258 * n + 301 = 258 * (n + 1) + 43 by omega] at h9
      exact h9
    · have h9 := k_fOne_1_s l D k A a z (12 * n) (258 * n) n (PPf_1 n).1 (PPf_1 n).2 (PPf_1_b1 n) (PPf_1_b2 n) (fun G p0 ha_p0 hv_4_1 hd => by have := hE G p0 ha_p0 hv_4_1 hd; exact this) (fun G p0 ha_p0 hv_4_1 hd => by have := hO G p0 ha_p0 hv_4_1 hd; exact this) G p0 ha_p0 hv_4_1 (by omega)
      rw [show 12 * n + 12 = 12 * (n + 1) by omega, show 258 * n + 258 = 258 * (n + 1) by omega] at h9
      exact h9
theorem k_fEither_1 (l : Launch) (D : va_G) (k : KT) (A : Nat → Prop) (a : Nat → Nat) (z : SK) (G : GS) (p0 : Int32) (ha_p0 : 0 ≤ p0.toInt ∧ p0.toInt ≤ 7) (hv_4_1 : G.2.2 4 1 = 1) : Met l yX2_passEither (WS yX2_passEither cX2_passEither 3 (some .boolean)) ({ frames := 98, cells := 0, slots := 0, locals := 2107 }) (va_Pc [.ref (a 4), .int p0] (cW D k A a z G)) (va_Qi (fun (r : Int32) (G1 : GS) => P_fEither_1 p0 G r G1) (fun (G1 : GS) t => Wd D k A a G1 t.heap) A) 0 0 A := by
  have h9 := k_fEither_1_s l D k A a z (12 * 7) (258 * 7) 7 (PPf_1 7).1 (PPf_1 7).2 (PPf_1_b1 7) (PPf_1_b2 7) (k_fGrp_1 l D k A a z 7).1 (k_fGrp_1 l D k A a z 7).2 G p0 ha_p0 hv_4_1 (by omega)
  exact h9


noncomputable def rbX2_read_0 : List (Nat × List Nat) := [(0, [42]), (1, [43]), (2, [181, 0, 15]), (5, [42]), (6, [3]), (7, [181, 0, 19]), (10, [42]), (11, [3]), (12, [182, 0, 23]), (15, [172])]
theorem rcX2_read_0 : dgo (lb cX2_read) 0 rbX2_read_0 = true := by decide +kernel
theorem dX2_read_0 : decode cX2_read 0 = .ok (.aload_n 0, 1) := dk_42 (dw rcX2_read_0 0 rfl)
theorem dX2_read_1 : decode cX2_read 1 = .ok (.aload_n 1, 1) := dk_43 (dw rcX2_read_0 1 rfl)
theorem dX2_read_2 : decode cX2_read 2 = .ok (.putfield 15, 3) := dk_181 (dw rcX2_read_0 2 rfl) rfl
theorem dX2_read_5 : decode cX2_read 5 = .ok (.aload_n 0, 1) := dk_42 (dw rcX2_read_0 3 rfl)
theorem dX2_read_6 : decode cX2_read 6 = .ok (.iconst 0, 1) := dk_3 (dw rcX2_read_0 4 rfl)
theorem dX2_read_7 : decode cX2_read 7 = .ok (.putfield 19, 3) := dk_181 (dw rcX2_read_0 5 rfl) rfl
theorem dX2_read_10 : decode cX2_read 10 = .ok (.aload_n 0, 1) := dk_42 (dw rcX2_read_0 6 rfl)
theorem dX2_read_11 : decode cX2_read 11 = .ok (.iconst 0, 1) := dk_3 (dw rcX2_read_0 7 rfl)
theorem dX2_read_12 : decode cX2_read 12 = .ok (.invokevirtual 23, 3) := dk_182 (dw rcX2_read_0 8 rfl) rfl
theorem dX2_read_15 : decode cX2_read 15 = .ok (.ireturn, 1) := dk_172 (dw rcX2_read_0 9 rfl)
set_option maxHeartbeats 4000000 in
set_option maxRecDepth 100000 in
theorem k_fRead_1 (l : Launch) (D : va_G) (k : KT) (A : Nat → Prop) (a : Nat → Nat) (z : SK) (G : GS)   : Met l yX2_read (WS yX2_read cX2_read 2 (some .boolean)) ({ frames := 99, cells := 0, slots := 0, locals := 2129 }) (va_Pc [.ref (a 4), .ref (a 1)] (cW D k A a z G)) (va_Qi (fun (r : Int32) (G1 : GS) => P_fRead_1 G r G1) (fun (G1 : GS) t => Wd D k A a G1 t.heap) A) 0 0 A := by
  refine Met.ofW (cc := cX2_read) (maxL := 2) (ret := (some .boolean)) (by decide) rfl ?_
  intro p e s m args below meth c s₁ B hml hv
  obtain ⟨rfl, hW, hB_G, hK, hZ⟩ := hv
  have hx := B.exec
  have hb := B.bytes
  have hr := B.returns
  have hts := atoms_spec (ws := WS yX2_read cX2_read 2 (some .boolean)) B.pre
  have hgd : ∀ w ∈ gd, w ∈ WS yX2_read cX2_read 2 (some .boolean) := fun w h => List.mem_cons_of_mem _ h
  have hg : ∀ w ∈ gd, w.before _ s = true := fun w h => hts w (hgd w h)
  have hown : s.vm.findClass RX2 = some m.cls := findClass_of_methodNamed B.named
  have hS : va_S A s.heap s.heap [] := va_S.rf
  have hF : Fr [17] [(1, 12), (1, 13), (3, 2), (3, 3), (3, 4), (3, 5), (3, 6), (3, 7), (3, 8), (4, 1), (4, 2)] G G := Fr.rf
  have hl := lv_entry ([.ref (a 4), .ref (a 1)]) (n := 2) (Nat.le_of_ble_eq_true rfl)
  rw [lg_entry_eq]
  generalize (lg_sl ([.ref (a 4), .ref (a 1)]) ++ List.replicate (2 - (lg_sl ([.ref (a 4), .ref (a 1)])).length) Slot.unset).toArray = ls at hl ⊢
  have hl : lv_has ls 2 [(0, .ref (a 4)), (1, .ref (a 1))] := hl
  refine lv_aload_n hx hb dX2_read_0 rfl (lv_at hl 0 rfl) ?_
  refine lv_aload_n hx hb dX2_read_1 rfl (lv_at hl 1 rfl) ?_
  refine S_putV (ty := .object "SlabWalk$Paving") (n := 1) (C := RX2) (T := TX2) (N := 3) hx hb hg iX2 tyX2 tyX2_ok nmX2 hown hK hW hS kd_4 rfl 1 (lt_b rfl) (hg (Cond.fieldLink RX2 15 "SlabWalk$Formulas" "paving" "LSlabWalk$Paving;") m302) (fun _ h9 => h9) rfl (by decide +kernel) rfl rfl rfl dX2_read_2 (fun G_1 H locs eG_1 hW hS => ?_)
  have hB_G_1 : Bd G_1 := hB_G.putr eG_1 (by decide) (by decide)
  have hF := hF.putr eG_1 (Or.inr (by decide))
  refine lv_aload_n hx hb dX2_read_5 rfl (lv_at hl 0 rfl) ?_
  refine ic_0 hx hb dX2_read_6 ?_
  refine S_putI (ty := .int) (C := RX2) (T := TX2) (N := 3) hx hb hg iX2 tyX2 tyX2_ok nmX2 hown hK hW hS kd_4 rfl 2 (lt_b rfl) (hg (Cond.fieldLink RX2 19 "SlabWalk$Formulas" "units" "I") m303) (fun _ h9 => h9) rfl (by decide +kernel) rfl rfl rfl dX2_read_7 (fun G_2 H locs eG_2 hW hS => ?_)
  have hB_G_2 : Bd G_2 := hB_G_1.put (V := 0) (lo := 0) (hi := 30) eG_2 rfl rfl rfl (by decide) (by decide) (hB_G_1.2.put eG_2 rfl)
  have hF := hF.put eG_2 (Or.inr (by decide))
  refine lv_aload_n hx hb dX2_read_10 rfl (lv_at hl 0 rfl) ?_
  refine ic_0 hx hb dX2_read_11 ?_
  refine S_calli (va_runV (As := [.int 0]) (rest := []) ⟨hx, hb, hml, hown, hts⟩ (k_fEither_1 l D k A a z G_2 0 ⟨by decide, by decide⟩ ((congrFun (congrFun (congrArg (fun q => q.2.2) eG_2) 4) 1).trans (gp_re eG_1))) (cwV 1 hts (gd_V hgd m821 m823 m16 m121 m824) rfl rfl rfl hd_X2_passEither ⟨Nat.le_of_ble_eq_true rfl, Nat.le_of_ble_eq_true rfl⟩) (pre_W hW hB_G_2 hK hZ hS kd_4 rfl) rfl rfl hl.1 rfl (lv_room (Nat.le_of_ble_eq_true rfl)) dX2_read_12 ⟨Nat.le_of_ble_eq_true rfl, Nat.le_of_ble_eq_true rfl⟩) hS (fun r_3 G_4 H locs hpo hW hS => ?_)
  have hX_7 : P_fEither_1 0 G_2 r_3 G_4 := hpo
  obtain ⟨hB_G_4, hq_5, f_8, -⟩ := hpo
  have hF := hF.call9 hq_5 rfl rfl
  exact W.zret (v := r_3) hx hb hr (nar_z (by omega) (by omega)) (fun t ht _ => ⟨⟨r_3, G_4, rfl, (P_fRead_1_mk ⟨hB_G_4, hF, ⟨by omega, by omega⟩, ⟨G_2, hB_G_2, (Fr.put (rs := []) (fs := [(4, 1), (4, 2)]) (Fr.putr (rs := []) (fs := [(4, 1), (4, 2)]) Fr.rf eG_1 (Or.inr (by decide))) eG_2 (Or.inr (by decide))), ((congrFun (congrFun (congrArg (fun q => q.2.2) eG_2) 4) 1).trans (gp_re eG_1)), (gp_eq eG_2), ⟨r_3, G_4, hX_7, ⟨rfl, rfl⟩⟩⟩⟩), wd_t ht hW⟩, hS.F ht⟩) hS.2.2 dX2_read_15



theorem PPf_2_b1 (n : Nat) : ∀ (p0 : Int32) (G : GS) (r : Int32) (G1 : GS), (PPf_2 n).1 p0 G r G1 → Bd G1 ∧ Fr [27] [(2, 12), (2, 13), (3, 2), (3, 3), (3, 4), (3, 5), (3, 6), (3, 7), (3, 8), (4, 2)] G G1 ∧ (0 ≤ r.toInt ∧ r.toInt ≤ 1) := by
  intro p0 G r G1 h
  cases n with
  | zero => exact h.elim
  | succ n => exact ⟨h.1, h.2.1, h.2.2.1⟩
theorem PPf_2_b2 (n : Nat) : ∀ (p0 : Int32) (G : GS) (r : Int32) (G1 : GS), (PPf_2 n).2 p0 G r G1 → Bd G1 ∧ Fr [27] [(2, 12), (2, 13), (3, 2), (3, 3), (3, 4), (3, 5), (3, 6), (3, 7), (3, 8), (4, 2)] G G1 ∧ (0 ≤ r.toInt ∧ r.toInt ≤ 1) := by
  intro p0 G r G1 h
  cases n with
  | zero => exact h.elim
  | succ n => exact ⟨h.1, h.2.1, h.2.2.1⟩
theorem k_fGrp_2 (l : Launch) (D : va_G) (k : KT) (A : Nat → Prop) (a : Nat → Nat) (z : SK) (n : Nat) : (∀ (G : GS) (p0 : Int32) (ha_p0 : 0 ≤ p0.toInt ∧ p0.toInt ≤ 7) (hv_4_1 : G.2.2 4 1 = 2) (hd : 8 ≤ p0.toInt + (n : Int)), Met l yX2_passEither (WS yX2_passEither cX2_passEither 3 (some .boolean)) ({ frames := 12 * n + 2, cells := 0, slots := 0, locals := 258 * n + 43 }) (va_Pc [.ref (a 4), .int p0] (cW D k A a z G)) (va_Qi (fun (r : Int32) (G1 : GS) => (PPf_2 n).1 p0 G r G1) (fun (G1 : GS) t => Wd D k A a G1 t.heap) A) 0 0 A) ∧ (∀ (G : GS) (p0 : Int32) (ha_p0 : 0 ≤ p0.toInt ∧ p0.toInt ≤ 7) (hv_4_1 : G.2.2 4 1 = 2) (hd : 8 ≤ p0.toInt + (n : Int)), Met l yX2_passOne (WS yX2_passOne cX2_passOne 2 (some .boolean)) ({ frames := 12 * n, cells := 0, slots := 0, locals := 258 * n }) (va_Pc [.ref (a 4), .int p0] (cW D k A a z G)) (va_Qi (fun (r : Int32) (G1 : GS) => (PPf_2 n).2 p0 G r G1) (fun (G1 : GS) t => Wd D k A a G1 t.heap) A) 0 0 A) := by
  induction n with
  | zero => exact ⟨fun G p0 ha_p0 hv_4_1 hd => by exfalso; omega, fun G p0 ha_p0 hv_4_1 hd => by exfalso; omega⟩
  | succ n ih =>
    obtain ⟨hE, hO⟩ := ih
    refine ⟨fun G p0 ha_p0 hv_4_1 hd => ?_, fun G p0 ha_p0 hv_4_1 hd => ?_⟩
    · have h9 := k_fEither_2_s l D k A a z (12 * n) (258 * n) n (PPf_2 n).1 (PPf_2 n).2 (PPf_2_b1 n) (PPf_2_b2 n) (fun G p0 ha_p0 hv_4_1 hd => by have := hE G p0 ha_p0 hv_4_1 hd; exact this) (fun G p0 ha_p0 hv_4_1 hd => by have := hO G p0 ha_p0 hv_4_1 hd; exact this) G p0 ha_p0 hv_4_1 (by omega)
      rw [show 12 * n + 14 = 12 * (n + 1) + 2 by omega, show 258 * n + 301 = 258 * (n + 1) + 43 by omega] at h9
      exact h9
    · have h9 := k_fOne_2_s l D k A a z (12 * n) (258 * n) n (PPf_2 n).1 (PPf_2 n).2 (PPf_2_b1 n) (PPf_2_b2 n) (fun G p0 ha_p0 hv_4_1 hd => by have := hE G p0 ha_p0 hv_4_1 hd; exact this) (fun G p0 ha_p0 hv_4_1 hd => by have := hO G p0 ha_p0 hv_4_1 hd; exact this) G p0 ha_p0 hv_4_1 (by omega)
      rw [show 12 * n + 12 = 12 * (n + 1) by omega, show 258 * n + 258 = 258 * (n + 1) by omega] at h9
      exact h9
theorem k_fEither_2 (l : Launch) (D : va_G) (k : KT) (A : Nat → Prop) (a : Nat → Nat) (z : SK) (G : GS) (p0 : Int32) (ha_p0 : 0 ≤ p0.toInt ∧ p0.toInt ≤ 7) (hv_4_1 : G.2.2 4 1 = 2) : Met l yX2_passEither (WS yX2_passEither cX2_passEither 3 (some .boolean)) ({ frames := 98, cells := 0, slots := 0, locals := 2107 }) (va_Pc [.ref (a 4), .int p0] (cW D k A a z G)) (va_Qi (fun (r : Int32) (G1 : GS) => P_fEither_2 p0 G r G1) (fun (G1 : GS) t => Wd D k A a G1 t.heap) A) 0 0 A := by
  have h9 := k_fEither_2_s l D k A a z (12 * 7) (258 * 7) 7 (PPf_2 7).1 (PPf_2 7).2 (PPf_2_b1 7) (PPf_2_b2 7) (k_fGrp_2 l D k A a z 7).1 (k_fGrp_2 l D k A a z 7).2 G p0 ha_p0 hv_4_1 (by omega)
  exact h9



set_option maxHeartbeats 4000000 in
set_option maxRecDepth 100000 in
theorem k_fRead_2 (l : Launch) (D : va_G) (k : KT) (A : Nat → Prop) (a : Nat → Nat) (z : SK) (G : GS)   : Met l yX2_read (WS yX2_read cX2_read 2 (some .boolean)) ({ frames := 99, cells := 0, slots := 0, locals := 2129 }) (va_Pc [.ref (a 4), .ref (a 2)] (cW D k A a z G)) (va_Qi (fun (r : Int32) (G1 : GS) => P_fRead_2 G r G1) (fun (G1 : GS) t => Wd D k A a G1 t.heap) A) 0 0 A := by
  refine Met.ofW (cc := cX2_read) (maxL := 2) (ret := (some .boolean)) (by decide) rfl ?_
  intro p e s m args below meth c s₁ B hml hv
  obtain ⟨rfl, hW, hB_G, hK, hZ⟩ := hv
  have hx := B.exec
  have hb := B.bytes
  have hr := B.returns
  have hts := atoms_spec (ws := WS yX2_read cX2_read 2 (some .boolean)) B.pre
  have hgd : ∀ w ∈ gd, w ∈ WS yX2_read cX2_read 2 (some .boolean) := fun w h => List.mem_cons_of_mem _ h
  have hg : ∀ w ∈ gd, w.before _ s = true := fun w h => hts w (hgd w h)
  have hown : s.vm.findClass RX2 = some m.cls := findClass_of_methodNamed B.named
  have hS : va_S A s.heap s.heap [] := va_S.rf
  have hF : Fr [27] [(2, 12), (2, 13), (3, 2), (3, 3), (3, 4), (3, 5), (3, 6), (3, 7), (3, 8), (4, 1), (4, 2)] G G := Fr.rf
  have hl := lv_entry ([.ref (a 4), .ref (a 2)]) (n := 2) (Nat.le_of_ble_eq_true rfl)
  rw [lg_entry_eq]
  generalize (lg_sl ([.ref (a 4), .ref (a 2)]) ++ List.replicate (2 - (lg_sl ([.ref (a 4), .ref (a 2)])).length) Slot.unset).toArray = ls at hl ⊢
  have hl : lv_has ls 2 [(0, .ref (a 4)), (1, .ref (a 2))] := hl
  refine lv_aload_n hx hb dX2_read_0 rfl (lv_at hl 0 rfl) ?_
  refine lv_aload_n hx hb dX2_read_1 rfl (lv_at hl 1 rfl) ?_
  refine S_putV (ty := .object "SlabWalk$Paving") (n := 2) (C := RX2) (T := TX2) (N := 3) hx hb hg iX2 tyX2 tyX2_ok nmX2 hown hK hW hS kd_4 rfl 1 (lt_b rfl) (hg (Cond.fieldLink RX2 15 "SlabWalk$Formulas" "paving" "LSlabWalk$Paving;") m302) (fun _ h9 => h9) rfl (by decide +kernel) rfl rfl rfl dX2_read_2 (fun G_1 H locs eG_1 hW hS => ?_)
  have hB_G_1 : Bd G_1 := hB_G.putr eG_1 (by decide) (by decide)
  have hF := hF.putr eG_1 (Or.inr (by decide))
  refine lv_aload_n hx hb dX2_read_5 rfl (lv_at hl 0 rfl) ?_
  refine ic_0 hx hb dX2_read_6 ?_
  refine S_putI (ty := .int) (C := RX2) (T := TX2) (N := 3) hx hb hg iX2 tyX2 tyX2_ok nmX2 hown hK hW hS kd_4 rfl 2 (lt_b rfl) (hg (Cond.fieldLink RX2 19 "SlabWalk$Formulas" "units" "I") m303) (fun _ h9 => h9) rfl (by decide +kernel) rfl rfl rfl dX2_read_7 (fun G_2 H locs eG_2 hW hS => ?_)
  have hB_G_2 : Bd G_2 := hB_G_1.put (V := 0) (lo := 0) (hi := 30) eG_2 rfl rfl rfl (by decide) (by decide) (hB_G_1.2.put eG_2 rfl)
  have hF := hF.put eG_2 (Or.inr (by decide))
  refine lv_aload_n hx hb dX2_read_10 rfl (lv_at hl 0 rfl) ?_
  refine ic_0 hx hb dX2_read_11 ?_
  refine S_calli (va_runV (As := [.int 0]) (rest := []) ⟨hx, hb, hml, hown, hts⟩ (k_fEither_2 l D k A a z G_2 0 ⟨by decide, by decide⟩ ((congrFun (congrFun (congrArg (fun q => q.2.2) eG_2) 4) 1).trans (gp_re eG_1))) (cwV 1 hts (gd_V hgd m821 m823 m16 m121 m824) rfl rfl rfl hd_X2_passEither ⟨Nat.le_of_ble_eq_true rfl, Nat.le_of_ble_eq_true rfl⟩) (pre_W hW hB_G_2 hK hZ hS kd_4 rfl) rfl rfl hl.1 rfl (lv_room (Nat.le_of_ble_eq_true rfl)) dX2_read_12 ⟨Nat.le_of_ble_eq_true rfl, Nat.le_of_ble_eq_true rfl⟩) hS (fun r_3 G_4 H locs hpo hW hS => ?_)
  have hX_7 : P_fEither_2 0 G_2 r_3 G_4 := hpo
  obtain ⟨hB_G_4, hq_5, f_8, -⟩ := hpo
  have hF := hF.call9 hq_5 rfl rfl
  exact W.zret (v := r_3) hx hb hr (nar_z (by omega) (by omega)) (fun t ht _ => ⟨⟨r_3, G_4, rfl, (P_fRead_2_mk ⟨hB_G_4, hF, ⟨by omega, by omega⟩, ⟨G_2, hB_G_2, (Fr.put (rs := []) (fs := [(4, 1), (4, 2)]) (Fr.putr (rs := []) (fs := [(4, 1), (4, 2)]) Fr.rf eG_1 (Or.inr (by decide))) eG_2 (Or.inr (by decide))), ((congrFun (congrFun (congrArg (fun q => q.2.2) eG_2) 4) 1).trans (gp_re eG_1)), (gp_eq eG_2), ⟨r_3, G_4, hX_7, ⟨rfl, rfl⟩⟩⟩⟩), wd_t ht hW⟩, hS.F ht⟩) hS.2.2 dX2_read_15
