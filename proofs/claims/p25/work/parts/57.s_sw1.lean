theorem m27 : Cond.selects RX11 yX11_today yX11_today ∈ gd := gds_2 11 rfl
theorem m31 : Cond.selects RX11 yX11_canAsk yX11_canAsk ∈ gd := gds_2 15 rfl
theorem m42 : Cond.selects RX11 yX11_leavesWay yX11_leavesWay ∈ gd := gds_3 10 rfl
theorem m46 : Cond.selects RX11 yX11_isLawfulSight yX11_isLawfulSight ∈ gd := gds_3 14 rfl
theorem m117 : Cond.initialized RX11 ∈ gd := gdc_1_0 1 rfl gw_initialized
theorem m128 : Cond.initialized RX8 ∈ gd := gdc_1_0 12 rfl gw_initialized
theorem m169 : Cond.fieldLink RX11 331 "SlabWalk$Paving" "least" "[I" ∈ gd := gdc_1_3 5 rfl gw_fieldLink
theorem m173 : Cond.fieldLink RX11 237 "SlabWalk$Paving" "most" "[I" ∈ gd := gdc_1_3 9 rfl gw_fieldLink
theorem m177 : Cond.fieldLink RX11 333 "SlabWalk$Paving" "leap" "[I" ∈ gd := gdc_1_3 13 rfl gw_fieldLink
theorem m195 : Cond.fieldLink RX11 228 "SlabWalk$Paving" "rules" "I" ∈ gd := gdc_1_4 15 rfl gw_fieldLink
theorem m209 : Cond.fieldLink RX11 323 "SlabWalk$Paving" "draw" "I" ∈ gd := gdc_1_5 13 rfl gw_fieldLink
theorem m444 : Cond.fieldLink RX11 347 "SlabWalk$Trails" "winning" "[I" ∈ gd := gdc_2_5 8 rfl gw_fieldLink
theorem m446 : Cond.fieldLink RX11 353 "SlabWalk$Trails" "leaving" "[Z" ∈ gd := gdc_2_5 10 rfl gw_fieldLink
theorem m521 : Cond.fieldLink RX11 365 "SlabWalk$Sights" "walker" "[I" ∈ gd := gdc_2_10 5 rfl gw_fieldLink
theorem m523 : Cond.fieldLink RX11 362 "SlabWalk$Sights" "street" "[I" ∈ gd := gdc_2_10 7 rfl gw_fieldLink
theorem m525 : Cond.fieldLink RX11 359 "SlabWalk$Sights" "heel" "[I" ∈ gd := gdc_2_10 9 rfl gw_fieldLink
theorem m529 : Cond.fieldLink RX11 285 "SlabWalk$Sights" "count" "I" ∈ gd := gdc_2_10 13 rfl gw_fieldLink
theorem m551 : Cond.methodLink RX11 320 yX3_lookAt ∈ gd := gdc_2_12 3 rfl gw_methodLink
theorem m552 : Cond.instanceMethod yX3_lookAt ∈ gd := gdc_2_12 4 rfl gw_instanceMethod
theorem m553 : Cond.selects RX3 yX3_lookAt yX3_lookAt ∈ gd := gdc_2_12 5 rfl gw_selects
theorem m554 : Cond.code yX3_lookAt cX3_lookAt 2 none ∈ gd := gdc_2_12 6 rfl gw_code
theorem m558 : Cond.methodLink RX11 326 yX1_startAnew ∈ gd := gdc_2_12 10 rfl gw_methodLink
theorem m559 : Cond.instanceMethod yX1_startAnew ∈ gd := gdc_2_12 11 rfl gw_instanceMethod
theorem m560 : Cond.selects RX1 yX1_startAnew yX1_startAnew ∈ gd := gdc_2_12 12 rfl gw_selects
theorem m561 : Cond.code yX1_startAnew cX1_startAnew 2 none ∈ gd := gdc_2_12 13 rfl gw_code
theorem m570 : Cond.fieldLink RX11 10 "SlabWalk" "paving" "LSlabWalk$Paving;" ∈ gd := gdc_2_13 6 rfl gw_fieldLink
theorem m574 : Cond.fieldLink RX11 37 "SlabWalk" "lines" "LSlabWalk$Lines;" ∈ gd := gdc_2_13 10 rfl gw_fieldLink
theorem m575 : Cond.fieldLink RX11 44 "SlabWalk" "course" "LSlabWalk$Course;" ∈ gd := gdc_2_13 11 rfl gw_fieldLink
theorem m576 : Cond.fieldLink RX11 51 "SlabWalk" "trails" "LSlabWalk$Trails;" ∈ gd := gdc_2_13 12 rfl gw_fieldLink
theorem m579 : Cond.fieldLink RX11 72 "SlabWalk" "sights" "LSlabWalk$Sights;" ∈ gd := gdc_2_13 15 rfl gw_fieldLink
theorem m902 : Cond.methodLink RX11 121 yX6_hasStreet ∈ gd := gdc_4_4 2 rfl gw_methodLink
theorem m907 : Cond.methodLink RX11 128 yX6_hasSet ∈ gd := gdc_4_4 7 rfl gw_methodLink
theorem m908 : Cond.instanceMethod yX6_hasSet ∈ gd := gdc_4_4 8 rfl gw_instanceMethod
theorem m909 : Cond.selects RX6 yX6_hasSet yX6_hasSet ∈ gd := gdc_4_4 9 rfl gw_selects
theorem m910 : Cond.code yX6_hasSet cX6_hasSet 2 (some .boolean) ∈ gd := gdc_4_4 10 rfl gw_code
theorem m911 : Cond.methodLink RX11 131 yX11_today ∈ gd := gdc_4_4 11 rfl gw_methodLink
theorem m913 : Cond.instanceMethod yX11_today ∈ gd := gdc_4_4 13 rfl gw_instanceMethod
theorem m914 : Cond.code yX11_today cX11_today 1 (some .int) ∈ gd := gdc_4_4 14 rfl gw_code
theorem m915 : Cond.methodLink RX11 135 yX3_findFor ∈ gd := gdc_4_4 15 rfl gw_methodLink
theorem m916 : Cond.instanceMethod yX3_findFor ∈ gd := gdc_4_5 0 rfl gw_instanceMethod
theorem m917 : Cond.selects RX3 yX3_findFor yX3_findFor ∈ gd := gdc_4_5 1 rfl gw_selects
theorem m918 : Cond.code yX3_findFor cX3_findFor 7 none ∈ gd := gdc_4_5 2 rfl gw_code
theorem m953 : Cond.methodLink RX11 143 yX11_canAsk ∈ gd := gdc_4_7 5 rfl gw_methodLink
theorem m955 : Cond.instanceMethod yX11_canAsk ∈ gd := gdc_4_7 7 rfl gw_instanceMethod
theorem m956 : Cond.code yX11_canAsk cX11_canAsk 4 (some .boolean) ∈ gd := gdc_4_7 8 rfl gw_code
theorem m957 : Cond.methodLink RX11 328 yX6_hasWalker ∈ gd := gdc_4_7 9 rfl gw_methodLink
theorem m961 : Cond.methodLink RX11 146 yX3_isLawful ∈ gd := gdc_4_7 13 rfl gw_methodLink
theorem m962 : Cond.instanceMethod yX3_isLawful ∈ gd := gdc_4_7 14 rfl gw_instanceMethod
theorem m963 : Cond.selects RX3 yX3_isLawful yX3_isLawful ∈ gd := gdc_4_7 15 rfl gw_selects
theorem m964 : Cond.code yX3_isLawful cX3_isLawful 6 (some .boolean) ∈ gd := gdc_4_8 0 rfl gw_code
theorem m979 : Cond.methodLink RX11 336 yX0_lookAt ∈ gd := gdc_4_8 15 rfl gw_methodLink
theorem m980 : Cond.instanceMethod yX0_lookAt ∈ gd := gdc_4_9 0 rfl gw_instanceMethod
theorem m981 : Cond.selects RX0 yX0_lookAt yX0_lookAt ∈ gd := gdc_4_9 1 rfl gw_selects
theorem m982 : Cond.code yX0_lookAt cX0_lookAt 4 none ∈ gd := gdc_4_9 2 rfl gw_code
theorem m984 : Cond.methodLink RX11 339 yX0_findLawful ∈ gd := gdc_4_9 4 rfl gw_methodLink
theorem m985 : Cond.instanceMethod yX0_findLawful ∈ gd := gdc_4_9 5 rfl gw_instanceMethod
theorem m986 : Cond.selects RX0 yX0_findLawful yX0_findLawful ∈ gd := gdc_4_9 6 rfl gw_selects
theorem m987 : Cond.code yX0_findLawful cX0_findLawful 6 none ∈ gd := gdc_4_9 7 rfl gw_code
theorem m1121 : Cond.methodLink RX11 234 yX6_stands ∈ gd := gdc_5_2 13 rfl gw_methodLink
theorem m1150 : Cond.methodLink RX11 350 yX10_winningFrom ∈ gd := gdc_5_4 10 rfl gw_methodLink
theorem m1151 : Cond.instanceMethod yX10_winningFrom ∈ gd := gdc_5_4 11 rfl gw_instanceMethod
theorem m1152 : Cond.selects RX10 yX10_winningFrom yX10_winningFrom ∈ gd := gdc_5_4 12 rfl gw_selects
theorem m1153 : Cond.code yX10_winningFrom cX10_winningFrom 5 (some .int) ∈ gd := gdc_5_4 13 rfl gw_code
theorem m1154 : Cond.methodLink RX11 231 yX11_leavesWay ∈ gd := gdc_5_4 14 rfl gw_methodLink
theorem m1156 : Cond.instanceMethod yX11_leavesWay ∈ gd := gdc_5_5 0 rfl gw_instanceMethod
theorem m1157 : Cond.code yX11_leavesWay cX11_leavesWay 3 (some .boolean) ∈ gd := gdc_5_5 1 rfl gw_code
theorem m1158 : Cond.methodLink RX11 343 yX10_isThereWay ∈ gd := gdc_5_5 2 rfl gw_methodLink
theorem m1159 : Cond.instanceMethod yX10_isThereWay ∈ gd := gdc_5_5 3 rfl gw_instanceMethod
theorem m1160 : Cond.selects RX10 yX10_isThereWay yX10_isThereWay ∈ gd := gdc_5_5 4 rfl gw_selects
theorem m1161 : Cond.code yX10_isThereWay cX10_isThereWay 8 (some .boolean) ∈ gd := gdc_5_5 5 rfl gw_code
theorem m1271 : Cond.methodLink RX11 288 yX8_counts ∈ gd := gdc_5_12 3 rfl gw_methodLink
theorem m1272 : Cond.instanceMethod yX8_counts ∈ gd := gdc_5_12 4 rfl gw_instanceMethod
theorem m1273 : Cond.selects RX8 yX8_counts yX8_counts ∈ gd := gdc_5_12 5 rfl gw_selects
theorem m1274 : Cond.code yX8_counts cX8_counts 3 (some .boolean) ∈ gd := gdc_5_12 6 rfl gw_code
theorem m1275 : Cond.methodLink RX11 356 yX11_isLawfulSight ∈ gd := gdc_5_12 7 rfl gw_methodLink
theorem m1277 : Cond.instanceMethod yX11_isLawfulSight ∈ gd := gdc_5_12 9 rfl gw_instanceMethod
theorem m1278 : Cond.code yX11_isLawfulSight cX11_isLawfulSight 5 (some .boolean) ∈ gd := gdc_5_12 10 rfl gw_code
noncomputable def rbX11_canAsk_0 : List (Nat × List Nat) := [(0, [42]), (1, [180, 0, 10]), (4, [27]), (5, [182, 1, 72]), (8, [153, 0, 29]), (11, [42]), (12, [180, 0, 10]), (15, [28]), (16, [182, 0, 121]), (19, [153, 0, 18]), (22, [42]), (23, [180, 0, 10]), (26, [29]), (27, [182, 0, 128]), (30, [153, 0, 7]), (33, [4]), (34, [167, 0, 4]), (37, [3]), (38, [172])]
theorem rcX11_canAsk_0 : dgo (lb cX11_canAsk) 0 rbX11_canAsk_0 = true := by decide +kernel
theorem dX11_canAsk_0 : decode cX11_canAsk 0 = .ok (.aload_n 0, 1) := dk_42 (dw rcX11_canAsk_0 0 rfl)
theorem dX11_canAsk_1 : decode cX11_canAsk 1 = .ok (.getfield 10, 3) := dk_180 (dw rcX11_canAsk_0 1 rfl) rfl
theorem dX11_canAsk_4 : decode cX11_canAsk 4 = .ok (.iload_n 1, 1) := dk_27 (dw rcX11_canAsk_0 2 rfl)
theorem dX11_canAsk_5 : decode cX11_canAsk 5 = .ok (.invokevirtual 328, 3) := dk_182 (dw rcX11_canAsk_0 3 rfl) rfl
theorem dX11_canAsk_8 : decode cX11_canAsk 8 = .ok (.ifCond .eq 29, 3) := dk_153 (dw rcX11_canAsk_0 4 rfl) rfl
theorem dX11_canAsk_11 : decode cX11_canAsk 11 = .ok (.aload_n 0, 1) := dk_42 (dw rcX11_canAsk_0 5 rfl)
theorem dX11_canAsk_12 : decode cX11_canAsk 12 = .ok (.getfield 10, 3) := dk_180 (dw rcX11_canAsk_0 6 rfl) rfl
theorem dX11_canAsk_15 : decode cX11_canAsk 15 = .ok (.iload_n 2, 1) := dk_28 (dw rcX11_canAsk_0 7 rfl)
theorem dX11_canAsk_16 : decode cX11_canAsk 16 = .ok (.invokevirtual 121, 3) := dk_182 (dw rcX11_canAsk_0 8 rfl) rfl
theorem dX11_canAsk_19 : decode cX11_canAsk 19 = .ok (.ifCond .eq 18, 3) := dk_153 (dw rcX11_canAsk_0 9 rfl) rfl
theorem dX11_canAsk_22 : decode cX11_canAsk 22 = .ok (.aload_n 0, 1) := dk_42 (dw rcX11_canAsk_0 10 rfl)
theorem dX11_canAsk_23 : decode cX11_canAsk 23 = .ok (.getfield 10, 3) := dk_180 (dw rcX11_canAsk_0 11 rfl) rfl
theorem dX11_canAsk_26 : decode cX11_canAsk 26 = .ok (.iload_n 3, 1) := dk_29 (dw rcX11_canAsk_0 12 rfl)
theorem dX11_canAsk_27 : decode cX11_canAsk 27 = .ok (.invokevirtual 128, 3) := dk_182 (dw rcX11_canAsk_0 13 rfl) rfl
theorem dX11_canAsk_30 : decode cX11_canAsk 30 = .ok (.ifCond .eq 7, 3) := dk_153 (dw rcX11_canAsk_0 14 rfl) rfl
theorem dX11_canAsk_33 : decode cX11_canAsk 33 = .ok (.iconst 1, 1) := dk_4 (dw rcX11_canAsk_0 15 rfl)
theorem dX11_canAsk_34 : decode cX11_canAsk 34 = .ok (.goto 4, 3) := dk_167 (dw rcX11_canAsk_0 16 rfl) rfl
theorem dX11_canAsk_37 : decode cX11_canAsk 37 = .ok (.iconst 0, 1) := dk_3 (dw rcX11_canAsk_0 17 rfl)
theorem dX11_canAsk_38 : decode cX11_canAsk 38 = .ok (.ireturn, 1) := dk_172 (dw rcX11_canAsk_0 18 rfl)
noncomputable def rbX11_canBeBrave_0 : List (Nat × List Nat) := [(0, [42]), (1, [27]), (2, [28]), (3, [29]), (4, [182, 0, 143]), (7, [153, 0, 34]), (10, [42]), (11, [180, 0, 10]), (14, [27]), (15, [28]), (16, [21, 4]), (18, [182, 0, 234]), (21, [153, 0, 20]), (24, [21, 5]), (26, [4]), (27, [161, 0, 14]), (30, [21, 5]), (32, [16, 8]), (34, [163, 0, 7]), (37, [4]), (38, [167, 0, 4]), (41, [3]), (42, [172])]
theorem rcX11_canBeBrave_0 : dgo (lb cX11_canBeBrave) 0 rbX11_canBeBrave_0 = true := by decide +kernel
theorem dX11_canBeBrave_0 : decode cX11_canBeBrave 0 = .ok (.aload_n 0, 1) := dk_42 (dw rcX11_canBeBrave_0 0 rfl)
theorem dX11_canBeBrave_1 : decode cX11_canBeBrave 1 = .ok (.iload_n 1, 1) := dk_27 (dw rcX11_canBeBrave_0 1 rfl)
theorem dX11_canBeBrave_2 : decode cX11_canBeBrave 2 = .ok (.iload_n 2, 1) := dk_28 (dw rcX11_canBeBrave_0 2 rfl)
theorem dX11_canBeBrave_3 : decode cX11_canBeBrave 3 = .ok (.iload_n 3, 1) := dk_29 (dw rcX11_canBeBrave_0 3 rfl)
theorem dX11_canBeBrave_4 : decode cX11_canBeBrave 4 = .ok (.invokevirtual 143, 3) := dk_182 (dw rcX11_canBeBrave_0 4 rfl) rfl
theorem dX11_canBeBrave_7 : decode cX11_canBeBrave 7 = .ok (.ifCond .eq 34, 3) := dk_153 (dw rcX11_canBeBrave_0 5 rfl) rfl
theorem dX11_canBeBrave_10 : decode cX11_canBeBrave 10 = .ok (.aload_n 0, 1) := dk_42 (dw rcX11_canBeBrave_0 6 rfl)
theorem dX11_canBeBrave_11 : decode cX11_canBeBrave 11 = .ok (.getfield 10, 3) := dk_180 (dw rcX11_canBeBrave_0 7 rfl) rfl
theorem dX11_canBeBrave_14 : decode cX11_canBeBrave 14 = .ok (.iload_n 1, 1) := dk_27 (dw rcX11_canBeBrave_0 8 rfl)
theorem dX11_canBeBrave_15 : decode cX11_canBeBrave 15 = .ok (.iload_n 2, 1) := dk_28 (dw rcX11_canBeBrave_0 9 rfl)
theorem dX11_canBeBrave_16 : decode cX11_canBeBrave 16 = .ok (.iload 4, 2) := dk_21 (dw rcX11_canBeBrave_0 10 rfl)
theorem dX11_canBeBrave_18 : decode cX11_canBeBrave 18 = .ok (.invokevirtual 234, 3) := dk_182 (dw rcX11_canBeBrave_0 11 rfl) rfl
theorem dX11_canBeBrave_21 : decode cX11_canBeBrave 21 = .ok (.ifCond .eq 20, 3) := dk_153 (dw rcX11_canBeBrave_0 12 rfl) rfl
theorem dX11_canBeBrave_24 : decode cX11_canBeBrave 24 = .ok (.iload 5, 2) := dk_21 (dw rcX11_canBeBrave_0 13 rfl)
theorem dX11_canBeBrave_26 : decode cX11_canBeBrave 26 = .ok (.iconst 1, 1) := dk_4 (dw rcX11_canBeBrave_0 14 rfl)
theorem dX11_canBeBrave_27 : decode cX11_canBeBrave 27 = .ok (.if_icmp .lt 14, 3) := dk_161 (dw rcX11_canBeBrave_0 15 rfl) rfl
theorem dX11_canBeBrave_30 : decode cX11_canBeBrave 30 = .ok (.iload 5, 2) := dk_21 (dw rcX11_canBeBrave_0 16 rfl)
theorem dX11_canBeBrave_32 : decode cX11_canBeBrave 32 = .ok (.bipush 8, 2) := dk_16 (dw rcX11_canBeBrave_0 17 rfl) rfl
theorem dX11_canBeBrave_34 : decode cX11_canBeBrave 34 = .ok (.if_icmp .gt 7, 3) := dk_163 (dw rcX11_canBeBrave_0 18 rfl) rfl
theorem dX11_canBeBrave_37 : decode cX11_canBeBrave 37 = .ok (.iconst 1, 1) := dk_4 (dw rcX11_canBeBrave_0 19 rfl)
theorem dX11_canBeBrave_38 : decode cX11_canBeBrave 38 = .ok (.goto 4, 3) := dk_167 (dw rcX11_canBeBrave_0 20 rfl) rfl
theorem dX11_canBeBrave_41 : decode cX11_canBeBrave 41 = .ok (.iconst 0, 1) := dk_3 (dw rcX11_canBeBrave_0 21 rfl)
theorem dX11_canBeBrave_42 : decode cX11_canBeBrave 42 = .ok (.ireturn, 1) := dk_172 (dw rcX11_canBeBrave_0 22 rfl)
noncomputable def rbX11_canGo_0 : List (Nat × List Nat) := [(0, [42]), (1, [180, 0, 65]), (4, [180, 0, 246]), (7, [3]), (8, [46]), (9, [61]), (10, [42]), (11, [180, 0, 10]), (14, [28]), (15, [182, 1, 72]), (18, [153, 0, 29]), (21, [42]), (22, [180, 0, 65]), (25, [180, 0, 246]), (28, [7]), (29, [46]), (30, [4]), (31, [160, 0, 16]), (34, [27]), (35, [42]), (36, [180, 0, 10]), (39, [180, 1, 75]), (42, [28]), (43, [46])]
theorem rcX11_canGo_0 : dgo (lb cX11_canGo) 0 rbX11_canGo_0 = true := by decide +kernel
theorem dX11_canGo_0 : decode cX11_canGo 0 = .ok (.aload_n 0, 1) := dk_42 (dw rcX11_canGo_0 0 rfl)
theorem dX11_canGo_1 : decode cX11_canGo 1 = .ok (.getfield 65, 3) := dk_180 (dw rcX11_canGo_0 1 rfl) rfl
theorem dX11_canGo_4 : decode cX11_canGo 4 = .ok (.getfield 246, 3) := dk_180 (dw rcX11_canGo_0 2 rfl) rfl
theorem dX11_canGo_7 : decode cX11_canGo 7 = .ok (.iconst 0, 1) := dk_3 (dw rcX11_canGo_0 3 rfl)
theorem dX11_canGo_8 : decode cX11_canGo 8 = .ok (.iaload, 1) := dk_46 (dw rcX11_canGo_0 4 rfl)
theorem dX11_canGo_9 : decode cX11_canGo 9 = .ok (.istore_n 2, 1) := dk_61 (dw rcX11_canGo_0 5 rfl)
theorem dX11_canGo_10 : decode cX11_canGo 10 = .ok (.aload_n 0, 1) := dk_42 (dw rcX11_canGo_0 6 rfl)
theorem dX11_canGo_11 : decode cX11_canGo 11 = .ok (.getfield 10, 3) := dk_180 (dw rcX11_canGo_0 7 rfl) rfl
theorem dX11_canGo_14 : decode cX11_canGo 14 = .ok (.iload_n 2, 1) := dk_28 (dw rcX11_canGo_0 8 rfl)
theorem dX11_canGo_15 : decode cX11_canGo 15 = .ok (.invokevirtual 328, 3) := dk_182 (dw rcX11_canGo_0 9 rfl) rfl
theorem dX11_canGo_18 : decode cX11_canGo 18 = .ok (.ifCond .eq 29, 3) := dk_153 (dw rcX11_canGo_0 10 rfl) rfl
theorem dX11_canGo_21 : decode cX11_canGo 21 = .ok (.aload_n 0, 1) := dk_42 (dw rcX11_canGo_0 11 rfl)
theorem dX11_canGo_22 : decode cX11_canGo 22 = .ok (.getfield 65, 3) := dk_180 (dw rcX11_canGo_0 12 rfl) rfl
theorem dX11_canGo_25 : decode cX11_canGo 25 = .ok (.getfield 246, 3) := dk_180 (dw rcX11_canGo_0 13 rfl) rfl
theorem dX11_canGo_28 : decode cX11_canGo 28 = .ok (.iconst 4, 1) := dk_7 (dw rcX11_canGo_0 14 rfl)
theorem dX11_canGo_29 : decode cX11_canGo 29 = .ok (.iaload, 1) := dk_46 (dw rcX11_canGo_0 15 rfl)
theorem dX11_canGo_30 : decode cX11_canGo 30 = .ok (.iconst 1, 1) := dk_4 (dw rcX11_canGo_0 16 rfl)
theorem dX11_canGo_31 : decode cX11_canGo 31 = .ok (.if_icmp .ne 16, 3) := dk_160 (dw rcX11_canGo_0 17 rfl) rfl
theorem dX11_canGo_34 : decode cX11_canGo 34 = .ok (.iload_n 1, 1) := dk_27 (dw rcX11_canGo_0 18 rfl)
theorem dX11_canGo_35 : decode cX11_canGo 35 = .ok (.aload_n 0, 1) := dk_42 (dw rcX11_canGo_0 19 rfl)
theorem dX11_canGo_36 : decode cX11_canGo 36 = .ok (.getfield 10, 3) := dk_180 (dw rcX11_canGo_0 20 rfl) rfl
theorem dX11_canGo_39 : decode cX11_canGo 39 = .ok (.getfield 331, 3) := dk_180 (dw rcX11_canGo_0 21 rfl) rfl
theorem dX11_canGo_42 : decode cX11_canGo 42 = .ok (.iload_n 2, 1) := dk_28 (dw rcX11_canGo_0 22 rfl)
theorem dX11_canGo_43 : decode cX11_canGo 43 = .ok (.iaload, 1) := dk_46 (dw rcX11_canGo_0 23 rfl)
noncomputable def rbX11_canGo_44 : List (Nat × List Nat) := [(44, [162, 0, 5]), (47, [3]), (48, [172]), (49, [42]), (50, [180, 0, 65]), (53, [180, 0, 246]), (56, [8]), (57, [46]), (58, [4]), (59, [160, 0, 7]), (62, [4]), (63, [167, 0, 4]), (66, [3]), (67, [62]), (68, [27]), (69, [29]), (70, [153, 0, 15]), (73, [42]), (74, [180, 0, 10]), (77, [180, 0, 237]), (80, [28]), (81, [46]), (82, [167, 0, 12]), (85, [42])]
theorem rcX11_canGo_44 : dgo (lb cX11_canGo) 0 rbX11_canGo_44 = true := by decide +kernel
theorem dX11_canGo_44 : decode cX11_canGo 44 = .ok (.if_icmp .ge 5, 3) := dk_162 (dw rcX11_canGo_44 0 rfl) rfl
theorem dX11_canGo_47 : decode cX11_canGo 47 = .ok (.iconst 0, 1) := dk_3 (dw rcX11_canGo_44 1 rfl)
theorem dX11_canGo_48 : decode cX11_canGo 48 = .ok (.ireturn, 1) := dk_172 (dw rcX11_canGo_44 2 rfl)
theorem dX11_canGo_49 : decode cX11_canGo 49 = .ok (.aload_n 0, 1) := dk_42 (dw rcX11_canGo_44 3 rfl)
theorem dX11_canGo_50 : decode cX11_canGo 50 = .ok (.getfield 65, 3) := dk_180 (dw rcX11_canGo_44 4 rfl) rfl
theorem dX11_canGo_53 : decode cX11_canGo 53 = .ok (.getfield 246, 3) := dk_180 (dw rcX11_canGo_44 5 rfl) rfl
theorem dX11_canGo_56 : decode cX11_canGo 56 = .ok (.iconst 5, 1) := dk_8 (dw rcX11_canGo_44 6 rfl)
theorem dX11_canGo_57 : decode cX11_canGo 57 = .ok (.iaload, 1) := dk_46 (dw rcX11_canGo_44 7 rfl)
theorem dX11_canGo_58 : decode cX11_canGo 58 = .ok (.iconst 1, 1) := dk_4 (dw rcX11_canGo_44 8 rfl)
theorem dX11_canGo_59 : decode cX11_canGo 59 = .ok (.if_icmp .ne 7, 3) := dk_160 (dw rcX11_canGo_44 9 rfl) rfl
theorem dX11_canGo_62 : decode cX11_canGo 62 = .ok (.iconst 1, 1) := dk_4 (dw rcX11_canGo_44 10 rfl)
theorem dX11_canGo_63 : decode cX11_canGo 63 = .ok (.goto 4, 3) := dk_167 (dw rcX11_canGo_44 11 rfl) rfl
theorem dX11_canGo_66 : decode cX11_canGo 66 = .ok (.iconst 0, 1) := dk_3 (dw rcX11_canGo_44 12 rfl)
theorem dX11_canGo_67 : decode cX11_canGo 67 = .ok (.istore_n 3, 1) := dk_62 (dw rcX11_canGo_44 13 rfl)
theorem dX11_canGo_68 : decode cX11_canGo 68 = .ok (.iload_n 1, 1) := dk_27 (dw rcX11_canGo_44 14 rfl)
theorem dX11_canGo_69 : decode cX11_canGo 69 = .ok (.iload_n 3, 1) := dk_29 (dw rcX11_canGo_44 15 rfl)
theorem dX11_canGo_70 : decode cX11_canGo 70 = .ok (.ifCond .eq 15, 3) := dk_153 (dw rcX11_canGo_44 16 rfl) rfl
theorem dX11_canGo_73 : decode cX11_canGo 73 = .ok (.aload_n 0, 1) := dk_42 (dw rcX11_canGo_44 17 rfl)
theorem dX11_canGo_74 : decode cX11_canGo 74 = .ok (.getfield 10, 3) := dk_180 (dw rcX11_canGo_44 18 rfl) rfl
theorem dX11_canGo_77 : decode cX11_canGo 77 = .ok (.getfield 237, 3) := dk_180 (dw rcX11_canGo_44 19 rfl) rfl
theorem dX11_canGo_80 : decode cX11_canGo 80 = .ok (.iload_n 2, 1) := dk_28 (dw rcX11_canGo_44 20 rfl)
theorem dX11_canGo_81 : decode cX11_canGo 81 = .ok (.iaload, 1) := dk_46 (dw rcX11_canGo_44 21 rfl)
theorem dX11_canGo_82 : decode cX11_canGo 82 = .ok (.goto 12, 3) := dk_167 (dw rcX11_canGo_44 22 rfl) rfl
theorem dX11_canGo_85 : decode cX11_canGo 85 = .ok (.aload_n 0, 1) := dk_42 (dw rcX11_canGo_44 23 rfl)
noncomputable def rbX11_canGo_86 : List (Nat × List Nat) := [(86, [180, 0, 10]), (89, [180, 1, 77]), (92, [28]), (93, [46]), (94, [163, 0, 7]), (97, [4]), (98, [167, 0, 4]), (101, [3]), (102, [172])]
theorem rcX11_canGo_86 : dgo (lb cX11_canGo) 0 rbX11_canGo_86 = true := by decide +kernel
theorem dX11_canGo_86 : decode cX11_canGo 86 = .ok (.getfield 10, 3) := dk_180 (dw rcX11_canGo_86 0 rfl) rfl
theorem dX11_canGo_89 : decode cX11_canGo 89 = .ok (.getfield 333, 3) := dk_180 (dw rcX11_canGo_86 1 rfl) rfl
theorem dX11_canGo_92 : decode cX11_canGo 92 = .ok (.iload_n 2, 1) := dk_28 (dw rcX11_canGo_86 2 rfl)
theorem dX11_canGo_93 : decode cX11_canGo 93 = .ok (.iaload, 1) := dk_46 (dw rcX11_canGo_86 3 rfl)
theorem dX11_canGo_94 : decode cX11_canGo 94 = .ok (.if_icmp .gt 7, 3) := dk_163 (dw rcX11_canGo_86 4 rfl) rfl
theorem dX11_canGo_97 : decode cX11_canGo 97 = .ok (.iconst 1, 1) := dk_4 (dw rcX11_canGo_86 5 rfl)
theorem dX11_canGo_98 : decode cX11_canGo 98 = .ok (.goto 4, 3) := dk_167 (dw rcX11_canGo_86 6 rfl) rfl
theorem dX11_canGo_101 : decode cX11_canGo 101 = .ok (.iconst 0, 1) := dk_3 (dw rcX11_canGo_86 7 rfl)
theorem dX11_canGo_102 : decode cX11_canGo 102 = .ok (.ireturn, 1) := dk_172 (dw rcX11_canGo_86 8 rfl)
noncomputable def rbX11_fitsAll_0 : List (Nat × List Nat) := [(0, [3]), (1, [62]), (2, [29]), (3, [42]), (4, [180, 0, 72]), (7, [180, 1, 29]), (10, [162, 0, 33]), (13, [42]), (14, [180, 0, 72]), (17, [29]), (18, [28]), (19, [182, 1, 32]), (22, [153, 0, 15]), (25, [42]), (26, [29]), (27, [27]), (28, [3]), (29, [182, 1, 100]), (32, [154, 0, 5]), (35, [3]), (36, [172]), (37, [132, 3, 1]), (40, [167, 255, 218]), (43, [4])]
theorem rcX11_fitsAll_0 : dgo (lb cX11_fitsAll) 0 rbX11_fitsAll_0 = true := by decide +kernel
theorem dX11_fitsAll_0 : decode cX11_fitsAll 0 = .ok (.iconst 0, 1) := dk_3 (dw rcX11_fitsAll_0 0 rfl)
theorem dX11_fitsAll_1 : decode cX11_fitsAll 1 = .ok (.istore_n 3, 1) := dk_62 (dw rcX11_fitsAll_0 1 rfl)
theorem dX11_fitsAll_2 : decode cX11_fitsAll 2 = .ok (.iload_n 3, 1) := dk_29 (dw rcX11_fitsAll_0 2 rfl)
theorem dX11_fitsAll_3 : decode cX11_fitsAll 3 = .ok (.aload_n 0, 1) := dk_42 (dw rcX11_fitsAll_0 3 rfl)
theorem dX11_fitsAll_4 : decode cX11_fitsAll 4 = .ok (.getfield 72, 3) := dk_180 (dw rcX11_fitsAll_0 4 rfl) rfl
theorem dX11_fitsAll_7 : decode cX11_fitsAll 7 = .ok (.getfield 285, 3) := dk_180 (dw rcX11_fitsAll_0 5 rfl) rfl
theorem dX11_fitsAll_10 : decode cX11_fitsAll 10 = .ok (.if_icmp .ge 33, 3) := dk_162 (dw rcX11_fitsAll_0 6 rfl) rfl
theorem dX11_fitsAll_13 : decode cX11_fitsAll 13 = .ok (.aload_n 0, 1) := dk_42 (dw rcX11_fitsAll_0 7 rfl)
theorem dX11_fitsAll_14 : decode cX11_fitsAll 14 = .ok (.getfield 72, 3) := dk_180 (dw rcX11_fitsAll_0 8 rfl) rfl
theorem dX11_fitsAll_17 : decode cX11_fitsAll 17 = .ok (.iload_n 3, 1) := dk_29 (dw rcX11_fitsAll_0 9 rfl)
theorem dX11_fitsAll_18 : decode cX11_fitsAll 18 = .ok (.iload_n 2, 1) := dk_28 (dw rcX11_fitsAll_0 10 rfl)
theorem dX11_fitsAll_19 : decode cX11_fitsAll 19 = .ok (.invokevirtual 288, 3) := dk_182 (dw rcX11_fitsAll_0 11 rfl) rfl
theorem dX11_fitsAll_22 : decode cX11_fitsAll 22 = .ok (.ifCond .eq 15, 3) := dk_153 (dw rcX11_fitsAll_0 12 rfl) rfl
theorem dX11_fitsAll_25 : decode cX11_fitsAll 25 = .ok (.aload_n 0, 1) := dk_42 (dw rcX11_fitsAll_0 13 rfl)
theorem dX11_fitsAll_26 : decode cX11_fitsAll 26 = .ok (.iload_n 3, 1) := dk_29 (dw rcX11_fitsAll_0 14 rfl)
theorem dX11_fitsAll_27 : decode cX11_fitsAll 27 = .ok (.iload_n 1, 1) := dk_27 (dw rcX11_fitsAll_0 15 rfl)
theorem dX11_fitsAll_28 : decode cX11_fitsAll 28 = .ok (.iconst 0, 1) := dk_3 (dw rcX11_fitsAll_0 16 rfl)
theorem dX11_fitsAll_29 : decode cX11_fitsAll 29 = .ok (.invokevirtual 356, 3) := dk_182 (dw rcX11_fitsAll_0 17 rfl) rfl
theorem dX11_fitsAll_32 : decode cX11_fitsAll 32 = .ok (.ifCond .ne 5, 3) := dk_154 (dw rcX11_fitsAll_0 18 rfl) rfl
theorem dX11_fitsAll_35 : decode cX11_fitsAll 35 = .ok (.iconst 0, 1) := dk_3 (dw rcX11_fitsAll_0 19 rfl)
theorem dX11_fitsAll_36 : decode cX11_fitsAll 36 = .ok (.ireturn, 1) := dk_172 (dw rcX11_fitsAll_0 20 rfl)
theorem dX11_fitsAll_37 : decode cX11_fitsAll 37 = .ok (.iinc 3 1, 3) := dk_132 (dw rcX11_fitsAll_0 21 rfl) rfl
theorem dX11_fitsAll_40 : decode cX11_fitsAll 40 = .ok (.goto (-38), 3) := dk_167 (dw rcX11_fitsAll_0 22 rfl) rfl
theorem dX11_fitsAll_43 : decode cX11_fitsAll 43 = .ok (.iconst 1, 1) := dk_4 (dw rcX11_fitsAll_0 23 rfl)
theorem dX11_fitsAll_44 : decode cX11_fitsAll 44 = .ok (.ireturn, 1) := dq_of (by decide +kernel)
noncomputable def rbX11_heelsNear_0 : List (Nat × List Nat) := [(0, [3]), (1, [54, 4]), (3, [16, 253]), (5, [54, 5]), (7, [21, 5]), (9, [6]), (10, [163, 0, 67]), (13, [42]), (14, [180, 0, 10]), (17, [42]), (18, [180, 0, 72]), (21, [180, 1, 109]), (24, [27]), (25, [46]), (26, [42]), (27, [180, 0, 72]), (30, [180, 1, 106]), (33, [27]), (34, [46]), (35, [42]), (36, [180, 0, 72]), (39, [180, 1, 103]), (42, [27]), (43, [46])]
theorem rcX11_heelsNear_0 : dgo (lb cX11_heelsNear) 0 rbX11_heelsNear_0 = true := by decide +kernel
theorem dX11_heelsNear_0 : decode cX11_heelsNear 0 = .ok (.iconst 0, 1) := dk_3 (dw rcX11_heelsNear_0 0 rfl)
theorem dX11_heelsNear_1 : decode cX11_heelsNear 1 = .ok (.istore 4, 2) := dk_54 (dw rcX11_heelsNear_0 1 rfl)
theorem dX11_heelsNear_3 : decode cX11_heelsNear 3 = .ok (.bipush (-3), 2) := dk_16 (dw rcX11_heelsNear_0 2 rfl) rfl
theorem dX11_heelsNear_5 : decode cX11_heelsNear 5 = .ok (.istore 5, 2) := dk_54 (dw rcX11_heelsNear_0 3 rfl)
theorem dX11_heelsNear_7 : decode cX11_heelsNear 7 = .ok (.iload 5, 2) := dk_21 (dw rcX11_heelsNear_0 4 rfl)
theorem dX11_heelsNear_9 : decode cX11_heelsNear 9 = .ok (.iconst 3, 1) := dk_6 (dw rcX11_heelsNear_0 5 rfl)
theorem dX11_heelsNear_10 : decode cX11_heelsNear 10 = .ok (.if_icmp .gt 67, 3) := dk_163 (dw rcX11_heelsNear_0 6 rfl) rfl
theorem dX11_heelsNear_13 : decode cX11_heelsNear 13 = .ok (.aload_n 0, 1) := dk_42 (dw rcX11_heelsNear_0 7 rfl)
theorem dX11_heelsNear_14 : decode cX11_heelsNear 14 = .ok (.getfield 10, 3) := dk_180 (dw rcX11_heelsNear_0 8 rfl) rfl
theorem dX11_heelsNear_17 : decode cX11_heelsNear 17 = .ok (.aload_n 0, 1) := dk_42 (dw rcX11_heelsNear_0 9 rfl)
theorem dX11_heelsNear_18 : decode cX11_heelsNear 18 = .ok (.getfield 72, 3) := dk_180 (dw rcX11_heelsNear_0 10 rfl) rfl
theorem dX11_heelsNear_21 : decode cX11_heelsNear 21 = .ok (.getfield 365, 3) := dk_180 (dw rcX11_heelsNear_0 11 rfl) rfl
theorem dX11_heelsNear_24 : decode cX11_heelsNear 24 = .ok (.iload_n 1, 1) := dk_27 (dw rcX11_heelsNear_0 12 rfl)
theorem dX11_heelsNear_25 : decode cX11_heelsNear 25 = .ok (.iaload, 1) := dk_46 (dw rcX11_heelsNear_0 13 rfl)
theorem dX11_heelsNear_26 : decode cX11_heelsNear 26 = .ok (.aload_n 0, 1) := dk_42 (dw rcX11_heelsNear_0 14 rfl)
theorem dX11_heelsNear_27 : decode cX11_heelsNear 27 = .ok (.getfield 72, 3) := dk_180 (dw rcX11_heelsNear_0 15 rfl) rfl
theorem dX11_heelsNear_30 : decode cX11_heelsNear 30 = .ok (.getfield 362, 3) := dk_180 (dw rcX11_heelsNear_0 16 rfl) rfl
theorem dX11_heelsNear_33 : decode cX11_heelsNear 33 = .ok (.iload_n 1, 1) := dk_27 (dw rcX11_heelsNear_0 17 rfl)
theorem dX11_heelsNear_34 : decode cX11_heelsNear 34 = .ok (.iaload, 1) := dk_46 (dw rcX11_heelsNear_0 18 rfl)
theorem dX11_heelsNear_35 : decode cX11_heelsNear 35 = .ok (.aload_n 0, 1) := dk_42 (dw rcX11_heelsNear_0 19 rfl)
theorem dX11_heelsNear_36 : decode cX11_heelsNear 36 = .ok (.getfield 72, 3) := dk_180 (dw rcX11_heelsNear_0 20 rfl) rfl
theorem dX11_heelsNear_39 : decode cX11_heelsNear 39 = .ok (.getfield 359, 3) := dk_180 (dw rcX11_heelsNear_0 21 rfl) rfl
theorem dX11_heelsNear_42 : decode cX11_heelsNear 42 = .ok (.iload_n 1, 1) := dk_27 (dw rcX11_heelsNear_0 22 rfl)
theorem dX11_heelsNear_43 : decode cX11_heelsNear 43 = .ok (.iaload, 1) := dk_46 (dw rcX11_heelsNear_0 23 rfl)
noncomputable def rbX11_heelsNear_44 : List (Nat × List Nat) := [(44, [21, 5]), (46, [96]), (47, [182, 0, 234]), (50, [153, 0, 21]), (53, [29]), (54, [153, 0, 14]), (57, [42]), (58, [27]), (59, [28]), (60, [21, 5]), (62, [182, 1, 100]), (65, [153, 0, 6]), (68, [132, 4, 1]), (71, [132, 5, 1]), (74, [167, 255, 189]), (77, [21, 4]), (79, [172])]
theorem rcX11_heelsNear_44 : dgo (lb cX11_heelsNear) 0 rbX11_heelsNear_44 = true := by decide +kernel
theorem dX11_heelsNear_44 : decode cX11_heelsNear 44 = .ok (.iload 5, 2) := dk_21 (dw rcX11_heelsNear_44 0 rfl)
theorem dX11_heelsNear_46 : decode cX11_heelsNear 46 = .ok (.iadd, 1) := dk_96 (dw rcX11_heelsNear_44 1 rfl)
theorem dX11_heelsNear_47 : decode cX11_heelsNear 47 = .ok (.invokevirtual 234, 3) := dk_182 (dw rcX11_heelsNear_44 2 rfl) rfl
theorem dX11_heelsNear_50 : decode cX11_heelsNear 50 = .ok (.ifCond .eq 21, 3) := dk_153 (dw rcX11_heelsNear_44 3 rfl) rfl
theorem dX11_heelsNear_53 : decode cX11_heelsNear 53 = .ok (.iload_n 3, 1) := dk_29 (dw rcX11_heelsNear_44 4 rfl)
theorem dX11_heelsNear_54 : decode cX11_heelsNear 54 = .ok (.ifCond .eq 14, 3) := dk_153 (dw rcX11_heelsNear_44 5 rfl) rfl
theorem dX11_heelsNear_57 : decode cX11_heelsNear 57 = .ok (.aload_n 0, 1) := dk_42 (dw rcX11_heelsNear_44 6 rfl)
theorem dX11_heelsNear_58 : decode cX11_heelsNear 58 = .ok (.iload_n 1, 1) := dk_27 (dw rcX11_heelsNear_44 7 rfl)
theorem dX11_heelsNear_59 : decode cX11_heelsNear 59 = .ok (.iload_n 2, 1) := dk_28 (dw rcX11_heelsNear_44 8 rfl)
theorem dX11_heelsNear_60 : decode cX11_heelsNear 60 = .ok (.iload 5, 2) := dk_21 (dw rcX11_heelsNear_44 9 rfl)
theorem dX11_heelsNear_62 : decode cX11_heelsNear 62 = .ok (.invokevirtual 356, 3) := dk_182 (dw rcX11_heelsNear_44 10 rfl) rfl
theorem dX11_heelsNear_65 : decode cX11_heelsNear 65 = .ok (.ifCond .eq 6, 3) := dk_153 (dw rcX11_heelsNear_44 11 rfl) rfl
theorem dX11_heelsNear_68 : decode cX11_heelsNear 68 = .ok (.iinc 4 1, 3) := dk_132 (dw rcX11_heelsNear_44 12 rfl) rfl
theorem dX11_heelsNear_71 : decode cX11_heelsNear 71 = .ok (.iinc 5 1, 3) := dk_132 (dw rcX11_heelsNear_44 13 rfl) rfl
theorem dX11_heelsNear_74 : decode cX11_heelsNear 74 = .ok (.goto (-67), 3) := dk_167 (dw rcX11_heelsNear_44 14 rfl) rfl
theorem dX11_heelsNear_77 : decode cX11_heelsNear 77 = .ok (.iload 4, 2) := dk_21 (dw rcX11_heelsNear_44 15 rfl)
theorem dX11_heelsNear_79 : decode cX11_heelsNear 79 = .ok (.ireturn, 1) := dk_172 (dw rcX11_heelsNear_44 16 rfl)
noncomputable def rbX11_isLawfulNow_0 : List (Nat × List Nat) := [(0, [42]), (1, [180, 0, 65]), (4, [180, 0, 246]), (7, [76]), (8, [43]), (9, [4]), (10, [46]), (11, [61]), (12, [42]), (13, [180, 0, 37]), (16, [28]), (17, [42]), (18, [182, 0, 131]), (21, [182, 0, 135]), (24, [43]), (25, [16, 9]), (27, [46]), (28, [4]), (29, [159, 0, 24]), (32, [42]), (33, [180, 0, 37]), (36, [43]), (37, [3]), (38, [46])]
theorem rcX11_isLawfulNow_0 : dgo (lb cX11_isLawfulNow) 0 rbX11_isLawfulNow_0 = true := by decide +kernel
theorem dX11_isLawfulNow_0 : decode cX11_isLawfulNow 0 = .ok (.aload_n 0, 1) := dk_42 (dw rcX11_isLawfulNow_0 0 rfl)
theorem dX11_isLawfulNow_1 : decode cX11_isLawfulNow 1 = .ok (.getfield 65, 3) := dk_180 (dw rcX11_isLawfulNow_0 1 rfl) rfl
theorem dX11_isLawfulNow_4 : decode cX11_isLawfulNow 4 = .ok (.getfield 246, 3) := dk_180 (dw rcX11_isLawfulNow_0 2 rfl) rfl
theorem dX11_isLawfulNow_7 : decode cX11_isLawfulNow 7 = .ok (.astore_n 1, 1) := dk_76 (dw rcX11_isLawfulNow_0 3 rfl)
theorem dX11_isLawfulNow_8 : decode cX11_isLawfulNow 8 = .ok (.aload_n 1, 1) := dk_43 (dw rcX11_isLawfulNow_0 4 rfl)
theorem dX11_isLawfulNow_9 : decode cX11_isLawfulNow 9 = .ok (.iconst 1, 1) := dk_4 (dw rcX11_isLawfulNow_0 5 rfl)
theorem dX11_isLawfulNow_10 : decode cX11_isLawfulNow 10 = .ok (.iaload, 1) := dk_46 (dw rcX11_isLawfulNow_0 6 rfl)
theorem dX11_isLawfulNow_11 : decode cX11_isLawfulNow 11 = .ok (.istore_n 2, 1) := dk_61 (dw rcX11_isLawfulNow_0 7 rfl)
theorem dX11_isLawfulNow_12 : decode cX11_isLawfulNow 12 = .ok (.aload_n 0, 1) := dk_42 (dw rcX11_isLawfulNow_0 8 rfl)
theorem dX11_isLawfulNow_13 : decode cX11_isLawfulNow 13 = .ok (.getfield 37, 3) := dk_180 (dw rcX11_isLawfulNow_0 9 rfl) rfl
theorem dX11_isLawfulNow_16 : decode cX11_isLawfulNow 16 = .ok (.iload_n 2, 1) := dk_28 (dw rcX11_isLawfulNow_0 10 rfl)
theorem dX11_isLawfulNow_17 : decode cX11_isLawfulNow 17 = .ok (.aload_n 0, 1) := dk_42 (dw rcX11_isLawfulNow_0 11 rfl)
theorem dX11_isLawfulNow_18 : decode cX11_isLawfulNow 18 = .ok (.invokevirtual 131, 3) := dk_182 (dw rcX11_isLawfulNow_0 12 rfl) rfl
theorem dX11_isLawfulNow_21 : decode cX11_isLawfulNow 21 = .ok (.invokevirtual 135, 3) := dk_182 (dw rcX11_isLawfulNow_0 13 rfl) rfl
theorem dX11_isLawfulNow_24 : decode cX11_isLawfulNow 24 = .ok (.aload_n 1, 1) := dk_43 (dw rcX11_isLawfulNow_0 14 rfl)
theorem dX11_isLawfulNow_25 : decode cX11_isLawfulNow 25 = .ok (.bipush 9, 2) := dk_16 (dw rcX11_isLawfulNow_0 15 rfl) rfl
theorem dX11_isLawfulNow_27 : decode cX11_isLawfulNow 27 = .ok (.iaload, 1) := dk_46 (dw rcX11_isLawfulNow_0 16 rfl)
theorem dX11_isLawfulNow_28 : decode cX11_isLawfulNow 28 = .ok (.iconst 1, 1) := dk_4 (dw rcX11_isLawfulNow_0 17 rfl)
theorem dX11_isLawfulNow_29 : decode cX11_isLawfulNow 29 = .ok (.if_icmp .eq 24, 3) := dk_159 (dw rcX11_isLawfulNow_0 18 rfl) rfl
theorem dX11_isLawfulNow_32 : decode cX11_isLawfulNow 32 = .ok (.aload_n 0, 1) := dk_42 (dw rcX11_isLawfulNow_0 19 rfl)
theorem dX11_isLawfulNow_33 : decode cX11_isLawfulNow 33 = .ok (.getfield 37, 3) := dk_180 (dw rcX11_isLawfulNow_0 20 rfl) rfl
theorem dX11_isLawfulNow_36 : decode cX11_isLawfulNow 36 = .ok (.aload_n 1, 1) := dk_43 (dw rcX11_isLawfulNow_0 21 rfl)
theorem dX11_isLawfulNow_37 : decode cX11_isLawfulNow 37 = .ok (.iconst 0, 1) := dk_3 (dw rcX11_isLawfulNow_0 22 rfl)
theorem dX11_isLawfulNow_38 : decode cX11_isLawfulNow 38 = .ok (.iaload, 1) := dk_46 (dw rcX11_isLawfulNow_0 23 rfl)
noncomputable def rbX11_isLawfulNow_39 : List (Nat × List Nat) := [(39, [28]), (40, [43]), (41, [16, 8]), (43, [46]), (44, [43]), (45, [5]), (46, [46]), (47, [182, 0, 146]), (50, [153, 0, 7]), (53, [4]), (54, [167, 0, 4]), (57, [3]), (58, [172])]
theorem rcX11_isLawfulNow_39 : dgo (lb cX11_isLawfulNow) 0 rbX11_isLawfulNow_39 = true := by decide +kernel
theorem dX11_isLawfulNow_39 : decode cX11_isLawfulNow 39 = .ok (.iload_n 2, 1) := dk_28 (dw rcX11_isLawfulNow_39 0 rfl)
theorem dX11_isLawfulNow_40 : decode cX11_isLawfulNow 40 = .ok (.aload_n 1, 1) := dk_43 (dw rcX11_isLawfulNow_39 1 rfl)
theorem dX11_isLawfulNow_41 : decode cX11_isLawfulNow 41 = .ok (.bipush 8, 2) := dk_16 (dw rcX11_isLawfulNow_39 2 rfl) rfl
theorem dX11_isLawfulNow_43 : decode cX11_isLawfulNow 43 = .ok (.iaload, 1) := dk_46 (dw rcX11_isLawfulNow_39 3 rfl)
theorem dX11_isLawfulNow_44 : decode cX11_isLawfulNow 44 = .ok (.aload_n 1, 1) := dk_43 (dw rcX11_isLawfulNow_39 4 rfl)
theorem dX11_isLawfulNow_45 : decode cX11_isLawfulNow 45 = .ok (.iconst 2, 1) := dk_5 (dw rcX11_isLawfulNow_39 5 rfl)
theorem dX11_isLawfulNow_46 : decode cX11_isLawfulNow 46 = .ok (.iaload, 1) := dk_46 (dw rcX11_isLawfulNow_39 6 rfl)
theorem dX11_isLawfulNow_47 : decode cX11_isLawfulNow 47 = .ok (.invokevirtual 146, 3) := dk_182 (dw rcX11_isLawfulNow_39 7 rfl) rfl
theorem dX11_isLawfulNow_50 : decode cX11_isLawfulNow 50 = .ok (.ifCond .eq 7, 3) := dk_153 (dw rcX11_isLawfulNow_39 8 rfl) rfl
theorem dX11_isLawfulNow_53 : decode cX11_isLawfulNow 53 = .ok (.iconst 1, 1) := dk_4 (dw rcX11_isLawfulNow_39 9 rfl)
theorem dX11_isLawfulNow_54 : decode cX11_isLawfulNow 54 = .ok (.goto 4, 3) := dk_167 (dw rcX11_isLawfulNow_39 10 rfl) rfl
theorem dX11_isLawfulNow_57 : decode cX11_isLawfulNow 57 = .ok (.iconst 0, 1) := dk_3 (dw rcX11_isLawfulNow_39 11 rfl)
theorem dX11_isLawfulNow_58 : decode cX11_isLawfulNow 58 = .ok (.ireturn, 1) := dk_172 (dw rcX11_isLawfulNow_39 12 rfl)
noncomputable def rbX11_isLawfulSight_0 : List (Nat × List Nat) := [(0, [42]), (1, [180, 0, 72]), (4, [180, 1, 103]), (7, [27]), (8, [46]), (9, [29]), (10, [96]), (11, [54, 4]), (13, [42]), (14, [180, 0, 37]), (17, [42]), (18, [180, 0, 72]), (21, [180, 1, 106]), (24, [27]), (25, [46]), (26, [42]), (27, [182, 0, 131]), (30, [182, 0, 135]), (33, [42]), (34, [180, 0, 37]), (37, [42]), (38, [180, 0, 72]), (41, [180, 1, 109]), (44, [27])]
theorem rcX11_isLawfulSight_0 : dgo (lb cX11_isLawfulSight) 0 rbX11_isLawfulSight_0 = true := by decide +kernel
theorem dX11_isLawfulSight_0 : decode cX11_isLawfulSight 0 = .ok (.aload_n 0, 1) := dk_42 (dw rcX11_isLawfulSight_0 0 rfl)
theorem dX11_isLawfulSight_1 : decode cX11_isLawfulSight 1 = .ok (.getfield 72, 3) := dk_180 (dw rcX11_isLawfulSight_0 1 rfl) rfl
theorem dX11_isLawfulSight_4 : decode cX11_isLawfulSight 4 = .ok (.getfield 359, 3) := dk_180 (dw rcX11_isLawfulSight_0 2 rfl) rfl
theorem dX11_isLawfulSight_7 : decode cX11_isLawfulSight 7 = .ok (.iload_n 1, 1) := dk_27 (dw rcX11_isLawfulSight_0 3 rfl)
theorem dX11_isLawfulSight_8 : decode cX11_isLawfulSight 8 = .ok (.iaload, 1) := dk_46 (dw rcX11_isLawfulSight_0 4 rfl)
theorem dX11_isLawfulSight_9 : decode cX11_isLawfulSight 9 = .ok (.iload_n 3, 1) := dk_29 (dw rcX11_isLawfulSight_0 5 rfl)
theorem dX11_isLawfulSight_10 : decode cX11_isLawfulSight 10 = .ok (.iadd, 1) := dk_96 (dw rcX11_isLawfulSight_0 6 rfl)
theorem dX11_isLawfulSight_11 : decode cX11_isLawfulSight 11 = .ok (.istore 4, 2) := dk_54 (dw rcX11_isLawfulSight_0 7 rfl)
theorem dX11_isLawfulSight_13 : decode cX11_isLawfulSight 13 = .ok (.aload_n 0, 1) := dk_42 (dw rcX11_isLawfulSight_0 8 rfl)
theorem dX11_isLawfulSight_14 : decode cX11_isLawfulSight 14 = .ok (.getfield 37, 3) := dk_180 (dw rcX11_isLawfulSight_0 9 rfl) rfl
theorem dX11_isLawfulSight_17 : decode cX11_isLawfulSight 17 = .ok (.aload_n 0, 1) := dk_42 (dw rcX11_isLawfulSight_0 10 rfl)
theorem dX11_isLawfulSight_18 : decode cX11_isLawfulSight 18 = .ok (.getfield 72, 3) := dk_180 (dw rcX11_isLawfulSight_0 11 rfl) rfl
theorem dX11_isLawfulSight_21 : decode cX11_isLawfulSight 21 = .ok (.getfield 362, 3) := dk_180 (dw rcX11_isLawfulSight_0 12 rfl) rfl
theorem dX11_isLawfulSight_24 : decode cX11_isLawfulSight 24 = .ok (.iload_n 1, 1) := dk_27 (dw rcX11_isLawfulSight_0 13 rfl)
theorem dX11_isLawfulSight_25 : decode cX11_isLawfulSight 25 = .ok (.iaload, 1) := dk_46 (dw rcX11_isLawfulSight_0 14 rfl)
theorem dX11_isLawfulSight_26 : decode cX11_isLawfulSight 26 = .ok (.aload_n 0, 1) := dk_42 (dw rcX11_isLawfulSight_0 15 rfl)
theorem dX11_isLawfulSight_27 : decode cX11_isLawfulSight 27 = .ok (.invokevirtual 131, 3) := dk_182 (dw rcX11_isLawfulSight_0 16 rfl) rfl
theorem dX11_isLawfulSight_30 : decode cX11_isLawfulSight 30 = .ok (.invokevirtual 135, 3) := dk_182 (dw rcX11_isLawfulSight_0 17 rfl) rfl
theorem dX11_isLawfulSight_33 : decode cX11_isLawfulSight 33 = .ok (.aload_n 0, 1) := dk_42 (dw rcX11_isLawfulSight_0 18 rfl)
theorem dX11_isLawfulSight_34 : decode cX11_isLawfulSight 34 = .ok (.getfield 37, 3) := dk_180 (dw rcX11_isLawfulSight_0 19 rfl) rfl
theorem dX11_isLawfulSight_37 : decode cX11_isLawfulSight 37 = .ok (.aload_n 0, 1) := dk_42 (dw rcX11_isLawfulSight_0 20 rfl)
theorem dX11_isLawfulSight_38 : decode cX11_isLawfulSight 38 = .ok (.getfield 72, 3) := dk_180 (dw rcX11_isLawfulSight_0 21 rfl) rfl
theorem dX11_isLawfulSight_41 : decode cX11_isLawfulSight 41 = .ok (.getfield 365, 3) := dk_180 (dw rcX11_isLawfulSight_0 22 rfl) rfl
theorem dX11_isLawfulSight_44 : decode cX11_isLawfulSight 44 = .ok (.iload_n 1, 1) := dk_27 (dw rcX11_isLawfulSight_0 23 rfl)
noncomputable def rbX11_isLawfulSight_45 : List (Nat × List Nat) := [(45, [46]), (46, [42]), (47, [180, 0, 72]), (50, [180, 1, 106]), (53, [27]), (54, [46]), (55, [4]), (56, [28]), (57, [120]), (58, [21, 4]), (60, [182, 0, 146]), (63, [172])]
theorem rcX11_isLawfulSight_45 : dgo (lb cX11_isLawfulSight) 0 rbX11_isLawfulSight_45 = true := by decide +kernel
theorem dX11_isLawfulSight_45 : decode cX11_isLawfulSight 45 = .ok (.iaload, 1) := dk_46 (dw rcX11_isLawfulSight_45 0 rfl)
theorem dX11_isLawfulSight_46 : decode cX11_isLawfulSight 46 = .ok (.aload_n 0, 1) := dk_42 (dw rcX11_isLawfulSight_45 1 rfl)
theorem dX11_isLawfulSight_47 : decode cX11_isLawfulSight 47 = .ok (.getfield 72, 3) := dk_180 (dw rcX11_isLawfulSight_45 2 rfl) rfl
theorem dX11_isLawfulSight_50 : decode cX11_isLawfulSight 50 = .ok (.getfield 362, 3) := dk_180 (dw rcX11_isLawfulSight_45 3 rfl) rfl
theorem dX11_isLawfulSight_53 : decode cX11_isLawfulSight 53 = .ok (.iload_n 1, 1) := dk_27 (dw rcX11_isLawfulSight_45 4 rfl)
theorem dX11_isLawfulSight_54 : decode cX11_isLawfulSight 54 = .ok (.iaload, 1) := dk_46 (dw rcX11_isLawfulSight_45 5 rfl)
theorem dX11_isLawfulSight_55 : decode cX11_isLawfulSight 55 = .ok (.iconst 1, 1) := dk_4 (dw rcX11_isLawfulSight_45 6 rfl)
theorem dX11_isLawfulSight_56 : decode cX11_isLawfulSight 56 = .ok (.iload_n 2, 1) := dk_28 (dw rcX11_isLawfulSight_45 7 rfl)
theorem dX11_isLawfulSight_57 : decode cX11_isLawfulSight 57 = .ok (.ishl, 1) := dk_120 (dw rcX11_isLawfulSight_45 8 rfl)
theorem dX11_isLawfulSight_58 : decode cX11_isLawfulSight 58 = .ok (.iload 4, 2) := dk_21 (dw rcX11_isLawfulSight_45 9 rfl)
theorem dX11_isLawfulSight_60 : decode cX11_isLawfulSight 60 = .ok (.invokevirtual 146, 3) := dk_182 (dw rcX11_isLawfulSight_45 10 rfl) rfl
theorem dX11_isLawfulSight_63 : decode cX11_isLawfulSight 63 = .ok (.ireturn, 1) := dk_172 (dw rcX11_isLawfulSight_45 11 rfl)
noncomputable def rbX11_leavesWay_0 : List (Nat × List Nat) := [(0, [42]), (1, [180, 0, 44]), (4, [42]), (5, [180, 0, 37]), (8, [27]), (9, [28]), (10, [182, 1, 83]), (13, [42]), (14, [180, 0, 51]), (17, [42]), (18, [180, 0, 44]), (21, [182, 1, 87]), (24, [172])]
theorem rcX11_leavesWay_0 : dgo (lb cX11_leavesWay) 0 rbX11_leavesWay_0 = true := by decide +kernel
theorem dX11_leavesWay_0 : decode cX11_leavesWay 0 = .ok (.aload_n 0, 1) := dk_42 (dw rcX11_leavesWay_0 0 rfl)
theorem dX11_leavesWay_1 : decode cX11_leavesWay 1 = .ok (.getfield 44, 3) := dk_180 (dw rcX11_leavesWay_0 1 rfl) rfl
theorem dX11_leavesWay_4 : decode cX11_leavesWay 4 = .ok (.aload_n 0, 1) := dk_42 (dw rcX11_leavesWay_0 2 rfl)
theorem dX11_leavesWay_5 : decode cX11_leavesWay 5 = .ok (.getfield 37, 3) := dk_180 (dw rcX11_leavesWay_0 3 rfl) rfl
theorem dX11_leavesWay_8 : decode cX11_leavesWay 8 = .ok (.iload_n 1, 1) := dk_27 (dw rcX11_leavesWay_0 4 rfl)
theorem dX11_leavesWay_9 : decode cX11_leavesWay 9 = .ok (.iload_n 2, 1) := dk_28 (dw rcX11_leavesWay_0 5 rfl)
theorem dX11_leavesWay_10 : decode cX11_leavesWay 10 = .ok (.invokevirtual 339, 3) := dk_182 (dw rcX11_leavesWay_0 6 rfl) rfl
theorem dX11_leavesWay_13 : decode cX11_leavesWay 13 = .ok (.aload_n 0, 1) := dk_42 (dw rcX11_leavesWay_0 7 rfl)
theorem dX11_leavesWay_14 : decode cX11_leavesWay 14 = .ok (.getfield 51, 3) := dk_180 (dw rcX11_leavesWay_0 8 rfl) rfl
theorem dX11_leavesWay_17 : decode cX11_leavesWay 17 = .ok (.aload_n 0, 1) := dk_42 (dw rcX11_leavesWay_0 9 rfl)
theorem dX11_leavesWay_18 : decode cX11_leavesWay 18 = .ok (.getfield 44, 3) := dk_180 (dw rcX11_leavesWay_0 10 rfl) rfl
theorem dX11_leavesWay_21 : decode cX11_leavesWay 21 = .ok (.invokevirtual 343, 3) := dk_182 (dw rcX11_leavesWay_0 11 rfl) rfl
theorem dX11_leavesWay_24 : decode cX11_leavesWay 24 = .ok (.ireturn, 1) := dk_172 (dw rcX11_leavesWay_0 12 rfl)
noncomputable def rbX11_prepare_0 : List (Nat × List Nat) := [(0, [42]), (1, [180, 0, 37]), (4, [28]), (5, [42]), (6, [182, 0, 131]), (9, [182, 0, 135]), (12, [42]), (13, [180, 0, 44]), (16, [42]), (17, [180, 0, 10]), (20, [27]), (21, [28]), (22, [182, 1, 80]), (25, [42]), (26, [180, 0, 44]), (29, [42]), (30, [180, 0, 37]), (33, [28]), (34, [29]), (35, [182, 1, 83]), (38, [177])]
theorem rcX11_prepare_0 : dgo (lb cX11_prepare) 0 rbX11_prepare_0 = true := by decide +kernel
theorem dX11_prepare_0 : decode cX11_prepare 0 = .ok (.aload_n 0, 1) := dk_42 (dw rcX11_prepare_0 0 rfl)
theorem dX11_prepare_1 : decode cX11_prepare 1 = .ok (.getfield 37, 3) := dk_180 (dw rcX11_prepare_0 1 rfl) rfl
theorem dX11_prepare_4 : decode cX11_prepare 4 = .ok (.iload_n 2, 1) := dk_28 (dw rcX11_prepare_0 2 rfl)
theorem dX11_prepare_5 : decode cX11_prepare 5 = .ok (.aload_n 0, 1) := dk_42 (dw rcX11_prepare_0 3 rfl)
theorem dX11_prepare_6 : decode cX11_prepare 6 = .ok (.invokevirtual 131, 3) := dk_182 (dw rcX11_prepare_0 4 rfl) rfl
theorem dX11_prepare_9 : decode cX11_prepare 9 = .ok (.invokevirtual 135, 3) := dk_182 (dw rcX11_prepare_0 5 rfl) rfl
theorem dX11_prepare_12 : decode cX11_prepare 12 = .ok (.aload_n 0, 1) := dk_42 (dw rcX11_prepare_0 6 rfl)
theorem dX11_prepare_13 : decode cX11_prepare 13 = .ok (.getfield 44, 3) := dk_180 (dw rcX11_prepare_0 7 rfl) rfl
theorem dX11_prepare_16 : decode cX11_prepare 16 = .ok (.aload_n 0, 1) := dk_42 (dw rcX11_prepare_0 8 rfl)
theorem dX11_prepare_17 : decode cX11_prepare 17 = .ok (.getfield 10, 3) := dk_180 (dw rcX11_prepare_0 9 rfl) rfl
theorem dX11_prepare_20 : decode cX11_prepare 20 = .ok (.iload_n 1, 1) := dk_27 (dw rcX11_prepare_0 10 rfl)
theorem dX11_prepare_21 : decode cX11_prepare 21 = .ok (.iload_n 2, 1) := dk_28 (dw rcX11_prepare_0 11 rfl)
theorem dX11_prepare_22 : decode cX11_prepare 22 = .ok (.invokevirtual 336, 3) := dk_182 (dw rcX11_prepare_0 12 rfl) rfl
theorem dX11_prepare_25 : decode cX11_prepare 25 = .ok (.aload_n 0, 1) := dk_42 (dw rcX11_prepare_0 13 rfl)
theorem dX11_prepare_26 : decode cX11_prepare 26 = .ok (.getfield 44, 3) := dk_180 (dw rcX11_prepare_0 14 rfl) rfl
theorem dX11_prepare_29 : decode cX11_prepare 29 = .ok (.aload_n 0, 1) := dk_42 (dw rcX11_prepare_0 15 rfl)
theorem dX11_prepare_30 : decode cX11_prepare 30 = .ok (.getfield 37, 3) := dk_180 (dw rcX11_prepare_0 16 rfl) rfl
theorem dX11_prepare_33 : decode cX11_prepare 33 = .ok (.iload_n 2, 1) := dk_28 (dw rcX11_prepare_0 17 rfl)
theorem dX11_prepare_34 : decode cX11_prepare 34 = .ok (.iload_n 3, 1) := dk_29 (dw rcX11_prepare_0 18 rfl)
theorem dX11_prepare_35 : decode cX11_prepare 35 = .ok (.invokevirtual 339, 3) := dk_182 (dw rcX11_prepare_0 19 rfl) rfl
theorem dX11_prepare_38 : decode cX11_prepare 38 = .ok (.return_, 1) := dk_177 (dw rcX11_prepare_0 20 rfl)
noncomputable def rbX11_startAnew_0 : List (Nat × List Nat) := [(0, [42]), (1, [180, 0, 37]), (4, [42]), (5, [180, 0, 10]), (8, [182, 1, 64]), (11, [42]), (12, [180, 0, 65]), (15, [42]), (16, [180, 0, 10]), (19, [180, 1, 67]), (22, [182, 1, 70]), (25, [42]), (26, [180, 0, 72]), (29, [3]), (30, [181, 1, 29]), (33, [42]), (34, [3]), (35, [181, 0, 150]), (38, [177])]
theorem rcX11_startAnew_0 : dgo (lb cX11_startAnew) 0 rbX11_startAnew_0 = true := by decide +kernel
theorem dX11_startAnew_0 : decode cX11_startAnew 0 = .ok (.aload_n 0, 1) := dk_42 (dw rcX11_startAnew_0 0 rfl)
theorem dX11_startAnew_1 : decode cX11_startAnew 1 = .ok (.getfield 37, 3) := dk_180 (dw rcX11_startAnew_0 1 rfl) rfl
theorem dX11_startAnew_4 : decode cX11_startAnew 4 = .ok (.aload_n 0, 1) := dk_42 (dw rcX11_startAnew_0 2 rfl)
theorem dX11_startAnew_5 : decode cX11_startAnew 5 = .ok (.getfield 10, 3) := dk_180 (dw rcX11_startAnew_0 3 rfl) rfl
theorem dX11_startAnew_8 : decode cX11_startAnew 8 = .ok (.invokevirtual 320, 3) := dk_182 (dw rcX11_startAnew_0 4 rfl) rfl
theorem dX11_startAnew_11 : decode cX11_startAnew 11 = .ok (.aload_n 0, 1) := dk_42 (dw rcX11_startAnew_0 5 rfl)
theorem dX11_startAnew_12 : decode cX11_startAnew 12 = .ok (.getfield 65, 3) := dk_180 (dw rcX11_startAnew_0 6 rfl) rfl
theorem dX11_startAnew_15 : decode cX11_startAnew 15 = .ok (.aload_n 0, 1) := dk_42 (dw rcX11_startAnew_0 7 rfl)
theorem dX11_startAnew_16 : decode cX11_startAnew 16 = .ok (.getfield 10, 3) := dk_180 (dw rcX11_startAnew_0 8 rfl) rfl
theorem dX11_startAnew_19 : decode cX11_startAnew 19 = .ok (.getfield 323, 3) := dk_180 (dw rcX11_startAnew_0 9 rfl) rfl
theorem dX11_startAnew_22 : decode cX11_startAnew 22 = .ok (.invokevirtual 326, 3) := dk_182 (dw rcX11_startAnew_0 10 rfl) rfl
theorem dX11_startAnew_25 : decode cX11_startAnew 25 = .ok (.aload_n 0, 1) := dk_42 (dw rcX11_startAnew_0 11 rfl)
theorem dX11_startAnew_26 : decode cX11_startAnew 26 = .ok (.getfield 72, 3) := dk_180 (dw rcX11_startAnew_0 12 rfl) rfl
theorem dX11_startAnew_29 : decode cX11_startAnew 29 = .ok (.iconst 0, 1) := dk_3 (dw rcX11_startAnew_0 13 rfl)
theorem dX11_startAnew_30 : decode cX11_startAnew 30 = .ok (.putfield 285, 3) := dk_181 (dw rcX11_startAnew_0 14 rfl) rfl
theorem dX11_startAnew_33 : decode cX11_startAnew 33 = .ok (.aload_n 0, 1) := dk_42 (dw rcX11_startAnew_0 15 rfl)
theorem dX11_startAnew_34 : decode cX11_startAnew 34 = .ok (.iconst 0, 1) := dk_3 (dw rcX11_startAnew_0 16 rfl)
theorem dX11_startAnew_35 : decode cX11_startAnew 35 = .ok (.putfield 150, 3) := dk_181 (dw rcX11_startAnew_0 17 rfl) rfl
theorem dX11_startAnew_38 : decode cX11_startAnew 38 = .ok (.return_, 1) := dk_177 (dw rcX11_startAnew_0 18 rfl)
noncomputable def rbX11_winningRule_0 : List (Nat × List Nat) := [(0, [4]), (1, [42]), (2, [180, 0, 10]), (5, [180, 0, 228]), (8, [120]), (9, [4]), (10, [100]), (11, [62]), (12, [29]), (13, [54, 4]), (15, [21, 4]), (17, [28]), (18, [161, 0, 54]), (21, [21, 4]), (23, [28]), (24, [126]), (25, [28]), (26, [160, 0, 40]), (29, [42]), (30, [180, 0, 51]), (33, [180, 1, 91]), (36, [21, 4]), (38, [42]), (39, [180, 0, 51])]
theorem rcX11_winningRule_0 : dgo (lb cX11_winningRule) 0 rbX11_winningRule_0 = true := by decide +kernel
theorem dX11_winningRule_0 : decode cX11_winningRule 0 = .ok (.iconst 1, 1) := dk_4 (dw rcX11_winningRule_0 0 rfl)
theorem dX11_winningRule_1 : decode cX11_winningRule 1 = .ok (.aload_n 0, 1) := dk_42 (dw rcX11_winningRule_0 1 rfl)
theorem dX11_winningRule_2 : decode cX11_winningRule 2 = .ok (.getfield 10, 3) := dk_180 (dw rcX11_winningRule_0 2 rfl) rfl
theorem dX11_winningRule_5 : decode cX11_winningRule 5 = .ok (.getfield 228, 3) := dk_180 (dw rcX11_winningRule_0 3 rfl) rfl
theorem dX11_winningRule_8 : decode cX11_winningRule 8 = .ok (.ishl, 1) := dk_120 (dw rcX11_winningRule_0 4 rfl)
theorem dX11_winningRule_9 : decode cX11_winningRule 9 = .ok (.iconst 1, 1) := dk_4 (dw rcX11_winningRule_0 5 rfl)
theorem dX11_winningRule_10 : decode cX11_winningRule 10 = .ok (.isub, 1) := dk_100 (dw rcX11_winningRule_0 6 rfl)
theorem dX11_winningRule_11 : decode cX11_winningRule 11 = .ok (.istore_n 3, 1) := dk_62 (dw rcX11_winningRule_0 7 rfl)
theorem dX11_winningRule_12 : decode cX11_winningRule 12 = .ok (.iload_n 3, 1) := dk_29 (dw rcX11_winningRule_0 8 rfl)
theorem dX11_winningRule_13 : decode cX11_winningRule 13 = .ok (.istore 4, 2) := dk_54 (dw rcX11_winningRule_0 9 rfl)
theorem dX11_winningRule_15 : decode cX11_winningRule 15 = .ok (.iload 4, 2) := dk_21 (dw rcX11_winningRule_0 10 rfl)
theorem dX11_winningRule_17 : decode cX11_winningRule 17 = .ok (.iload_n 2, 1) := dk_28 (dw rcX11_winningRule_0 11 rfl)
theorem dX11_winningRule_18 : decode cX11_winningRule 18 = .ok (.if_icmp .lt 54, 3) := dk_161 (dw rcX11_winningRule_0 12 rfl) rfl
theorem dX11_winningRule_21 : decode cX11_winningRule 21 = .ok (.iload 4, 2) := dk_21 (dw rcX11_winningRule_0 13 rfl)
theorem dX11_winningRule_23 : decode cX11_winningRule 23 = .ok (.iload_n 2, 1) := dk_28 (dw rcX11_winningRule_0 14 rfl)
theorem dX11_winningRule_24 : decode cX11_winningRule 24 = .ok (.iand, 1) := dk_126 (dw rcX11_winningRule_0 15 rfl)
theorem dX11_winningRule_25 : decode cX11_winningRule 25 = .ok (.iload_n 2, 1) := dk_28 (dw rcX11_winningRule_0 16 rfl)
theorem dX11_winningRule_26 : decode cX11_winningRule 26 = .ok (.if_icmp .ne 40, 3) := dk_160 (dw rcX11_winningRule_0 17 rfl) rfl
theorem dX11_winningRule_29 : decode cX11_winningRule 29 = .ok (.aload_n 0, 1) := dk_42 (dw rcX11_winningRule_0 18 rfl)
theorem dX11_winningRule_30 : decode cX11_winningRule 30 = .ok (.getfield 51, 3) := dk_180 (dw rcX11_winningRule_0 19 rfl) rfl
theorem dX11_winningRule_33 : decode cX11_winningRule 33 = .ok (.getfield 347, 3) := dk_180 (dw rcX11_winningRule_0 20 rfl) rfl
theorem dX11_winningRule_36 : decode cX11_winningRule 36 = .ok (.iload 4, 2) := dk_21 (dw rcX11_winningRule_0 21 rfl)
theorem dX11_winningRule_38 : decode cX11_winningRule 38 = .ok (.aload_n 0, 1) := dk_42 (dw rcX11_winningRule_0 22 rfl)
theorem dX11_winningRule_39 : decode cX11_winningRule 39 = .ok (.getfield 51, 3) := dk_180 (dw rcX11_winningRule_0 23 rfl) rfl
noncomputable def rbX11_winningRule_42 : List (Nat × List Nat) := [(42, [21, 4]), (44, [29]), (45, [182, 1, 94]), (48, [79]), (49, [42]), (50, [180, 0, 51]), (53, [180, 1, 97]), (56, [21, 4]), (58, [42]), (59, [27]), (60, [21, 4]), (62, [182, 0, 231]), (65, [84]), (66, [132, 4, 255]), (69, [167, 255, 202]), (72, [42]), (73, [180, 0, 51]), (76, [180, 1, 91]), (79, [28]), (80, [46]), (81, [172])]
theorem rcX11_winningRule_42 : dgo (lb cX11_winningRule) 0 rbX11_winningRule_42 = true := by decide +kernel
theorem dX11_winningRule_42 : decode cX11_winningRule 42 = .ok (.iload 4, 2) := dk_21 (dw rcX11_winningRule_42 0 rfl)
theorem dX11_winningRule_44 : decode cX11_winningRule 44 = .ok (.iload_n 3, 1) := dk_29 (dw rcX11_winningRule_42 1 rfl)
theorem dX11_winningRule_45 : decode cX11_winningRule 45 = .ok (.invokevirtual 350, 3) := dk_182 (dw rcX11_winningRule_42 2 rfl) rfl
theorem dX11_winningRule_48 : decode cX11_winningRule 48 = .ok (.iastore, 1) := dk_79 (dw rcX11_winningRule_42 3 rfl)
theorem dX11_winningRule_49 : decode cX11_winningRule 49 = .ok (.aload_n 0, 1) := dk_42 (dw rcX11_winningRule_42 4 rfl)
theorem dX11_winningRule_50 : decode cX11_winningRule 50 = .ok (.getfield 51, 3) := dk_180 (dw rcX11_winningRule_42 5 rfl) rfl
theorem dX11_winningRule_53 : decode cX11_winningRule 53 = .ok (.getfield 353, 3) := dk_180 (dw rcX11_winningRule_42 6 rfl) rfl
theorem dX11_winningRule_56 : decode cX11_winningRule 56 = .ok (.iload 4, 2) := dk_21 (dw rcX11_winningRule_42 7 rfl)
theorem dX11_winningRule_58 : decode cX11_winningRule 58 = .ok (.aload_n 0, 1) := dk_42 (dw rcX11_winningRule_42 8 rfl)
theorem dX11_winningRule_59 : decode cX11_winningRule 59 = .ok (.iload_n 1, 1) := dk_27 (dw rcX11_winningRule_42 9 rfl)
theorem dX11_winningRule_60 : decode cX11_winningRule 60 = .ok (.iload 4, 2) := dk_21 (dw rcX11_winningRule_42 10 rfl)
theorem dX11_winningRule_62 : decode cX11_winningRule 62 = .ok (.invokevirtual 231, 3) := dk_182 (dw rcX11_winningRule_42 11 rfl) rfl
theorem dX11_winningRule_65 : decode cX11_winningRule 65 = .ok (.bastore, 1) := dk_84 (dw rcX11_winningRule_42 12 rfl)
theorem dX11_winningRule_66 : decode cX11_winningRule 66 = .ok (.iinc 4 (-1), 3) := dk_132 (dw rcX11_winningRule_42 13 rfl) rfl
theorem dX11_winningRule_69 : decode cX11_winningRule 69 = .ok (.goto (-54), 3) := dk_167 (dw rcX11_winningRule_42 14 rfl) rfl
theorem dX11_winningRule_72 : decode cX11_winningRule 72 = .ok (.aload_n 0, 1) := dk_42 (dw rcX11_winningRule_42 15 rfl)
theorem dX11_winningRule_73 : decode cX11_winningRule 73 = .ok (.getfield 51, 3) := dk_180 (dw rcX11_winningRule_42 16 rfl) rfl
theorem dX11_winningRule_76 : decode cX11_winningRule 76 = .ok (.getfield 347, 3) := dk_180 (dw rcX11_winningRule_42 17 rfl) rfl
theorem dX11_winningRule_79 : decode cX11_winningRule 79 = .ok (.iload_n 2, 1) := dk_28 (dw rcX11_winningRule_42 18 rfl)
theorem dX11_winningRule_80 : decode cX11_winningRule 80 = .ok (.iaload, 1) := dk_46 (dw rcX11_winningRule_42 19 rfl)
theorem dX11_winningRule_81 : decode cX11_winningRule 81 = .ok (.ireturn, 1) := dk_172 (dw rcX11_winningRule_42 20 rfl)
set_option maxHeartbeats 4000000 in
set_option maxRecDepth 100000 in
theorem k_wStart_1 (l : Launch) (D : va_G) (k : KT) (A : Nat → Prop) (a : Nat → Nat) (z : SK) (G : GS)  (hv_0_0 : G.2.2 0 0 = 1) : Met l yX11_startAnew (WS yX11_startAnew cX11_startAnew 1 none) ({ frames := 3, cells := 0, slots := 0, locals := 81 }) (va_Pc [.ref (a 0)] (cW D k A a z G)) (va_Qv (fun (G1 : GS) => P_wStart_1 G G1) (fun (G1 : GS) t => Wd D k A a G1 t.heap) A) 0 0 A := by
  refine Met.ofW (cc := cX11_startAnew) (maxL := 1) (ret := none) (by decide) rfl ?_
  intro p e s m args below meth c s₁ B hml hv
  obtain ⟨rfl, hW, hB_G, hK, hZ⟩ := hv
  have hx := B.exec
  have hb := B.bytes
  have hr := B.returns
  have hts := atoms_spec (ws := WS yX11_startAnew cX11_startAnew 1 none) B.pre
  have hgd : ∀ w ∈ gd, w ∈ WS yX11_startAnew cX11_startAnew 1 none := fun w h => List.mem_cons_of_mem _ h
  have hg : ∀ w ∈ gd, w.before _ s = true := fun w h => hts w (hgd w h)
  have hown : s.vm.findClass RX11 = some m.cls := findClass_of_methodNamed B.named
  have hS : va_S A s.heap s.heap [] := va_S.rf
  have hF : Fr [38, 58, 59] [(0, 12), (6, 4), (30, 3), (30, 4), (30, 5), (31, 5)] G G := Fr.rf
  have hl := lv_entry ([.ref (a 0)]) (n := 1) (Nat.le_of_ble_eq_true rfl)
  rw [lg_entry_eq]
  generalize (lg_sl ([.ref (a 0)]) ++ List.replicate (1 - (lg_sl ([.ref (a 0)])).length) Slot.unset).toArray = ls at hl ⊢
  have hl : lv_has ls 1 [(0, .ref (a 0))] := hl
  refine lv_aload_n hx hb dX11_startAnew_0 rfl (lv_at hl 0 rfl) ?_
  refine S_getR (n := 6) (C := RX11) (T := TX11) (N := 13) hx hb hg iX11 hown hK hW kd_0 rfl 4 (lt_b rfl) (hg (Cond.fieldLink RX11 37 "SlabWalk" "lines" "LSlabWalk$Lines;") m574) (fun _ h9 => h9) rfl dX11_startAnew_1 ?_
  refine lv_aload_n hx hb dX11_startAnew_4 rfl (lv_at hl 0 rfl) ?_
  refine S_getV (n := 1) (C := RX11) (T := TX11) (N := 13) hx hb hg iX11 hown hK hW kd_0 rfl 0 (lt_b rfl) (hg (Cond.fieldLink RX11 10 "SlabWalk" "paving" "LSlabWalk$Paving;") m570) (fun _ h9 => h9) rfl hv_0_0 dX11_startAnew_5 ?_
  refine S_callv (va_runV (As := [.ref (a 1)]) (rest := []) ⟨hx, hb, hml, hown, hts⟩ (k_lLookB_1 l D k A a z G  ) (cwV 1 hts (gd_V hgd m551 m552 m553 m122 m554) rfl rfl rfl hd_X3_lookAt ⟨Nat.le_of_ble_eq_true rfl, Nat.le_of_ble_eq_true rfl⟩) (pre_W hW hB_G hK hZ hS kd_6 rfl) rfl rfl hl.1 rfl (lv_room (Nat.le_of_ble_eq_true rfl)) dX11_startAnew_8 ⟨Nat.le_of_ble_eq_true rfl, Nat.le_of_ble_eq_true rfl⟩) hS (fun G_2 H locs hpo hW hS => ?_)
  have hX_5 : P_lLookB_1 G G_2 := hpo
  obtain ⟨hB_G_2, hq_3, hp_4, -⟩ := hpo
  have hF := hF.call9 hq_3 rfl rfl
  refine lv_aload_n hx hb dX11_startAnew_11 rfl (lv_at hl 0 rfl) ?_
  refine S_getR (n := 30) (C := RX11) (T := TX11) (N := 13) hx hb hg iX11 hown hK hW kd_0 rfl 8 (lt_b rfl) (hg (Cond.fieldLink RX11 65 "SlabWalk" "earnest" "LSlabWalk$Earnest;") m578) (fun _ h9 => h9) rfl dX11_startAnew_12 ?_
  refine lv_aload_n hx hb dX11_startAnew_15 rfl (lv_at hl 0 rfl) ?_
  refine S_getV (n := 1) (C := RX11) (T := TX11) (N := 13) hx hb hg iX11 hown hK hW kd_0 rfl 0 (lt_b rfl) (hg (Cond.fieldLink RX11 10 "SlabWalk" "paving" "LSlabWalk$Paving;") m570) (fun _ h9 => h9) rfl (((hq_3.r9 0 0 rfl rfl)).trans (hv_0_0)) dX11_startAnew_16 ?_
  have b_6 : 0 ≤ (G.1 1 16).toInt ∧ (G.1 1 16).toInt ≤ 999 := bd_1_16 hB_G
  refine S_getI (v := (G.1 1 16)) (C := RX6) (T := TX6) (N := 17) hx hb hg iX6 hown hK hW kd_1 rfl 16 (lt_b rfl) (hg (Cond.fieldLink RX11 323 "SlabWalk$Paving" "draw" "I") m209) (fun _ h9 => h9) rfl (hq_3.i9 1 16 rfl rfl) dX11_startAnew_19 ?_
  refine S_callv (va_runV (As := [.int (G.1 1 16)]) (rest := []) ⟨hx, hb, hml, hown, hts⟩ (k_eStart l D k A a z G_2 (G.1 1 16) ) (cwV 1 hts (gd_V hgd m558 m559 m560 m127 m561) rfl rfl rfl hd_X1_startAnew ⟨Nat.le_of_ble_eq_true rfl, Nat.le_of_ble_eq_true rfl⟩) (pre_W hW hB_G_2 hK hZ hS kd_30 rfl) rfl rfl hl.1 rfl (lv_room (Nat.le_of_ble_eq_true rfl)) dX11_startAnew_22 ⟨Nat.le_of_ble_eq_true rfl, Nat.le_of_ble_eq_true rfl⟩) hS (fun G_8 H locs hpo hW hS => ?_)
  have hX_11 : P_eStart (G.1 1 16) G_2 G_8 := hpo
  obtain ⟨hB_G_8, hq_9, hp_10, -⟩ := hpo
  have hF := hF.call9 hq_9 rfl rfl
  refine lv_aload_n hx hb dX11_startAnew_25 rfl (lv_at hl 0 rfl) ?_
  refine S_getR (n := 31) (C := RX11) (T := TX11) (N := 13) hx hb hg iX11 hown hK hW kd_0 rfl 9 (lt_b rfl) (hg (Cond.fieldLink RX11 72 "SlabWalk" "sights" "LSlabWalk$Sights;") m579) (fun _ h9 => h9) rfl dX11_startAnew_26 ?_
  refine ic_0 hx hb dX11_startAnew_29 ?_
  refine S_putI (ty := .int) (C := RX8) (T := TX8) (N := 7) hx hb hg iX8 tyX8 tyX8_ok nmX8 hown hK hW hS kd_31 rfl 5 (lt_b rfl) (hg (Cond.fieldLink RX11 285 "SlabWalk$Sights" "count" "I") m529) (fun _ h9 => h9) rfl (by decide +kernel) rfl rfl rfl dX11_startAnew_30 (fun G_12 H locs eG_12 hW hS => ?_)
  have hB_G_12 : Bd G_12 := hB_G_8.put (V := 0) (lo := 0) (hi := 20) eG_12 rfl rfl rfl (by decide) (by decide) (hB_G_8.2.put eG_12 rfl)
  have hF := hF.put eG_12 (Or.inr (by decide))
  refine lv_aload_n hx hb dX11_startAnew_33 rfl (lv_at hl 0 rfl) ?_
  refine ic_0 hx hb dX11_startAnew_34 ?_
  refine S_putI (ty := .int) (C := RX11) (T := TX11) (N := 13) hx hb hg iX11 tyX11 tyX11_ok nmX11 hown hK hW hS kd_0 rfl 12 (lt_b rfl) (hg (Cond.fieldLink RX11 150 "SlabWalk" "lie" "I") m582) (fun _ h9 => h9) rfl (by decide +kernel) rfl rfl rfl dX11_startAnew_35 (fun G_13 H locs eG_13 hW hS => ?_)
  have hB_G_13 : Bd G_13 := hB_G_12.put (V := 0) (lo := 0) (hi := 400) eG_13 rfl rfl rfl (by decide) (by decide) (hB_G_12.2.put eG_13 rfl)
  have hF := hF.put eG_13 (Or.inr (by decide))
  have b_14 : 0 ≤ (G_8.1 30 4).toInt ∧ (G_8.1 30 4).toInt ≤ 40 := bd_30_4 hB_G_8
  have g_15 : (G_13.1 30 4).toInt = (G_8.1 30 4).toInt := (congrArg Int32.toInt (show G_13.1 30 4 = (G_8.1 30 4) from ((gp_ne eG_13 (by decide)).trans (gp_ne eG_12 (by decide)))))
  have b_16 : 0 ≤ (G_8.1 30 5).toInt ∧ (G_8.1 30 5).toInt ≤ 40 := bd_30_5 hB_G_8
  have g_17 : (G_13.1 30 5).toInt = (G_8.1 30 5).toInt := (congrArg Int32.toInt (show G_13.1 30 5 = (G_8.1 30 5) from ((gp_ne eG_13 (by decide)).trans (gp_ne eG_12 (by decide)))))
  exact W.vret hx hb hr (fun t ht _ => ⟨⟨G_13, rfl, (P_wStart_1_mk ⟨hB_G_13, hF, (⟨by omega, (((congrFun (congrFun (congrArg (fun q => q.2.2) eG_13) 6) 4).trans ((congrFun (congrFun (congrArg (fun q => q.2.2) eG_12) 6) 4).trans (hq_9.r9 6 4 rfl rfl)))).trans hp_4⟩), ⟨G_2, hX_5, ⟨G_8, hX_11, ⟨(Fr.put (rs := []) (fs := [(0, 12), (31, 5)]) (Fr.put (rs := []) (fs := [(0, 12), (31, 5)]) Fr.rf eG_12 (Or.inr (by decide))) eG_13 (Or.inr (by decide))), (gp_eq eG_13), ((gp_ne eG_13 (by decide)).trans (gp_eq eG_12))⟩⟩⟩⟩), wd_t ht hW⟩, hS.F ht⟩) hS.2.2 dX11_startAnew_38

set_option maxHeartbeats 4000000 in
set_option maxRecDepth 100000 in
theorem k_wAsk_1 (l : Launch) (D : va_G) (k : KT) (A : Nat → Prop) (a : Nat → Nat) (z : SK) (G : GS) (p0 : Int32) (p1 : Int32) (p2 : Int32) (hv_0_0 : G.2.2 0 0 = 1) (hv_0_1 : G.2.2 0 1 = 2) (hv_6_4 : G.2.2 6 4 = 1) : Met l yX11_canAsk (WS yX11_canAsk cX11_canAsk 4 (some .boolean)) ({ frames := 1, cells := 0, slots := 0, locals := 21 }) (va_Pc [.ref (a 0), .int p0, .int p1, .int p2] (cW D k A a z G)) (va_Qi (fun (r : Int32) (G1 : GS) => P_wAsk_1 p0 p1 p2 G r G1) (fun (G1 : GS) t => Wd D k A a G1 t.heap) A) 0 0 A := by
  refine Met.ofW (cc := cX11_canAsk) (maxL := 4) (ret := (some .boolean)) (by decide) rfl ?_
  intro p e s m args below meth c s₁ B hml hv
  obtain ⟨rfl, hW, hB_G, hK, hZ⟩ := hv
  have hx := B.exec
  have hb := B.bytes
  have hr := B.returns
  have hts := atoms_spec (ws := WS yX11_canAsk cX11_canAsk 4 (some .boolean)) B.pre
  have hgd : ∀ w ∈ gd, w ∈ WS yX11_canAsk cX11_canAsk 4 (some .boolean) := fun w h => List.mem_cons_of_mem _ h
  have hg : ∀ w ∈ gd, w.before _ s = true := fun w h => hts w (hgd w h)
  have hown : s.vm.findClass RX11 = some m.cls := findClass_of_methodNamed B.named
  have hS : va_S A s.heap s.heap [] := va_S.rf
  have hF : Fr [] [] G G := Fr.rf
  have hl := lv_entry ([.ref (a 0), .int p0, .int p1, .int p2]) (n := 4) (Nat.le_of_ble_eq_true rfl)
  rw [lg_entry_eq]
  generalize (lg_sl ([.ref (a 0), .int p0, .int p1, .int p2]) ++ List.replicate (4 - (lg_sl ([.ref (a 0), .int p0, .int p1, .int p2])).length) Slot.unset).toArray = ls at hl ⊢
  have hl : lv_has ls 4 [(0, .ref (a 0)), (1, .int p0), (2, .int p1), (3, .int p2)] := hl
  refine lv_aload_n hx hb dX11_canAsk_0 rfl (lv_at hl 0 rfl) ?_
  refine S_getV (n := 1) (C := RX11) (T := TX11) (N := 13) hx hb hg iX11 hown hK hW kd_0 rfl 0 (lt_b rfl) (hg (Cond.fieldLink RX11 10 "SlabWalk" "paving" "LSlabWalk$Paving;") m570) (fun _ h9 => h9) rfl hv_0_0 dX11_canAsk_1 ?_
  refine lv_iload_n hx hb dX11_canAsk_4 rfl (lv_at hl 1 rfl) ?_
  refine S_calli (va_runV (As := [.int p0]) (rest := []) ⟨hx, hb, hml, hown, hts⟩ (k_hasWalker_1 l D k A a z G p0 ) (cwV 1 hts (gd_V hgd m957 m958 m959 m118 m960) rfl rfl rfl hd_X6_hasWalker ⟨Nat.le_of_ble_eq_true rfl, Nat.le_of_ble_eq_true rfl⟩) (pre_W hW hB_G hK hZ hS kd_1 rfl) rfl rfl hl.1 rfl (lv_room (Nat.le_of_ble_eq_true rfl)) dX11_canAsk_5 ⟨Nat.le_of_ble_eq_true rfl, Nat.le_of_ble_eq_true rfl⟩) hS (fun r_1 G_2 H locs hpo hW hS => ?_)
  have hX_5 : P_hasWalker_1 p0 G r_1 G_2 := hpo
  obtain ⟨hB_G_2, hq_3, f_6, hp_4, -⟩ := hpo
  have hF := hF.call9 hq_3 rfl rfl
  refine lv_if_eq (tgt := 37) hx hb dX11_canAsk_8 rfl (fun c_7 => ?_) (fun c_7 => ?_)
  · have c_7 : r_1.toInt = 0 := xI_eq rfl rfl c_7
    refine ic_0 hx hb dX11_canAsk_37 ?_
    exact W.zret (v := 0) hx hb hr (by decide) (fun t ht _ => ⟨⟨0, G_2, rfl, (P_wAsk_1_mk ⟨hB_G_2, hF, ⟨by decide, by decide⟩, (by have hq : (0 : Int32).toInt = 0 := rfl; (try dsimp only); omega), ⟨r_1, G_2, hX_5, (Or.inl ⟨c_7, ⟨rfl, rfl⟩⟩)⟩⟩), wd_t ht hW⟩, hS.F ht⟩) hS.2.2 dX11_canAsk_38
  · have c_7 : r_1.toInt ≠ 0 := xI_ne rfl rfl c_7
    refine lv_aload_n hx hb dX11_canAsk_11 rfl (lv_at hl 0 rfl) ?_
    refine S_getV (n := 1) (C := RX11) (T := TX11) (N := 13) hx hb hg iX11 hown hK hW kd_0 rfl 0 (lt_b rfl) (hg (Cond.fieldLink RX11 10 "SlabWalk" "paving" "LSlabWalk$Paving;") m570) (fun _ h9 => h9) rfl (((hq_3.r9 0 0 rfl rfl)).trans (hv_0_0)) dX11_canAsk_12 ?_
    refine lv_iload_n hx hb dX11_canAsk_15 rfl (lv_at hl 2 rfl) ?_
    have b_8 : 0 ≤ (G.1 1 9).toInt ∧ (G.1 1 9).toInt ≤ 3 := bd_1_9 hB_G
    have g_9 : (G_2.1 1 9).toInt = (G.1 1 9).toInt := (congrArg Int32.toInt (show G_2.1 1 9 = (G.1 1 9) from (hq_3.i9 1 9 rfl rfl)))
    refine S_calli (va_runV (As := [.int p1]) (rest := []) ⟨hx, hb, hml, hown, hts⟩ (k_hasStreet_1 l D k A a z G_2 p1 ) (cwV 1 hts (gd_V hgd m902 m887 m888 m118 m889) rfl rfl rfl hd_X6_hasStreet ⟨Nat.le_of_ble_eq_true rfl, Nat.le_of_ble_eq_true rfl⟩) (pre_W hW hB_G_2 hK hZ hS kd_1 rfl) rfl rfl hl.1 rfl (lv_room (Nat.le_of_ble_eq_true rfl)) dX11_canAsk_16 ⟨Nat.le_of_ble_eq_true rfl, Nat.le_of_ble_eq_true rfl⟩) hS (fun r_10 G_11 H locs hpo hW hS => ?_)
    have hX_14 : P_hasStreet_1 p1 G_2 r_10 G_11 := hpo
    obtain ⟨hB_G_11, hq_12, f_15, hp_13, -⟩ := hpo
    have hF := hF.call9 hq_12 rfl rfl
    refine lv_if_eq (tgt := 37) hx hb dX11_canAsk_19 rfl (fun c_16 => ?_) (fun c_16 => ?_)
    · have c_16 : r_10.toInt = 0 := xI_eq rfl rfl c_16
      refine ic_0 hx hb dX11_canAsk_37 ?_
      exact W.zret (v := 0) hx hb hr (by decide) (fun t ht _ => ⟨⟨0, G_11, rfl, (P_wAsk_1_mk ⟨hB_G_11, hF, ⟨by decide, by decide⟩, (by have hq : (0 : Int32).toInt = 0 := rfl; (try dsimp only); omega), ⟨r_1, G_2, hX_5, (Or.inr ⟨c_7, ⟨r_10, G_11, hX_14, (Or.inl ⟨c_16, ⟨rfl, rfl⟩⟩)⟩⟩)⟩⟩), wd_t ht hW⟩, hS.F ht⟩) hS.2.2 dX11_canAsk_38
    · have c_16 : r_10.toInt ≠ 0 := xI_ne rfl rfl c_16
      refine lv_aload_n hx hb dX11_canAsk_22 rfl (lv_at hl 0 rfl) ?_
      refine S_getV (n := 1) (C := RX11) (T := TX11) (N := 13) hx hb hg iX11 hown hK hW kd_0 rfl 0 (lt_b rfl) (hg (Cond.fieldLink RX11 10 "SlabWalk" "paving" "LSlabWalk$Paving;") m570) (fun _ h9 => h9) rfl ((((hq_12.r9 0 0 rfl rfl).trans (hq_3.r9 0 0 rfl rfl))).trans (hv_0_0)) dX11_canAsk_23 ?_
      refine lv_iload_n hx hb dX11_canAsk_26 rfl (lv_at hl 3 rfl) ?_
      refine S_calli (va_runV (As := [.int p2]) (rest := []) ⟨hx, hb, hml, hown, hts⟩ (k_hasSet_1 l D k A a z G_11 p2 ) (cwV 1 hts (gd_V hgd m907 m908 m909 m118 m910) rfl rfl rfl hd_X6_hasSet ⟨Nat.le_of_ble_eq_true rfl, Nat.le_of_ble_eq_true rfl⟩) (pre_W hW hB_G_11 hK hZ hS kd_1 rfl) rfl rfl hl.1 rfl (lv_room (Nat.le_of_ble_eq_true rfl)) dX11_canAsk_27 ⟨Nat.le_of_ble_eq_true rfl, Nat.le_of_ble_eq_true rfl⟩) hS (fun r_17 G_18 H locs hpo hW hS => ?_)
      have hX_21 : P_hasSet_1 p2 G_11 r_17 G_18 := hpo
      obtain ⟨hB_G_18, hq_19, f_22, hp_20, -⟩ := hpo
      have hF := hF.call9 hq_19 rfl rfl
      refine lv_if_eq (tgt := 37) hx hb dX11_canAsk_30 rfl (fun c_23 => ?_) (fun c_23 => ?_)
      · have c_23 : r_17.toInt = 0 := xI_eq rfl rfl c_23
        refine ic_0 hx hb dX11_canAsk_37 ?_
        exact W.zret (v := 0) hx hb hr (by decide) (fun t ht _ => ⟨⟨0, G_18, rfl, (P_wAsk_1_mk ⟨hB_G_18, hF, ⟨by decide, by decide⟩, (by have hq : (0 : Int32).toInt = 0 := rfl; (try dsimp only); omega), ⟨r_1, G_2, hX_5, (Or.inr ⟨c_7, ⟨r_10, G_11, hX_14, (Or.inr ⟨c_16, ⟨r_17, G_18, hX_21, (Or.inl ⟨c_23, ⟨rfl, rfl⟩⟩)⟩⟩)⟩⟩)⟩⟩), wd_t ht hW⟩, hS.F ht⟩) hS.2.2 dX11_canAsk_38
      · have c_23 : r_17.toInt ≠ 0 := xI_ne rfl rfl c_23
        refine ic_1 hx hb dX11_canAsk_33 ?_
        refine lv_goto (tgt := 38) hx hb dX11_canAsk_34 rfl ?_
        exact W.zret (v := 1) hx hb hr (by decide) (fun t ht _ => ⟨⟨1, G_18, rfl, (P_wAsk_1_mk ⟨hB_G_18, hF, ⟨by decide, by decide⟩, (by have hq : (1 : Int32).toInt = 1 := rfl; (try dsimp only); omega), ⟨r_1, G_2, hX_5, (Or.inr ⟨c_7, ⟨r_10, G_11, hX_14, (Or.inr ⟨c_16, ⟨r_17, G_18, hX_21, (Or.inr ⟨c_23, ⟨rfl, rfl⟩⟩)⟩⟩)⟩⟩)⟩⟩), wd_t ht hW⟩, hS.F ht⟩) hS.2.2 dX11_canAsk_38

set_option maxHeartbeats 4000000 in
set_option maxRecDepth 100000 in
theorem k_wBrave_1 (l : Launch) (D : va_G) (k : KT) (A : Nat → Prop) (a : Nat → Nat) (z : SK) (G : GS) (p0 : Int32) (p1 : Int32) (p2 : Int32) (p3 : Int32) (p4 : Int32) (hv_0_0 : G.2.2 0 0 = 1) (hv_0_1 : G.2.2 0 1 = 2) (hv_6_4 : G.2.2 6 4 = 1) : Met l yX11_canBeBrave (WS yX11_canBeBrave cX11_canBeBrave 6 (some .boolean)) ({ frames := 2, cells := 0, slots := 0, locals := 44 }) (va_Pc [.ref (a 0), .int p0, .int p1, .int p2, .int p3, .int p4] (cW D k A a z G)) (va_Qi (fun (r : Int32) (G1 : GS) => P_wBrave_1 p0 p1 p2 p3 p4 G r G1) (fun (G1 : GS) t => Wd D k A a G1 t.heap) A) 0 0 A := by
  refine Met.ofW (cc := cX11_canBeBrave) (maxL := 6) (ret := (some .boolean)) (by decide) rfl ?_
  intro p e s m args below meth c s₁ B hml hv
  obtain ⟨rfl, hW, hB_G, hK, hZ⟩ := hv
  have hx := B.exec
  have hb := B.bytes
  have hr := B.returns
  have hts := atoms_spec (ws := WS yX11_canBeBrave cX11_canBeBrave 6 (some .boolean)) B.pre
  have hgd : ∀ w ∈ gd, w ∈ WS yX11_canBeBrave cX11_canBeBrave 6 (some .boolean) := fun w h => List.mem_cons_of_mem _ h
  have hg : ∀ w ∈ gd, w.before _ s = true := fun w h => hts w (hgd w h)
  have hown : s.vm.findClass RX11 = some m.cls := findClass_of_methodNamed B.named
  have hS : va_S A s.heap s.heap [] := va_S.rf
  have hF : Fr [] [] G G := Fr.rf
  have hl := lv_entry ([.ref (a 0), .int p0, .int p1, .int p2, .int p3, .int p4]) (n := 6) (Nat.le_of_ble_eq_true rfl)
  rw [lg_entry_eq]
  generalize (lg_sl ([.ref (a 0), .int p0, .int p1, .int p2, .int p3, .int p4]) ++ List.replicate (6 - (lg_sl ([.ref (a 0), .int p0, .int p1, .int p2, .int p3, .int p4])).length) Slot.unset).toArray = ls at hl ⊢
  have hl : lv_has ls 6 [(0, .ref (a 0)), (1, .int p0), (2, .int p1), (3, .int p2), (4, .int p3), (5, .int p4)] := hl
  refine lv_aload_n hx hb dX11_canBeBrave_0 rfl (lv_at hl 0 rfl) ?_
  refine lv_iload_n hx hb dX11_canBeBrave_1 rfl (lv_at hl 1 rfl) ?_
  refine lv_iload_n hx hb dX11_canBeBrave_2 rfl (lv_at hl 2 rfl) ?_
  refine lv_iload_n hx hb dX11_canBeBrave_3 rfl (lv_at hl 3 rfl) ?_
  refine S_calli (va_runV (As := [.int p0, .int p1, .int p2]) (rest := []) ⟨hx, hb, hml, hown, hts⟩ (k_wAsk_1 l D k A a z G p0 p1 p2 hv_0_0 hv_0_1 hv_6_4) (cwV 3 hts (gd_V hgd m953 m955 m31 m117 m956) rfl rfl rfl hd_X11_canAsk ⟨Nat.le_of_ble_eq_true rfl, Nat.le_of_ble_eq_true rfl⟩) (pre_W hW hB_G hK hZ hS kd_0 rfl) rfl rfl hl.1 rfl (lv_room (Nat.le_of_ble_eq_true rfl)) dX11_canBeBrave_4 ⟨Nat.le_of_ble_eq_true rfl, Nat.le_of_ble_eq_true rfl⟩) hS (fun r_1 G_2 H locs hpo hW hS => ?_)
  have hX_5 : P_wAsk_1 p0 p1 p2 G r_1 G_2 := hpo
  obtain ⟨hB_G_2, hq_3, f_6, hp_4, -⟩ := hpo
  have hF := hF.call9 hq_3 rfl rfl
  refine lv_if_eq (tgt := 41) hx hb dX11_canBeBrave_7 rfl (fun c_7 => ?_) (fun c_7 => ?_)
  · have c_7 : r_1.toInt = 0 := xI_eq rfl rfl c_7
    refine ic_0 hx hb dX11_canBeBrave_41 ?_
    exact W.zret (v := 0) hx hb hr (by decide) (fun t ht _ => ⟨⟨0, G_2, rfl, (P_wBrave_1_mk ⟨hB_G_2, hF, ⟨by decide, by decide⟩, (by have hq : (0 : Int32).toInt = 0 := rfl; (try dsimp only); omega), ⟨r_1, G_2, hX_5, (Or.inl ⟨c_7, ⟨rfl, rfl⟩⟩)⟩⟩), wd_t ht hW⟩, hS.F ht⟩) hS.2.2 dX11_canBeBrave_42
  · have c_7 : r_1.toInt ≠ 0 := xI_ne rfl rfl c_7
    refine lv_aload_n hx hb dX11_canBeBrave_10 rfl (lv_at hl 0 rfl) ?_
    refine S_getV (n := 1) (C := RX11) (T := TX11) (N := 13) hx hb hg iX11 hown hK hW kd_0 rfl 0 (lt_b rfl) (hg (Cond.fieldLink RX11 10 "SlabWalk" "paving" "LSlabWalk$Paving;") m570) (fun _ h9 => h9) rfl (((hq_3.r9 0 0 rfl rfl)).trans (hv_0_0)) dX11_canBeBrave_11 ?_
    refine lv_iload_n hx hb dX11_canBeBrave_14 rfl (lv_at hl 1 rfl) ?_
    refine lv_iload_n hx hb dX11_canBeBrave_15 rfl (lv_at hl 2 rfl) ?_
    refine lv_iload hx hb dX11_canBeBrave_16 (lv_at hl 4 rfl) ?_
    have b_8 : 0 ≤ (G.1 1 10).toInt ∧ (G.1 1 10).toInt ≤ 4 := bd_1_10 hB_G
    have g_9 : (G_2.1 1 10).toInt = (G.1 1 10).toInt := (congrArg Int32.toInt (show G_2.1 1 10 = (G.1 1 10) from (hq_3.i9 1 10 rfl rfl)))
    refine S_calli (va_runV (As := [.int p0, .int p1, .int p3]) (rest := []) ⟨hx, hb, hml, hown, hts⟩ (k_stands_1 l D k A a z G_2 p0 p1 p3 ) (cwV 3 hts (gd_V hgd m1121 m966 m967 m118 m968) rfl rfl rfl hd_X6_stands ⟨Nat.le_of_ble_eq_true rfl, Nat.le_of_ble_eq_true rfl⟩) (pre_W hW hB_G_2 hK hZ hS kd_1 rfl) rfl rfl hl.1 rfl (lv_room (Nat.le_of_ble_eq_true rfl)) dX11_canBeBrave_18 ⟨Nat.le_of_ble_eq_true rfl, Nat.le_of_ble_eq_true rfl⟩) hS (fun r_10 G_11 H locs hpo hW hS => ?_)
    have hX_14 : P_stands_1 p0 p1 p3 G_2 r_10 G_11 := hpo
    obtain ⟨hB_G_11, hq_12, f_15, hp_13, -⟩ := hpo
    have hF := hF.call9 hq_12 rfl rfl
    refine lv_if_eq (tgt := 41) hx hb dX11_canBeBrave_21 rfl (fun c_16 => ?_) (fun c_16 => ?_)
    · have c_16 : r_10.toInt = 0 := xI_eq rfl rfl c_16
      refine ic_0 hx hb dX11_canBeBrave_41 ?_
      exact W.zret (v := 0) hx hb hr (by decide) (fun t ht _ => ⟨⟨0, G_11, rfl, (P_wBrave_1_mk ⟨hB_G_11, hF, ⟨by decide, by decide⟩, (by have hq : (0 : Int32).toInt = 0 := rfl; (try dsimp only); omega), ⟨r_1, G_2, hX_5, (Or.inr ⟨c_7, ⟨r_10, G_11, hX_14, (Or.inl ⟨c_16, ⟨rfl, rfl⟩⟩)⟩⟩)⟩⟩), wd_t ht hW⟩, hS.F ht⟩) hS.2.2 dX11_canBeBrave_42
    · have c_16 : r_10.toInt ≠ 0 := xI_ne rfl rfl c_16
      refine lv_iload hx hb dX11_canBeBrave_24 (lv_at hl 5 rfl) ?_
      refine ic_1 hx hb dX11_canBeBrave_26 ?_
      refine lv_icmp_lt (tgt := 41) hx hb dX11_canBeBrave_27 rfl (fun c_17 => ?_) (fun c_17 => ?_)
      · have c_17 : p4.toInt < 1 := xI_lt rfl rfl c_17
        refine ic_0 hx hb dX11_canBeBrave_41 ?_
        exact W.zret (v := 0) hx hb hr (by decide) (fun t ht _ => ⟨⟨0, G_11, rfl, (P_wBrave_1_mk ⟨hB_G_11, hF, ⟨by decide, by decide⟩, (by have hq : (0 : Int32).toInt = 0 := rfl; (try dsimp only); omega), ⟨r_1, G_2, hX_5, (Or.inr ⟨c_7, ⟨r_10, G_11, hX_14, (Or.inr ⟨c_16, (Or.inl ⟨c_17, ⟨rfl, rfl⟩⟩)⟩)⟩⟩)⟩⟩), wd_t ht hW⟩, hS.F ht⟩) hS.2.2 dX11_canBeBrave_42
      · have c_17 : 1 ≤ p4.toInt := xI_nlt rfl rfl c_17
        refine lv_iload hx hb dX11_canBeBrave_30 (lv_at hl 5 rfl) ?_
        refine lv_bipush (v := 8) hx hb dX11_canBeBrave_32 (by decide) ?_
        refine lv_icmp_gt (tgt := 41) hx hb dX11_canBeBrave_34 rfl (fun c_18 => ?_) (fun c_18 => ?_)
        · have c_18 : 8 < p4.toInt := xI_lt rfl rfl c_18
          refine ic_0 hx hb dX11_canBeBrave_41 ?_
          exact W.zret (v := 0) hx hb hr (by decide) (fun t ht _ => ⟨⟨0, G_11, rfl, (P_wBrave_1_mk ⟨hB_G_11, hF, ⟨by decide, by decide⟩, (by have hq : (0 : Int32).toInt = 0 := rfl; (try dsimp only); omega), ⟨r_1, G_2, hX_5, (Or.inr ⟨c_7, ⟨r_10, G_11, hX_14, (Or.inr ⟨c_16, (Or.inr ⟨c_17, (Or.inl ⟨c_18, ⟨rfl, rfl⟩⟩)⟩)⟩)⟩⟩)⟩⟩), wd_t ht hW⟩, hS.F ht⟩) hS.2.2 dX11_canBeBrave_42
        · have c_18 : p4.toInt ≤ 8 := xI_nlt rfl rfl c_18
          refine ic_1 hx hb dX11_canBeBrave_37 ?_
          refine lv_goto (tgt := 42) hx hb dX11_canBeBrave_38 rfl ?_
          exact W.zret (v := 1) hx hb hr (by decide) (fun t ht _ => ⟨⟨1, G_11, rfl, (P_wBrave_1_mk ⟨hB_G_11, hF, ⟨by decide, by decide⟩, (by have hq : (1 : Int32).toInt = 1 := rfl; (try dsimp only); omega), ⟨r_1, G_2, hX_5, (Or.inr ⟨c_7, ⟨r_10, G_11, hX_14, (Or.inr ⟨c_16, (Or.inr ⟨c_17, (Or.inr ⟨c_18, ⟨rfl, rfl⟩⟩)⟩)⟩)⟩⟩)⟩⟩), wd_t ht hW⟩, hS.F ht⟩) hS.2.2 dX11_canBeBrave_42

set_option maxHeartbeats 4000000 in
set_option maxRecDepth 100000 in
theorem k_wGo_1 (l : Launch) (D : va_G) (k : KT) (A : Nat → Prop) (a : Nat → Nat) (z : SK) (G : GS) (p0 : Int32) (hv_0_0 : G.2.2 0 0 = 1) (hv_0_1 : G.2.2 0 1 = 2) (hv_6_4 : G.2.2 6 4 = 1) : Met l yX11_canGo (WS yX11_canGo cX11_canGo 4 (some .boolean)) ({ frames := 1, cells := 0, slots := 0, locals := 21 }) (va_Pc [.ref (a 0), .int p0] (cW D k A a z G)) (va_Qi (fun (r : Int32) (G1 : GS) => P_wGo_1 p0 G r G1) (fun (G1 : GS) t => Wd D k A a G1 t.heap) A) 0 0 A := by
  refine Met.ofW (cc := cX11_canGo) (maxL := 4) (ret := (some .boolean)) (by decide) rfl ?_
  intro p e s m args below meth c s₁ B hml hv
  obtain ⟨rfl, hW, hB_G, hK, hZ⟩ := hv
  have hx := B.exec
  have hb := B.bytes
  have hr := B.returns
  have hts := atoms_spec (ws := WS yX11_canGo cX11_canGo 4 (some .boolean)) B.pre
  have hgd : ∀ w ∈ gd, w ∈ WS yX11_canGo cX11_canGo 4 (some .boolean) := fun w h => List.mem_cons_of_mem _ h
  have hg : ∀ w ∈ gd, w.before _ s = true := fun w h => hts w (hgd w h)
  have hown : s.vm.findClass RX11 = some m.cls := findClass_of_methodNamed B.named
  have hS : va_S A s.heap s.heap [] := va_S.rf
  have hF : Fr [] [] G G := Fr.rf
  have hl := lv_entry ([.ref (a 0), .int p0]) (n := 4) (Nat.le_of_ble_eq_true rfl)
  rw [lg_entry_eq]
  generalize (lg_sl ([.ref (a 0), .int p0]) ++ List.replicate (4 - (lg_sl ([.ref (a 0), .int p0])).length) Slot.unset).toArray = ls at hl ⊢
  have hl : lv_has ls 4 [(0, .ref (a 0)), (1, .int p0)] := hl
  refine lv_aload_n hx hb dX11_canGo_0 rfl (lv_at hl 0 rfl) ?_
  refine S_getR (n := 30) (C := RX11) (T := TX11) (N := 13) hx hb hg iX11 hown hK hW kd_0 rfl 8 (lt_b rfl) (hg (Cond.fieldLink RX11 65 "SlabWalk" "earnest" "LSlabWalk$Earnest;") m578) (fun _ h9 => h9) rfl dX11_canGo_1 ?_
  refine S_getR (n := 58) (C := RX1) (T := TX1) (N := 6) hx hb hg iX1 hown hK hW kd_30 rfl 0 (lt_b rfl) (hg (Cond.fieldLink RX11 246 "SlabWalk$Earnest" "now" "[I") m493) (fun _ h9 => h9) rfl dX11_canGo_4 ?_
  refine ic_0 hx hb dX11_canGo_7 ?_
  refine S_iald hx hb hK hW kd_58 (vin (by decide) (by decide)) dX11_canGo_8 (fun y_1 ey_1 => ?_)
  have u_2 : y_1.toInt = (G.1 58 0).toInt := congrArg Int32.toInt (ey_1)
  refine lv_istore_n (lv' := [(2, .int y_1), (0, .ref (a 0)), (1, .int p0)]) hx hb dX11_canGo_9 rfl hl (lt_b rfl) rfl (fun ls hl => ?_)
  refine lv_aload_n hx hb dX11_canGo_10 rfl (lv_at hl 1 rfl) ?_
  refine S_getV (n := 1) (C := RX11) (T := TX11) (N := 13) hx hb hg iX11 hown hK hW kd_0 rfl 0 (lt_b rfl) (hg (Cond.fieldLink RX11 10 "SlabWalk" "paving" "LSlabWalk$Paving;") m570) (fun _ h9 => h9) rfl hv_0_0 dX11_canGo_11 ?_
  refine lv_iload_n hx hb dX11_canGo_14 rfl (lv_at hl 0 rfl) ?_
  refine S_calli (va_runV (As := [.int y_1]) (rest := []) ⟨hx, hb, hml, hown, hts⟩ (k_hasWalker_1 l D k A a z G y_1 ) (cwV 1 hts (gd_V hgd m957 m958 m959 m118 m960) rfl rfl rfl hd_X6_hasWalker ⟨Nat.le_of_ble_eq_true rfl, Nat.le_of_ble_eq_true rfl⟩) (pre_W hW hB_G hK hZ hS kd_1 rfl) rfl rfl hl.1 rfl (lv_room (Nat.le_of_ble_eq_true rfl)) dX11_canGo_15 ⟨Nat.le_of_ble_eq_true rfl, Nat.le_of_ble_eq_true rfl⟩) hS (fun r_3 G_4 H locs hpo hW hS => ?_)
  have hX_7 : P_hasWalker_1 y_1 G r_3 G_4 := hpo
  obtain ⟨hB_G_4, hq_5, f_8, hp_6, -⟩ := hpo
  have hF := hF.call9 hq_5 rfl rfl
  refine lv_if_eq (tgt := 47) hx hb dX11_canGo_18 rfl (fun c_9 => ?_) (fun c_9 => ?_)
  · have c_9 : r_3.toInt = 0 := xI_eq rfl rfl c_9
    refine ic_0 hx hb dX11_canGo_47 ?_
    exact W.zret (v := 0) hx hb hr (by decide) (fun t ht _ => ⟨⟨0, G_4, rfl, (P_wGo_1_mk ⟨hB_G_4, hF, ⟨by decide, by decide⟩, (by have hq : (0 : Int32).toInt = 0 := rfl; (try dsimp only); omega), ⟨y_1, ey_1, ⟨r_3, G_4, hX_7, (Or.inl ⟨c_9, ⟨rfl, rfl⟩⟩)⟩⟩⟩), wd_t ht hW⟩, hS.F ht⟩) hS.2.2 dX11_canGo_48
  · have c_9 : r_3.toInt ≠ 0 := xI_ne rfl rfl c_9
    refine lv_aload_n hx hb dX11_canGo_21 rfl (lv_at hl 1 rfl) ?_
    refine S_getR (n := 30) (C := RX11) (T := TX11) (N := 13) hx hb hg iX11 hown hK hW kd_0 rfl 8 (lt_b rfl) (hg (Cond.fieldLink RX11 65 "SlabWalk" "earnest" "LSlabWalk$Earnest;") m578) (fun _ h9 => h9) rfl dX11_canGo_22 ?_
    refine S_getR (n := 58) (C := RX1) (T := TX1) (N := 6) hx hb hg iX1 hown hK hW kd_30 rfl 0 (lt_b rfl) (hg (Cond.fieldLink RX11 246 "SlabWalk$Earnest" "now" "[I") m493) (fun _ h9 => h9) rfl dX11_canGo_25 ?_
    refine ic_4 hx hb dX11_canGo_28 ?_
    refine S_iald hx hb hK hW kd_58 (vin (by decide) (by decide)) dX11_canGo_29 (fun y_10 ey_10 => ?_)
    refine ic_1 hx hb dX11_canGo_30 ?_
    refine lv_icmp_ne (tgt := 47) hx hb dX11_canGo_31 rfl (fun c_11 => ?_) (fun c_11 => ?_)
    · have c_11 : y_10.toInt ≠ 1 := xI_ne rfl rfl c_11
      refine ic_0 hx hb dX11_canGo_47 ?_
      exact W.zret (v := 0) hx hb hr (by decide) (fun t ht _ => ⟨⟨0, G_4, rfl, (P_wGo_1_mk ⟨hB_G_4, hF, ⟨by decide, by decide⟩, (by have hq : (0 : Int32).toInt = 0 := rfl; (try dsimp only); omega), ⟨y_1, ey_1, ⟨r_3, G_4, hX_7, (Or.inr ⟨c_9, ⟨y_10, ey_10, (Or.inr ⟨c_11, ⟨rfl, rfl⟩⟩)⟩⟩)⟩⟩⟩), wd_t ht hW⟩, hS.F ht⟩) hS.2.2 dX11_canGo_48
    · have c_11 : y_10.toInt = 1 := xI_eq rfl rfl c_11
      refine lv_iload_n hx hb dX11_canGo_34 rfl (lv_at hl 2 rfl) ?_
      refine lv_aload_n hx hb dX11_canGo_35 rfl (lv_at hl 1 rfl) ?_
      refine S_getV (n := 1) (C := RX11) (T := TX11) (N := 13) hx hb hg iX11 hown hK hW kd_0 rfl 0 (lt_b rfl) (hg (Cond.fieldLink RX11 10 "SlabWalk" "paving" "LSlabWalk$Paving;") m570) (fun _ h9 => h9) rfl (((hq_5.r9 0 0 rfl rfl)).trans (hv_0_0)) dX11_canGo_36 ?_
      refine S_getR (n := 13) (C := RX6) (T := TX6) (N := 17) hx hb hg iX6 hown hK hW kd_1 rfl 3 (lt_b rfl) (hg (Cond.fieldLink RX11 331 "SlabWalk$Paving" "least" "[I") m169) (fun _ h9 => h9) rfl dX11_canGo_39 ?_
      refine lv_iload_n hx hb dX11_canGo_42 rfl (lv_at hl 0 rfl) ?_
      refine S_iald hx hb hK hW kd_13 (vin (by omega) (by omega)) dX11_canGo_43 (fun y_12 ey_12 => ?_)
      have ty_12 : 0 ≤ y_12.toInt ∧ y_12.toInt ≤ 60 := bv_13 hB_G_4 ey_12
      refine lv_icmp_ge (tgt := 49) hx hb dX11_canGo_44 rfl (fun c_13 => ?_) (fun c_13 => ?_)
      · have c_13 : y_12.toInt ≤ p0.toInt := xI_le rfl rfl c_13
        refine lv_aload_n hx hb dX11_canGo_49 rfl (lv_at hl 1 rfl) ?_
        refine S_getR (n := 30) (C := RX11) (T := TX11) (N := 13) hx hb hg iX11 hown hK hW kd_0 rfl 8 (lt_b rfl) (hg (Cond.fieldLink RX11 65 "SlabWalk" "earnest" "LSlabWalk$Earnest;") m578) (fun _ h9 => h9) rfl dX11_canGo_50 ?_
        refine S_getR (n := 58) (C := RX1) (T := TX1) (N := 6) hx hb hg iX1 hown hK hW kd_30 rfl 0 (lt_b rfl) (hg (Cond.fieldLink RX11 246 "SlabWalk$Earnest" "now" "[I") m493) (fun _ h9 => h9) rfl dX11_canGo_53 ?_
        refine ic_5 hx hb dX11_canGo_56 ?_
        refine S_iald hx hb hK hW kd_58 (vin (by decide) (by decide)) dX11_canGo_57 (fun y_14 ey_14 => ?_)
        refine ic_1 hx hb dX11_canGo_58 ?_
        refine W.cut (σ := Int32) (pcJ := 67) (J := fun y H locs ls => ∃ (G_19 : GS), (0 ≤ y.toInt ∧ y.toInt ≤ 1) ∧ Jn_k_wGo_1_1 y_14 G_4 y G_19 ∧ Wd D k A a G_19 H ∧ Bd G_19 ∧ Fr [] [] G G_19 ∧ Fr [] [] G_4 G_19 ∧ va_S A s.heap H locs ∧ lv_has ls 4 [(2, .int y_1), (0, .ref (a 0)), (1, .int p0)]) (stJ := fun y => [.int y]) ?_ (fun hJ_20 => ?_)
        · intro y H locs ls hI
          obtain ⟨w_18, hy⟩ : ∃ q, q = y := ⟨_, rfl⟩
          subst hy
          obtain ⟨G_19, f_23, hX_22, hW, hB_G_19, hF, hq_21, hS, hl⟩ := hI
          refine lv_istore_n (lv' := [(3, .int w_18), (2, .int y_1), (0, .ref (a 0)), (1, .int p0)]) hx hb dX11_canGo_67 rfl hl (lt_b rfl) rfl (fun ls hl => ?_)
          refine lv_iload_n hx hb dX11_canGo_68 rfl (lv_at hl 3 rfl) ?_
          refine lv_iload_n hx hb dX11_canGo_69 rfl (lv_at hl 0 rfl) ?_
          refine lv_if_eq (tgt := 85) hx hb dX11_canGo_70 rfl (fun c_24 => ?_) (fun c_24 => ?_)
          · have c_24 : w_18.toInt = 0 := xI_eq rfl rfl c_24
            refine lv_aload_n hx hb dX11_canGo_85 rfl (lv_at hl 2 rfl) ?_
            refine S_getV (n := 1) (C := RX11) (T := TX11) (N := 13) hx hb hg iX11 hown hK hW kd_0 rfl 0 (lt_b rfl) (hg (Cond.fieldLink RX11 10 "SlabWalk" "paving" "LSlabWalk$Paving;") m570) (fun _ h9 => h9) rfl ((((hq_21.r9 0 0 rfl rfl).trans (hq_5.r9 0 0 rfl rfl))).trans (hv_0_0)) dX11_canGo_86 ?_
            refine S_getR (n := 15) (C := RX6) (T := TX6) (N := 17) hx hb hg iX6 hown hK hW kd_1 rfl 5 (lt_b rfl) (hg (Cond.fieldLink RX11 333 "SlabWalk$Paving" "leap" "[I") m177) (fun _ h9 => h9) rfl dX11_canGo_89 ?_
            refine lv_iload_n hx hb dX11_canGo_92 rfl (lv_at hl 1 rfl) ?_
            refine S_iald hx hb hK hW kd_15 (vin ((by first | (clear c_11 ty_12 c_13 f_23 c_24; omega) | omega)) ((by first | (clear c_11 ty_12 c_13 f_23 c_24; omega) | omega))) dX11_canGo_93 (fun y_25 ey_25 => ?_)
            have ty_25 : 0 ≤ y_25.toInt ∧ y_25.toInt ≤ 99 := bv_15 hB_G_19 ey_25
            refine lv_icmp_gt (tgt := 101) hx hb dX11_canGo_94 rfl (fun c_26 => ?_) (fun c_26 => ?_)
            · have c_26 : y_25.toInt < p0.toInt := xI_lt rfl rfl c_26
              refine ic_0 hx hb dX11_canGo_101 ?_
              exact W.zret (v := 0) hx hb hr (by decide) (fun t ht _ => ⟨⟨0, G_19, rfl, (P_wGo_1_mk ⟨hB_G_19, hF, ⟨by decide, by decide⟩, (by have hq : (0 : Int32).toInt = 0 := rfl; (try dsimp only); omega), ⟨y_1, ey_1, ⟨r_3, G_4, hX_7, (Or.inr ⟨c_9, ⟨y_10, ey_10, (Or.inl ⟨c_11, ⟨y_12, ey_12, (Or.inl ⟨c_13, ⟨y_14, ey_14, ⟨w_18, G_19, hX_22, f_23, hB_G_19, hq_21, (Or.inl ⟨c_24, ⟨y_25, ey_25, (Or.inl ⟨c_26, ⟨rfl, rfl⟩⟩)⟩⟩)⟩⟩⟩)⟩⟩)⟩⟩)⟩⟩⟩), wd_t ht hW⟩, hS.F ht⟩) hS.2.2 dX11_canGo_102
            · have c_26 : p0.toInt ≤ y_25.toInt := xI_nlt rfl rfl c_26
              refine ic_1 hx hb dX11_canGo_97 ?_
              refine lv_goto (tgt := 102) hx hb dX11_canGo_98 rfl ?_
              exact W.zret (v := 1) hx hb hr (by decide) (fun t ht _ => ⟨⟨1, G_19, rfl, (P_wGo_1_mk ⟨hB_G_19, hF, ⟨by decide, by decide⟩, (by have hq : (1 : Int32).toInt = 1 := rfl; (try dsimp only); omega), ⟨y_1, ey_1, ⟨r_3, G_4, hX_7, (Or.inr ⟨c_9, ⟨y_10, ey_10, (Or.inl ⟨c_11, ⟨y_12, ey_12, (Or.inl ⟨c_13, ⟨y_14, ey_14, ⟨w_18, G_19, hX_22, f_23, hB_G_19, hq_21, (Or.inl ⟨c_24, ⟨y_25, ey_25, (Or.inr ⟨c_26, ⟨rfl, rfl⟩⟩)⟩⟩)⟩⟩⟩)⟩⟩)⟩⟩)⟩⟩⟩), wd_t ht hW⟩, hS.F ht⟩) hS.2.2 dX11_canGo_102
          · have c_24 : w_18.toInt ≠ 0 := xI_ne rfl rfl c_24
            refine lv_aload_n hx hb dX11_canGo_73 rfl (lv_at hl 2 rfl) ?_
            refine S_getV (n := 1) (C := RX11) (T := TX11) (N := 13) hx hb hg iX11 hown hK hW kd_0 rfl 0 (lt_b rfl) (hg (Cond.fieldLink RX11 10 "SlabWalk" "paving" "LSlabWalk$Paving;") m570) (fun _ h9 => h9) rfl ((((hq_21.r9 0 0 rfl rfl).trans (hq_5.r9 0 0 rfl rfl))).trans (hv_0_0)) dX11_canGo_74 ?_
            refine S_getR (n := 14) (C := RX6) (T := TX6) (N := 17) hx hb hg iX6 hown hK hW kd_1 rfl 4 (lt_b rfl) (hg (Cond.fieldLink RX11 237 "SlabWalk$Paving" "most" "[I") m173) (fun _ h9 => h9) rfl dX11_canGo_77 ?_
            refine lv_iload_n hx hb dX11_canGo_80 rfl (lv_at hl 1 rfl) ?_
            refine S_iald hx hb hK hW kd_14 (vin ((by first | (clear c_11 ty_12 c_13 f_23 c_24; omega) | omega)) ((by first | (clear c_11 ty_12 c_13 f_23 c_24; omega) | omega))) dX11_canGo_81 (fun y_27 ey_27 => ?_)
            have ty_27 : 0 ≤ y_27.toInt ∧ y_27.toInt ≤ 60 := bv_14 hB_G_19 ey_27
            refine lv_goto (tgt := 94) hx hb dX11_canGo_82 rfl ?_
            refine lv_icmp_gt (tgt := 101) hx hb dX11_canGo_94 rfl (fun c_28 => ?_) (fun c_28 => ?_)
            · have c_28 : y_27.toInt < p0.toInt := xI_lt rfl rfl c_28
              refine ic_0 hx hb dX11_canGo_101 ?_
              exact W.zret (v := 0) hx hb hr (by decide) (fun t ht _ => ⟨⟨0, G_19, rfl, (P_wGo_1_mk ⟨hB_G_19, hF, ⟨by decide, by decide⟩, (by have hq : (0 : Int32).toInt = 0 := rfl; (try dsimp only); omega), ⟨y_1, ey_1, ⟨r_3, G_4, hX_7, (Or.inr ⟨c_9, ⟨y_10, ey_10, (Or.inl ⟨c_11, ⟨y_12, ey_12, (Or.inl ⟨c_13, ⟨y_14, ey_14, ⟨w_18, G_19, hX_22, f_23, hB_G_19, hq_21, (Or.inr ⟨c_24, ⟨y_27, ey_27, (Or.inl ⟨c_28, ⟨rfl, rfl⟩⟩)⟩⟩)⟩⟩⟩)⟩⟩)⟩⟩)⟩⟩⟩), wd_t ht hW⟩, hS.F ht⟩) hS.2.2 dX11_canGo_102
            · have c_28 : p0.toInt ≤ y_27.toInt := xI_nlt rfl rfl c_28
              refine ic_1 hx hb dX11_canGo_97 ?_
              refine lv_goto (tgt := 102) hx hb dX11_canGo_98 rfl ?_
              exact W.zret (v := 1) hx hb hr (by decide) (fun t ht _ => ⟨⟨1, G_19, rfl, (P_wGo_1_mk ⟨hB_G_19, hF, ⟨by decide, by decide⟩, (by have hq : (1 : Int32).toInt = 1 := rfl; (try dsimp only); omega), ⟨y_1, ey_1, ⟨r_3, G_4, hX_7, (Or.inr ⟨c_9, ⟨y_10, ey_10, (Or.inl ⟨c_11, ⟨y_12, ey_12, (Or.inl ⟨c_13, ⟨y_14, ey_14, ⟨w_18, G_19, hX_22, f_23, hB_G_19, hq_21, (Or.inr ⟨c_24, ⟨y_27, ey_27, (Or.inr ⟨c_28, ⟨rfl, rfl⟩⟩)⟩⟩)⟩⟩⟩)⟩⟩)⟩⟩)⟩⟩⟩), wd_t ht hW⟩, hS.F ht⟩) hS.2.2 dX11_canGo_102
        refine lv_icmp_ne (tgt := 66) hx hb dX11_canGo_59 rfl (fun c_29 => ?_) (fun c_29 => ?_)
        · have c_29 : y_14.toInt ≠ 1 := xI_ne rfl rfl c_29
          refine ic_0 hx hb dX11_canGo_66 ?_
          have qc_30 : (0 : Int32).toInt = 0 := rfl
          exact hJ_20 0 _ _ _ ⟨G_4, ⟨(by first | (clear u_2 f_8 hp_6 c_9 c_11 ty_12 c_13 c_29; omega) | omega), (by first | (clear u_2 f_8 hp_6 c_9 c_11 ty_12 c_13 c_29; omega) | omega)⟩, (Jn_k_wGo_1_1_mk (Or.inr ⟨c_29, ⟨rfl, rfl⟩⟩)), hW, hB_G_4, hF, (Fr.rf (rs := []) (fs := [])), hS, lv_sub hl [0, 1, 2] rfl⟩
        · have c_29 : y_14.toInt = 1 := xI_eq rfl rfl c_29
          refine ic_1 hx hb dX11_canGo_62 ?_
          refine lv_goto (tgt := 67) hx hb dX11_canGo_63 rfl ?_
          have qc_31 : (1 : Int32).toInt = 1 := rfl
          exact hJ_20 1 _ _ _ ⟨G_4, ⟨(by first | (clear u_2 f_8 hp_6 c_9 c_11 ty_12 c_13 c_29; omega) | omega), (by first | (clear u_2 f_8 hp_6 c_9 c_11 ty_12 c_13 c_29; omega) | omega)⟩, (Jn_k_wGo_1_1_mk (Or.inl ⟨c_29, ⟨rfl, rfl⟩⟩)), hW, hB_G_4, hF, (Fr.rf (rs := []) (fs := [])), hS, lv_sub hl [0, 1, 2] rfl⟩
      · have c_13 : p0.toInt < y_12.toInt := xI_nle rfl rfl c_13
        refine ic_0 hx hb dX11_canGo_47 ?_
        exact W.zret (v := 0) hx hb hr (by decide) (fun t ht _ => ⟨⟨0, G_4, rfl, (P_wGo_1_mk ⟨hB_G_4, hF, ⟨by decide, by decide⟩, (by have hq : (0 : Int32).toInt = 0 := rfl; (try dsimp only); omega), ⟨y_1, ey_1, ⟨r_3, G_4, hX_7, (Or.inr ⟨c_9, ⟨y_10, ey_10, (Or.inl ⟨c_11, ⟨y_12, ey_12, (Or.inr ⟨c_13, ⟨rfl, rfl⟩⟩)⟩⟩)⟩⟩)⟩⟩⟩), wd_t ht hW⟩, hS.F ht⟩) hS.2.2 dX11_canGo_48

set_option maxHeartbeats 4000000 in
set_option maxRecDepth 100000 in
theorem k_wLawful_1 (l : Launch) (D : va_G) (k : KT) (A : Nat → Prop) (a : Nat → Nat) (z : SK) (G : GS)  (hv_0_0 : G.2.2 0 0 = 1) (hv_0_1 : G.2.2 0 1 = 2) (hv_6_4 : G.2.2 6 4 = 1) : Met l yX11_isLawfulNow (WS yX11_isLawfulNow cX11_isLawfulNow 3 (some .boolean)) ({ frames := 4, cells := 0, slots := 0, locals := 96 }) (va_Pc [.ref (a 0)] (cW D k A a z G)) (va_Qi (fun (r : Int32) (G1 : GS) => P_wLawful_1 G r G1) (fun (G1 : GS) t => Wd D k A a G1 t.heap) A) 0 0 A := by
  refine Met.ofW (cc := cX11_isLawfulNow) (maxL := 3) (ret := (some .boolean)) (by decide) rfl ?_
  intro p e s m args below meth c s₁ B hml hv
  obtain ⟨rfl, hW, hB_G, hK, hZ⟩ := hv
  have hx := B.exec
  have hb := B.bytes
  have hr := B.returns
  have hts := atoms_spec (ws := WS yX11_isLawfulNow cX11_isLawfulNow 3 (some .boolean)) B.pre
  have hgd : ∀ w ∈ gd, w ∈ WS yX11_isLawfulNow cX11_isLawfulNow 3 (some .boolean) := fun w h => List.mem_cons_of_mem _ h
  have hg : ∀ w ∈ gd, w.before _ s = true := fun w h => hts w (hgd w h)
  have hown : s.vm.findClass RX11 = some m.cls := findClass_of_methodNamed B.named
  have hS : va_S A s.heap s.heap [] := va_S.rf
  have hF : Fr [37, 38, 39] [(6, 3)] G G := Fr.rf
  have hl := lv_entry ([.ref (a 0)]) (n := 3) (Nat.le_of_ble_eq_true rfl)
  rw [lg_entry_eq]
  generalize (lg_sl ([.ref (a 0)]) ++ List.replicate (3 - (lg_sl ([.ref (a 0)])).length) Slot.unset).toArray = ls at hl ⊢
  have hl : lv_has ls 3 [(0, .ref (a 0))] := hl
  refine lv_aload_n hx hb dX11_isLawfulNow_0 rfl (lv_at hl 0 rfl) ?_
  refine S_getR (n := 30) (C := RX11) (T := TX11) (N := 13) hx hb hg iX11 hown hK hW kd_0 rfl 8 (lt_b rfl) (hg (Cond.fieldLink RX11 65 "SlabWalk" "earnest" "LSlabWalk$Earnest;") m578) (fun _ h9 => h9) rfl dX11_isLawfulNow_1 ?_
  refine S_getR (n := 58) (C := RX1) (T := TX1) (N := 6) hx hb hg iX1 hown hK hW kd_30 rfl 0 (lt_b rfl) (hg (Cond.fieldLink RX11 246 "SlabWalk$Earnest" "now" "[I") m493) (fun _ h9 => h9) rfl dX11_isLawfulNow_4 ?_
  refine lv_astore_n (lv' := [(1, .ref (a 58)), (0, .ref (a 0))]) hx hb dX11_isLawfulNow_7 rfl hl (lt_b rfl) rfl (fun ls hl => ?_)
  refine lv_aload_n hx hb dX11_isLawfulNow_8 rfl (lv_at hl 0 rfl) ?_
  refine ic_1 hx hb dX11_isLawfulNow_9 ?_
  refine S_iald hx hb hK hW kd_58 (vin (by decide) (by decide)) dX11_isLawfulNow_10 (fun y_1 ey_1 => ?_)
  refine lv_istore_n (lv' := [(2, .int y_1), (1, .ref (a 58)), (0, .ref (a 0))]) hx hb dX11_isLawfulNow_11 rfl hl (lt_b rfl) rfl (fun ls hl => ?_)
  refine lv_aload_n hx hb dX11_isLawfulNow_12 rfl (lv_at hl 2 rfl) ?_
  refine S_getR (n := 6) (C := RX11) (T := TX11) (N := 13) hx hb hg iX11 hown hK hW kd_0 rfl 4 (lt_b rfl) (hg (Cond.fieldLink RX11 37 "SlabWalk" "lines" "LSlabWalk$Lines;") m574) (fun _ h9 => h9) rfl dX11_isLawfulNow_13 ?_
  refine lv_iload_n hx hb dX11_isLawfulNow_16 rfl (lv_at hl 0 rfl) ?_
  refine lv_aload_n hx hb dX11_isLawfulNow_17 rfl (lv_at hl 2 rfl) ?_
  refine S_calli (va_runV (As := []) (rest := [.int y_1, .ref (a 6)]) ⟨hx, hb, hml, hown, hts⟩ (k_wToday l D k A a z G  ) (cwV 0 hts (gd_V hgd m911 m913 m27 m117 m914) rfl rfl rfl hd_X11_today ⟨Nat.le_of_ble_eq_true rfl, Nat.le_of_ble_eq_true rfl⟩) (pre_W hW hB_G hK hZ hS kd_0 rfl) rfl rfl hl.1 rfl (lv_room (Nat.le_of_ble_eq_true rfl)) dX11_isLawfulNow_18 ⟨Nat.le_of_ble_eq_true rfl, Nat.le_of_ble_eq_true rfl⟩) hS (fun r_2 G_3 H locs hpo hW hS => ?_)
  have hX_6 : P_wToday G r_2 G_3 := hpo
  obtain ⟨hB_G_3, hq_4, -⟩ := hpo
  have hF := hF.call9 hq_4 rfl rfl
  refine S_callv (va_runV (As := [.int y_1, .int r_2]) (rest := []) ⟨hx, hb, hml, hown, hts⟩ (k_lFind_1 l D k A a z G_3 y_1 r_2 (((hq_4.r9 6 4 rfl rfl)).trans (hv_6_4))) (cwV 2 hts (gd_V hgd m915 m916 m917 m122 m918) rfl rfl rfl hd_X3_findFor ⟨Nat.le_of_ble_eq_true rfl, Nat.le_of_ble_eq_true rfl⟩) (pre_W hW hB_G_3 hK hZ hS kd_6 rfl) rfl rfl hl.1 rfl (lv_room (Nat.le_of_ble_eq_true rfl)) dX11_isLawfulNow_21 ⟨Nat.le_of_ble_eq_true rfl, Nat.le_of_ble_eq_true rfl⟩) hS (fun G_8 H locs hpo hW hS => ?_)
  have hX_11 : P_lFind_1 y_1 r_2 G_3 G_8 := hpo
  obtain ⟨hB_G_8, hq_9, -⟩ := hpo
  have hF := hF.call9 hq_9 rfl rfl
  refine lv_aload_n hx hb dX11_isLawfulNow_24 rfl (lv_at hl 1 rfl) ?_
  refine lv_bipush (v := 9) hx hb dX11_isLawfulNow_25 (by decide) ?_
  refine S_iald hx hb hK hW kd_58 (vin (by decide) (by decide)) dX11_isLawfulNow_27 (fun y_12 ey_12 => ?_)
  refine ic_1 hx hb dX11_isLawfulNow_28 ?_
  refine lv_icmp_eq (tgt := 53) hx hb dX11_isLawfulNow_29 rfl (fun c_13 => ?_) (fun c_13 => ?_)
  · have c_13 : y_12.toInt = 1 := xI_eq rfl rfl c_13
    refine ic_1 hx hb dX11_isLawfulNow_53 ?_
    refine lv_goto (tgt := 58) hx hb dX11_isLawfulNow_54 rfl ?_
    exact W.zret (v := 1) hx hb hr (by decide) (fun t ht _ => ⟨⟨1, G_8, rfl, (P_wLawful_1_mk ⟨hB_G_8, hF, ⟨by decide, by decide⟩, ⟨y_1, ey_1, ⟨r_2, G_3, hX_6, ⟨G_8, hX_11, ⟨y_12, ey_12, (Or.inl ⟨c_13, ⟨rfl, rfl⟩⟩)⟩⟩⟩⟩⟩), wd_t ht hW⟩, hS.F ht⟩) hS.2.2 dX11_isLawfulNow_58
  · have c_13 : y_12.toInt ≠ 1 := xI_ne rfl rfl c_13
    refine lv_aload_n hx hb dX11_isLawfulNow_32 rfl (lv_at hl 2 rfl) ?_
    refine S_getR (n := 6) (C := RX11) (T := TX11) (N := 13) hx hb hg iX11 hown hK hW kd_0 rfl 4 (lt_b rfl) (hg (Cond.fieldLink RX11 37 "SlabWalk" "lines" "LSlabWalk$Lines;") m574) (fun _ h9 => h9) rfl dX11_isLawfulNow_33 ?_
    refine lv_aload_n hx hb dX11_isLawfulNow_36 rfl (lv_at hl 1 rfl) ?_
    refine ic_0 hx hb dX11_isLawfulNow_37 ?_
    refine S_iald hx hb hK hW kd_58 (vin (by decide) (by decide)) dX11_isLawfulNow_38 (fun y_14 ey_14 => ?_)
    refine lv_iload_n hx hb dX11_isLawfulNow_39 rfl (lv_at hl 0 rfl) ?_
    refine lv_aload_n hx hb dX11_isLawfulNow_40 rfl (lv_at hl 1 rfl) ?_
    refine lv_bipush (v := 8) hx hb dX11_isLawfulNow_41 (by decide) ?_
    refine S_iald hx hb hK hW kd_58 (vin (by decide) (by decide)) dX11_isLawfulNow_43 (fun y_15 ey_15 => ?_)
    refine lv_aload_n hx hb dX11_isLawfulNow_44 rfl (lv_at hl 1 rfl) ?_
    refine ic_2 hx hb dX11_isLawfulNow_45 ?_
    refine S_iald hx hb hK hW kd_58 (vin (by decide) (by decide)) dX11_isLawfulNow_46 (fun y_16 ey_16 => ?_)
    refine S_calli (va_runV (As := [.int y_14, .int y_1, .int y_15, .int y_16]) (rest := []) ⟨hx, hb, hml, hown, hts⟩ (k_lIsLawful_1 l D k A a z G_8 y_14 y_1 y_15 y_16 ((((hq_9.r9 6 4 rfl rfl).trans (hq_4.r9 6 4 rfl rfl))).trans (hv_6_4))) (cwV 4 hts (gd_V hgd m961 m962 m963 m122 m964) rfl rfl rfl hd_X3_isLawful ⟨Nat.le_of_ble_eq_true rfl, Nat.le_of_ble_eq_true rfl⟩) (pre_W hW hB_G_8 hK hZ hS kd_6 rfl) rfl rfl hl.1 rfl (lv_room (Nat.le_of_ble_eq_true rfl)) dX11_isLawfulNow_47 ⟨Nat.le_of_ble_eq_true rfl, Nat.le_of_ble_eq_true rfl⟩) hS (fun r_17 G_18 H locs hpo hW hS => ?_)
    have hX_21 : P_lIsLawful_1 y_14 y_1 y_15 y_16 G_8 r_17 G_18 := hpo
    obtain ⟨hB_G_18, hq_19, f_22, -⟩ := hpo
    have hF := hF.call9 hq_19 rfl rfl
    refine lv_if_eq (tgt := 57) hx hb dX11_isLawfulNow_50 rfl (fun c_23 => ?_) (fun c_23 => ?_)
    · have c_23 : r_17.toInt = 0 := xI_eq rfl rfl c_23
      refine ic_0 hx hb dX11_isLawfulNow_57 ?_
      exact W.zret (v := 0) hx hb hr (by decide) (fun t ht _ => ⟨⟨0, G_18, rfl, (P_wLawful_1_mk ⟨hB_G_18, hF, ⟨by decide, by decide⟩, ⟨y_1, ey_1, ⟨r_2, G_3, hX_6, ⟨G_8, hX_11, ⟨y_12, ey_12, (Or.inr ⟨c_13, ⟨y_14, ey_14, ⟨y_15, ey_15, ⟨y_16, ey_16, ⟨r_17, G_18, hX_21, (Or.inl ⟨c_23, ⟨rfl, rfl⟩⟩)⟩⟩⟩⟩⟩)⟩⟩⟩⟩⟩), wd_t ht hW⟩, hS.F ht⟩) hS.2.2 dX11_isLawfulNow_58
    · have c_23 : r_17.toInt ≠ 0 := xI_ne rfl rfl c_23
      refine ic_1 hx hb dX11_isLawfulNow_53 ?_
      refine lv_goto (tgt := 58) hx hb dX11_isLawfulNow_54 rfl ?_
      exact W.zret (v := 1) hx hb hr (by decide) (fun t ht _ => ⟨⟨1, G_18, rfl, (P_wLawful_1_mk ⟨hB_G_18, hF, ⟨by decide, by decide⟩, ⟨y_1, ey_1, ⟨r_2, G_3, hX_6, ⟨G_8, hX_11, ⟨y_12, ey_12, (Or.inr ⟨c_13, ⟨y_14, ey_14, ⟨y_15, ey_15, ⟨y_16, ey_16, ⟨r_17, G_18, hX_21, (Or.inr ⟨c_23, ⟨rfl, rfl⟩⟩)⟩⟩⟩⟩⟩)⟩⟩⟩⟩⟩), wd_t ht hW⟩, hS.F ht⟩) hS.2.2 dX11_isLawfulNow_58

set_option maxHeartbeats 4000000 in
set_option maxRecDepth 100000 in
theorem k_wPrep_1 (l : Launch) (D : va_G) (k : KT) (A : Nat → Prop) (a : Nat → Nat) (z : SK) (G : GS) (p0 : Int32) (p1 : Int32) (p2 : Int32) (ha_p0 : 0 ≤ p0.toInt ∧ p0.toInt ≤ 3) (ha_p1 : 0 ≤ p1.toInt ∧ p1.toInt ≤ 2) (hv_0_0 : G.2.2 0 0 = 1) (hv_0_1 : G.2.2 0 1 = 2) (hv_6_4 : G.2.2 6 4 = 1) (hw : p0.toInt < (G.1 1 10).toInt) : Met l yX11_prepare (WS yX11_prepare cX11_prepare 4 none) ({ frames := 4, cells := 0, slots := 0, locals := 96 }) (va_Pc [.ref (a 0), .int p0, .int p1, .int p2] (cW D k A a z G)) (va_Qv (fun (G1 : GS) => P_wPrep_1 p0 p1 p2 G G1) (fun (G1 : GS) t => Wd D k A a G1 t.heap) A) 0 0 A := by
  refine Met.ofW (cc := cX11_prepare) (maxL := 4) (ret := none) (by decide) rfl ?_
  intro p e s m args below meth c s₁ B hml hv
  obtain ⟨rfl, hW, hB_G, hK, hZ⟩ := hv
  have hx := B.exec
  have hb := B.bytes
  have hr := B.returns
  have hts := atoms_spec (ws := WS yX11_prepare cX11_prepare 4 none) B.pre
  have hgd : ∀ w ∈ gd, w ∈ WS yX11_prepare cX11_prepare 4 none := fun w h => List.mem_cons_of_mem _ h
  have hg : ∀ w ∈ gd, w.before _ s = true := fun w h => hts w (hgd w h)
  have hown : s.vm.findClass RX11 = some m.cls := findClass_of_methodNamed B.named
  have hS : va_S A s.heap s.heap [] := va_S.rf
  have hF : Fr [37, 38, 39, 40] [(6, 3), (7, 1), (7, 2), (7, 3), (7, 4), (7, 5), (7, 6), (7, 7)] G G := Fr.rf
  have hl := lv_entry ([.ref (a 0), .int p0, .int p1, .int p2]) (n := 4) (Nat.le_of_ble_eq_true rfl)
  rw [lg_entry_eq]
  generalize (lg_sl ([.ref (a 0), .int p0, .int p1, .int p2]) ++ List.replicate (4 - (lg_sl ([.ref (a 0), .int p0, .int p1, .int p2])).length) Slot.unset).toArray = ls at hl ⊢
  have hl : lv_has ls 4 [(0, .ref (a 0)), (1, .int p0), (2, .int p1), (3, .int p2)] := hl
  refine lv_aload_n hx hb dX11_prepare_0 rfl (lv_at hl 0 rfl) ?_
  refine S_getR (n := 6) (C := RX11) (T := TX11) (N := 13) hx hb hg iX11 hown hK hW kd_0 rfl 4 (lt_b rfl) (hg (Cond.fieldLink RX11 37 "SlabWalk" "lines" "LSlabWalk$Lines;") m574) (fun _ h9 => h9) rfl dX11_prepare_1 ?_
  refine lv_iload_n hx hb dX11_prepare_4 rfl (lv_at hl 2 rfl) ?_
  refine lv_aload_n hx hb dX11_prepare_5 rfl (lv_at hl 0 rfl) ?_
  refine S_calli (va_runV (As := []) (rest := [.int p1, .ref (a 6)]) ⟨hx, hb, hml, hown, hts⟩ (k_wToday l D k A a z G  ) (cwV 0 hts (gd_V hgd m911 m913 m27 m117 m914) rfl rfl rfl hd_X11_today ⟨Nat.le_of_ble_eq_true rfl, Nat.le_of_ble_eq_true rfl⟩) (pre_W hW hB_G hK hZ hS kd_0 rfl) rfl rfl hl.1 rfl (lv_room (Nat.le_of_ble_eq_true rfl)) dX11_prepare_6 ⟨Nat.le_of_ble_eq_true rfl, Nat.le_of_ble_eq_true rfl⟩) hS (fun r_1 G_2 H locs hpo hW hS => ?_)
  have hX_5 : P_wToday G r_1 G_2 := hpo
  obtain ⟨hB_G_2, hq_3, -⟩ := hpo
  have hF := hF.call9 hq_3 rfl rfl
  refine S_callv (va_runV (As := [.int p1, .int r_1]) (rest := []) ⟨hx, hb, hml, hown, hts⟩ (k_lFind_1 l D k A a z G_2 p1 r_1 (((hq_3.r9 6 4 rfl rfl)).trans (hv_6_4))) (cwV 2 hts (gd_V hgd m915 m916 m917 m122 m918) rfl rfl rfl hd_X3_findFor ⟨Nat.le_of_ble_eq_true rfl, Nat.le_of_ble_eq_true rfl⟩) (pre_W hW hB_G_2 hK hZ hS kd_6 rfl) rfl rfl hl.1 rfl (lv_room (Nat.le_of_ble_eq_true rfl)) dX11_prepare_9 ⟨Nat.le_of_ble_eq_true rfl, Nat.le_of_ble_eq_true rfl⟩) hS (fun G_7 H locs hpo hW hS => ?_)
  have hX_10 : P_lFind_1 p1 r_1 G_2 G_7 := hpo
  obtain ⟨hB_G_7, hq_8, -⟩ := hpo
  have hF := hF.call9 hq_8 rfl rfl
  refine lv_aload_n hx hb dX11_prepare_12 rfl (lv_at hl 0 rfl) ?_
  refine S_getR (n := 7) (C := RX11) (T := TX11) (N := 13) hx hb hg iX11 hown hK hW kd_0 rfl 5 (lt_b rfl) (hg (Cond.fieldLink RX11 44 "SlabWalk" "course" "LSlabWalk$Course;") m575) (fun _ h9 => h9) rfl dX11_prepare_13 ?_
  refine lv_aload_n hx hb dX11_prepare_16 rfl (lv_at hl 0 rfl) ?_
  refine S_getV (n := 1) (C := RX11) (T := TX11) (N := 13) hx hb hg iX11 hown hK hW kd_0 rfl 0 (lt_b rfl) (hg (Cond.fieldLink RX11 10 "SlabWalk" "paving" "LSlabWalk$Paving;") m570) (fun _ h9 => h9) rfl ((((hq_8.r9 0 0 rfl rfl).trans (hq_3.r9 0 0 rfl rfl))).trans (hv_0_0)) dX11_prepare_17 ?_
  refine lv_iload_n hx hb dX11_prepare_20 rfl (lv_at hl 1 rfl) ?_
  refine lv_iload_n hx hb dX11_prepare_21 rfl (lv_at hl 2 rfl) ?_
  have b_11 : 0 ≤ (G.1 1 10).toInt ∧ (G.1 1 10).toInt ≤ 4 := bd_1_10 hB_G
  have g_12 : (G_7.1 1 10).toInt = (G.1 1 10).toInt := (congrArg Int32.toInt (show G_7.1 1 10 = (G.1 1 10) from ((hq_8.i9 1 10 rfl rfl).trans (hq_3.i9 1 10 rfl rfl))))
  refine S_callv (va_runV (As := [.ref (a 1), .int p0, .int p1]) (rest := []) ⟨hx, hb, hml, hown, hts⟩ (k_cLook_1 l D k A a z G_7 p0 p1 ⟨by omega, by omega⟩ ⟨(by first | (clear ha_p0 hw b_11 g_12; omega) | omega), (by first | (clear ha_p0 hw b_11 g_12; omega) | omega)⟩ (by omega)) (cwV 3 hts (gd_V hgd m979 m980 m981 m123 m982) rfl rfl rfl hd_X0_lookAt ⟨Nat.le_of_ble_eq_true rfl, Nat.le_of_ble_eq_true rfl⟩) (pre_W hW hB_G_7 hK hZ hS kd_7 rfl) rfl rfl hl.1 rfl (lv_room (Nat.le_of_ble_eq_true rfl)) dX11_prepare_22 ⟨Nat.le_of_ble_eq_true rfl, Nat.le_of_ble_eq_true rfl⟩) hS (fun G_14 H locs hpo hW hS => ?_)
  have hX_17 : P_cLook_1 p0 p1 G_7 G_14 := hpo
  obtain ⟨hB_G_14, hq_15, hp_16, -⟩ := hpo
  have hF := hF.call9 hq_15 rfl rfl
  refine lv_aload_n hx hb dX11_prepare_25 rfl (lv_at hl 0 rfl) ?_
  refine S_getR (n := 7) (C := RX11) (T := TX11) (N := 13) hx hb hg iX11 hown hK hW kd_0 rfl 5 (lt_b rfl) (hg (Cond.fieldLink RX11 44 "SlabWalk" "course" "LSlabWalk$Course;") m575) (fun _ h9 => h9) rfl dX11_prepare_26 ?_
  refine lv_aload_n hx hb dX11_prepare_29 rfl (lv_at hl 0 rfl) ?_
  refine S_getR (n := 6) (C := RX11) (T := TX11) (N := 13) hx hb hg iX11 hown hK hW kd_0 rfl 4 (lt_b rfl) (hg (Cond.fieldLink RX11 37 "SlabWalk" "lines" "LSlabWalk$Lines;") m574) (fun _ h9 => h9) rfl dX11_prepare_30 ?_
  refine lv_iload_n hx hb dX11_prepare_33 rfl (lv_at hl 2 rfl) ?_
  refine lv_iload_n hx hb dX11_prepare_34 rfl (lv_at hl 3 rfl) ?_
  refine S_callv (va_runV (As := [.ref (a 6), .int p1, .int p2]) (rest := []) ⟨hx, hb, hml, hown, hts⟩ (k_cFind_1 l D k A a z G_14 p1 p2 ((((hq_15.r9 6 4 rfl rfl).trans ((hq_8.r9 6 4 rfl rfl).trans (hq_3.r9 6 4 rfl rfl)))).trans (hv_6_4))) (cwV 3 hts (gd_V hgd m984 m985 m986 m123 m987) rfl rfl rfl hd_X0_findLawful ⟨Nat.le_of_ble_eq_true rfl, Nat.le_of_ble_eq_true rfl⟩) (pre_W hW hB_G_14 hK hZ hS kd_7 rfl) rfl rfl hl.1 rfl (lv_room (Nat.le_of_ble_eq_true rfl)) dX11_prepare_35 ⟨Nat.le_of_ble_eq_true rfl, Nat.le_of_ble_eq_true rfl⟩) hS (fun G_19 H locs hpo hW hS => ?_)
  have hX_22 : P_cFind_1 p1 p2 G_14 G_19 := hpo
  obtain ⟨hB_G_19, hq_20, -⟩ := hpo
  have hF := hF.call9 hq_20 rfl rfl
  have b_23 : 0 ≤ (G_14.1 7 3).toInt ∧ (G_14.1 7 3).toInt ≤ 60 := bd_7_3 hB_G_14
  have g_24 : (G_19.1 7 3).toInt = (G_14.1 7 3).toInt := (congrArg Int32.toInt (show G_19.1 7 3 = (G_14.1 7 3) from (hq_20.i9 7 3 rfl rfl)))
  have b_25 : 0 ≤ (G_14.1 7 4).toInt ∧ (G_14.1 7 4).toInt ≤ 60 := bd_7_4 hB_G_14
  have g_26 : (G_19.1 7 4).toInt = (G_14.1 7 4).toInt := (congrArg Int32.toInt (show G_19.1 7 4 = (G_14.1 7 4) from (hq_20.i9 7 4 rfl rfl)))
  have b_27 : (-1) ≤ (G_14.1 7 6).toInt ∧ (G_14.1 7 6).toInt ≤ 400 := bd_7_6 hB_G_14
  have g_28 : (G_19.1 7 6).toInt = (G_14.1 7 6).toInt := (congrArg Int32.toInt (show G_19.1 7 6 = (G_14.1 7 6) from (hq_20.i9 7 6 rfl rfl)))
  have b_29 : 0 ≤ (G_14.1 7 7).toInt ∧ (G_14.1 7 7).toInt ≤ 400 := bd_7_7 hB_G_14
  have g_30 : (G_19.1 7 7).toInt = (G_14.1 7 7).toInt := (congrArg Int32.toInt (show G_19.1 7 7 = (G_14.1 7 7) from (hq_20.i9 7 7 rfl rfl)))
  exact W.vret hx hb hr (fun t ht _ => ⟨⟨G_19, rfl, (P_wPrep_1_mk ⟨hB_G_19, hF, ((by first | exact ⟨((by first | (clear ha_p0 ha_p1 hw b_11 g_12; omega) | omega)), ⟨((by first | (clear ha_p0 ha_p1 hw b_11 g_12; omega) | omega)), ((by first | (clear ha_p0 ha_p1 hw b_11 g_12; omega) | omega))⟩⟩ | omega)), ⟨r_1, G_2, hX_5, ⟨G_7, hX_10, ⟨G_14, hX_17, ⟨G_19, hX_22, rfl⟩⟩⟩⟩⟩), wd_t ht hW⟩, hS.F ht⟩) hS.2.2 dX11_prepare_38

set_option maxHeartbeats 4000000 in
set_option maxRecDepth 100000 in
theorem k_wLeaves_1 (l : Launch) (D : va_G) (k : KT) (A : Nat → Prop) (a : Nat → Nat) (z : SK) (G : GS) (p0 : Int32) (p1 : Int32) (hv_0_0 : G.2.2 0 0 = 1) (hv_0_1 : G.2.2 0 1 = 2) (hv_6_4 : G.2.2 6 4 = 1) (hci : (G.1 7 6).toInt ≤ 399 ∧ (G.1 7 3).toInt ≤ (G.1 7 4).toInt ∧ ((G.1 7 7).toInt ≤ 0 ∨ (G.1 7 7).toInt + (G.1 7 4).toInt ≤ (G.1 7 6).toInt + 1)) : Met l yX11_leavesWay (WS yX11_leavesWay cX11_leavesWay 3 (some .boolean)) ({ frames := 4, cells := 0, slots := 0, locals := 91 }) (va_Pc [.ref (a 0), .int p0, .int p1] (cW D k A a z G)) (va_Qi (fun (r : Int32) (G1 : GS) => P_wLeaves_1 p0 p1 G r G1) (fun (G1 : GS) t => Wd D k A a G1 t.heap) A) 0 0 A := by
  refine Met.ofW (cc := cX11_leavesWay) (maxL := 3) (ret := (some .boolean)) (by decide) rfl ?_
  intro p e s m args below meth c s₁ B hml hv
  obtain ⟨rfl, hW, hB_G, hK, hZ⟩ := hv
  have hx := B.exec
  have hb := B.bytes
  have hr := B.returns
  have hts := atoms_spec (ws := WS yX11_leavesWay cX11_leavesWay 3 (some .boolean)) B.pre
  have hgd : ∀ w ∈ gd, w ∈ WS yX11_leavesWay cX11_leavesWay 3 (some .boolean) := fun w h => List.mem_cons_of_mem _ h
  have hg : ∀ w ∈ gd, w.before _ s = true := fun w h => hts w (hgd w h)
  have hown : s.vm.findClass RX11 = some m.cls := findClass_of_methodNamed B.named
  have hS : va_S A s.heap s.heap [] := va_S.rf
  have hF : Fr [40, 42, 43] [] G G := Fr.rf
  have hl := lv_entry ([.ref (a 0), .int p0, .int p1]) (n := 3) (Nat.le_of_ble_eq_true rfl)
  rw [lg_entry_eq]
  generalize (lg_sl ([.ref (a 0), .int p0, .int p1]) ++ List.replicate (3 - (lg_sl ([.ref (a 0), .int p0, .int p1])).length) Slot.unset).toArray = ls at hl ⊢
  have hl : lv_has ls 3 [(0, .ref (a 0)), (1, .int p0), (2, .int p1)] := hl
  have b_1 : (-1) ≤ (G.1 7 6).toInt ∧ (G.1 7 6).toInt ≤ 400 := bd_7_6 hB_G
  refine lv_aload_n hx hb dX11_leavesWay_0 rfl (lv_at hl 0 rfl) ?_
  refine S_getR (n := 7) (C := RX11) (T := TX11) (N := 13) hx hb hg iX11 hown hK hW kd_0 rfl 5 (lt_b rfl) (hg (Cond.fieldLink RX11 44 "SlabWalk" "course" "LSlabWalk$Course;") m575) (fun _ h9 => h9) rfl dX11_leavesWay_1 ?_
  refine lv_aload_n hx hb dX11_leavesWay_4 rfl (lv_at hl 0 rfl) ?_
  refine S_getR (n := 6) (C := RX11) (T := TX11) (N := 13) hx hb hg iX11 hown hK hW kd_0 rfl 4 (lt_b rfl) (hg (Cond.fieldLink RX11 37 "SlabWalk" "lines" "LSlabWalk$Lines;") m574) (fun _ h9 => h9) rfl dX11_leavesWay_5 ?_
  refine lv_iload_n hx hb dX11_leavesWay_8 rfl (lv_at hl 1 rfl) ?_
  refine lv_iload_n hx hb dX11_leavesWay_9 rfl (lv_at hl 2 rfl) ?_
  refine S_callv (va_runV (As := [.ref (a 6), .int p0, .int p1]) (rest := []) ⟨hx, hb, hml, hown, hts⟩ (k_cFind_1 l D k A a z G p0 p1 hv_6_4) (cwV 3 hts (gd_V hgd m984 m985 m986 m123 m987) rfl rfl rfl hd_X0_findLawful ⟨Nat.le_of_ble_eq_true rfl, Nat.le_of_ble_eq_true rfl⟩) (pre_W hW hB_G hK hZ hS kd_7 rfl) rfl rfl hl.1 rfl (lv_room (Nat.le_of_ble_eq_true rfl)) dX11_leavesWay_10 ⟨Nat.le_of_ble_eq_true rfl, Nat.le_of_ble_eq_true rfl⟩) hS (fun G_3 H locs hpo hW hS => ?_)
  have hX_6 : P_cFind_1 p0 p1 G G_3 := hpo
  obtain ⟨hB_G_3, hq_4, -⟩ := hpo
  have hF := hF.call9 hq_4 rfl rfl
  refine lv_aload_n hx hb dX11_leavesWay_13 rfl (lv_at hl 0 rfl) ?_
  refine S_getR (n := 8) (C := RX11) (T := TX11) (N := 13) hx hb hg iX11 hown hK hW kd_0 rfl 6 (lt_b rfl) (hg (Cond.fieldLink RX11 51 "SlabWalk" "trails" "LSlabWalk$Trails;") m576) (fun _ h9 => h9) rfl dX11_leavesWay_14 ?_
  refine lv_aload_n hx hb dX11_leavesWay_17 rfl (lv_at hl 0 rfl) ?_
  refine S_getR (n := 7) (C := RX11) (T := TX11) (N := 13) hx hb hg iX11 hown hK hW kd_0 rfl 5 (lt_b rfl) (hg (Cond.fieldLink RX11 44 "SlabWalk" "course" "LSlabWalk$Course;") m575) (fun _ h9 => h9) rfl dX11_leavesWay_18 ?_
  have b_7 : 0 ≤ (G.1 7 3).toInt ∧ (G.1 7 3).toInt ≤ 60 := bd_7_3 hB_G
  have g_8 : (G_3.1 7 3).toInt = (G.1 7 3).toInt := (congrArg Int32.toInt (show G_3.1 7 3 = (G.1 7 3) from (hq_4.i9 7 3 rfl rfl)))
  have b_9 : 0 ≤ (G.1 7 4).toInt ∧ (G.1 7 4).toInt ≤ 60 := bd_7_4 hB_G
  have g_10 : (G_3.1 7 4).toInt = (G.1 7 4).toInt := (congrArg Int32.toInt (show G_3.1 7 4 = (G.1 7 4) from (hq_4.i9 7 4 rfl rfl)))
  have g_11 : (G_3.1 7 6).toInt = (G.1 7 6).toInt := (congrArg Int32.toInt (show G_3.1 7 6 = (G.1 7 6) from ((hq_4.i9 7 6 rfl rfl).trans (rfl))))
  have b_12 : 0 ≤ (G.1 7 7).toInt ∧ (G.1 7 7).toInt ≤ 400 := bd_7_7 hB_G
  have g_13 : (G_3.1 7 7).toInt = (G.1 7 7).toInt := (congrArg Int32.toInt (show G_3.1 7 7 = (G.1 7 7) from (hq_4.i9 7 7 rfl rfl)))
  refine S_calli (va_runV (As := [.ref (a 7)]) (rest := []) ⟨hx, hb, hml, hown, hts⟩ (k_tThere l D k A a z G_3  ((by first | exact ⟨(by omega), ⟨(by omega), (by omega)⟩⟩ | omega))) (cwV 1 hts (gd_V hgd m1158 m1159 m1160 m124 m1161) rfl rfl rfl hd_X10_isThereWay ⟨Nat.le_of_ble_eq_true rfl, Nat.le_of_ble_eq_true rfl⟩) (pre_W hW hB_G_3 hK hZ hS kd_8 rfl) rfl rfl hl.1 rfl (lv_room (Nat.le_of_ble_eq_true rfl)) dX11_leavesWay_21 ⟨Nat.le_of_ble_eq_true rfl, Nat.le_of_ble_eq_true rfl⟩) hS (fun r_14 G_15 H locs hpo hW hS => ?_)
  have hX_18 : P_tThere G_3 r_14 G_15 := hpo
  obtain ⟨hB_G_15, hq_16, f_19, -⟩ := hpo
  have hF := hF.call9 hq_16 rfl rfl
  have g_20 : (G_15.1 7 3).toInt = (G.1 7 3).toInt := (congrArg Int32.toInt (show G_15.1 7 3 = (G.1 7 3) from ((hq_16.i9 7 3 rfl rfl).trans ((hq_4.i9 7 3 rfl rfl).trans (rfl)))))
  have g_21 : (G_15.1 7 4).toInt = (G.1 7 4).toInt := (congrArg Int32.toInt (show G_15.1 7 4 = (G.1 7 4) from ((hq_16.i9 7 4 rfl rfl).trans ((hq_4.i9 7 4 rfl rfl).trans (rfl)))))
  have g_22 : (G_15.1 7 6).toInt = (G.1 7 6).toInt := (congrArg Int32.toInt (show G_15.1 7 6 = (G.1 7 6) from ((hq_16.i9 7 6 rfl rfl).trans ((hq_4.i9 7 6 rfl rfl).trans (rfl)))))
  have g_23 : (G_15.1 7 7).toInt = (G.1 7 7).toInt := (congrArg Int32.toInt (show G_15.1 7 7 = (G.1 7 7) from ((hq_16.i9 7 7 rfl rfl).trans ((hq_4.i9 7 7 rfl rfl).trans (rfl)))))
  exact W.zret (v := r_14) hx hb hr (nar_z ((by first | (clear hci b_1 b_7 g_8 b_9 g_10 g_11 b_12 g_13 g_20 g_21 g_22 g_23; omega) | omega)) ((by first | (clear hci b_1 b_7 g_8 b_9 g_10 g_11 b_12 g_13 g_20 g_21 g_22 g_23; omega) | omega))) (fun t ht _ => ⟨⟨r_14, G_15, rfl, (P_wLeaves_1_mk ⟨hB_G_15, hF, ⟨(by first | (clear hci b_1 b_7 g_8 b_9 g_10 g_11 b_12 g_13 g_20 g_21 g_22 g_23; omega) | omega), (by first | (clear hci b_1 b_7 g_8 b_9 g_10 g_11 b_12 g_13 g_20 g_21 g_22 g_23; omega) | omega)⟩, ((by first | exact ⟨(by omega), ⟨(by omega), (by omega)⟩⟩ | omega)), ⟨G_3, hX_6, ⟨r_14, G_15, hX_18, ⟨rfl, rfl⟩⟩⟩⟩), wd_t ht hW⟩, hS.F ht⟩) hS.2.2 dX11_leavesWay_24

set_option maxHeartbeats 4000000 in
set_option maxRecDepth 100000 in
theorem k_wWin_1 (l : Launch) (D : va_G) (k : KT) (A : Nat → Prop) (a : Nat → Nat) (z : SK) (G : GS) (p0 : Int32) (p1 : Int32) (ha_p1 : 0 ≤ p1.toInt ∧ p1.toInt ≤ 63) (hv_0_0 : G.2.2 0 0 = 1) (hv_0_1 : G.2.2 0 1 = 2) (hv_6_4 : G.2.2 6 4 = 1) (hci : (G.1 7 6).toInt ≤ 399 ∧ (G.1 7 3).toInt ≤ (G.1 7 4).toInt ∧ ((G.1 7 7).toInt ≤ 0 ∨ (G.1 7 7).toInt + (G.1 7 4).toInt ≤ (G.1 7 6).toInt + 1)) : Met l yX11_winningRule (WS yX11_winningRule cX11_winningRule 5 (some .int)) ({ frames := 5, cells := 0, slots := 0, locals := 113 }) (va_Pc [.ref (a 0), .int p0, .int p1] (cW D k A a z G)) (va_Qi (fun (r : Int32) (G1 : GS) => P_wWin_1 p0 p1 G r G1) (fun (G1 : GS) t => Wd D k A a G1 t.heap) A) 0 0 A := by
  refine Met.ofW (cc := cX11_winningRule) (maxL := 5) (ret := (some .int)) (by decide) rfl ?_
  intro p e s m args below meth c s₁ B hml hv
  obtain ⟨rfl, hW, hB_G, hK, hZ⟩ := hv
  have hx := B.exec
  have hb := B.bytes
  have hr := B.returns
  have hts := atoms_spec (ws := WS yX11_winningRule cX11_winningRule 5 (some .int)) B.pre
  have hgd : ∀ w ∈ gd, w ∈ WS yX11_winningRule cX11_winningRule 5 (some .int) := fun w h => List.mem_cons_of_mem _ h
  have hg : ∀ w ∈ gd, w.before _ s = true := fun w h => hts w (hgd w h)
  have hown : s.vm.findClass RX11 = some m.cls := findClass_of_methodNamed B.named
  have hS : va_S A s.heap s.heap [] := va_S.rf
  have hF : Fr [40, 42, 43, 46, 47] [] G G := Fr.rf
  have hl := lv_entry ([.ref (a 0), .int p0, .int p1]) (n := 5) (Nat.le_of_ble_eq_true rfl)
  rw [lg_entry_eq]
  generalize (lg_sl ([.ref (a 0), .int p0, .int p1]) ++ List.replicate (5 - (lg_sl ([.ref (a 0), .int p0, .int p1])).length) Slot.unset).toArray = ls at hl ⊢
  have hl : lv_has ls 5 [(0, .ref (a 0)), (1, .int p0), (2, .int p1)] := hl
  have b_1 : (-1) ≤ (G.1 7 6).toInt ∧ (G.1 7 6).toInt ≤ 400 := bd_7_6 hB_G
  refine ic_1 hx hb dX11_winningRule_0 ?_
  refine lv_aload_n hx hb dX11_winningRule_1 rfl (lv_at hl 0 rfl) ?_
  refine S_getV (n := 1) (C := RX11) (T := TX11) (N := 13) hx hb hg iX11 hown hK hW kd_0 rfl 0 (lt_b rfl) (hg (Cond.fieldLink RX11 10 "SlabWalk" "paving" "LSlabWalk$Paving;") m570) (fun _ h9 => h9) rfl hv_0_0 dX11_winningRule_2 ?_
  have b_2 : 0 ≤ (G.1 1 11).toInt ∧ (G.1 1 11).toInt ≤ 6 := bd_1_11 hB_G
  refine S_getI (v := (G.1 1 11)) (C := RX6) (T := TX6) (N := 17) hx hb hg iX6 hown hK hW kd_1 rfl 11 (lt_b rfl) (hg (Cond.fieldLink RX11 228 "SlabWalk$Paving" "rules" "I") m195) (fun _ h9 => h9) rfl rfl dX11_winningRule_5 ?_
  refine lv_ishl hx hb dX11_winningRule_8 ?_
  refine lv_topi (fun y_3 ey_3 => ?_)
  have ty_3 := sh6 (Y := (G.1 1 11).toInt) rfl ey_3 rfl (by first | (clear ha_p1 hci b_1; omega) | omega) (by first | (clear ha_p1 hci b_1; omega) | omega)
  refine ic_1 hx hb dX11_winningRule_9 ?_
  refine lv_isub hx hb dX11_winningRule_10 ?_
  refine lv_topi (fun y_4 ey_4 => ?_)
  have ty_4 : y_4.toInt = y_3.toInt - 1 := xI_sub rfl rfl ey_4 ((by first | (clear ha_p1 hci b_1 b_2; omega) | omega)) ((by first | (clear ha_p1 hci b_1 b_2; omega) | omega))
  refine lv_istore_n (lv' := [(3, .int y_4), (0, .ref (a 0)), (1, .int p0), (2, .int p1)]) hx hb dX11_winningRule_11 rfl hl (lt_b rfl) rfl (fun ls hl => ?_)
  refine lv_iload_n hx hb dX11_winningRule_12 rfl (lv_at hl 0 rfl) ?_
  refine lv_istore (lv' := [(4, .int y_4), (3, .int y_4), (0, .ref (a 0)), (1, .int p0), (2, .int p1)]) hx hb dX11_winningRule_13 hl (lt_b rfl) rfl (fun ls hl => ?_)
  refine loop_N (Inv := fun n H locs ls => ∃ (G_5 : GS) (x_9 : Int32), (n : Int) = x_9.toInt - (-1) ∧ ((-1) ≤ x_9.toInt ∧ x_9.toInt ≤ 63) ∧ Rc (St_k_wWin_1_1 p0 p1 y_4) (y_4, G) (x_9, G_5) ∧ Wd D k A a G_5 H ∧ Bd G_5 ∧ Fr [40, 42, 43, 46, 47] [] G G_5 ∧ Fr [40, 42, 43, 46, 47] [] G G_5 ∧ va_S A s.heap H locs ∧ lv_has ls 5 [(4, .int x_9), (3, .int y_4), (0, .ref (a 0)), (1, .int p0), (2, .int p1)]) (fun n_8 H locs ls ih_7 hI => ?_) (y_4.toInt - (-1) : Int).toNat ⟨G, y_4, (Int.toNat_of_nonneg ((by first | (clear ha_p1 hci b_1 b_2; omega) | omega))), ⟨(by first | (clear ha_p1 hci b_1 b_2; omega) | omega), (by first | (clear ha_p1 hci b_1 b_2; omega) | omega)⟩, Rc.rf, hW, hB_G, hF, Fr.rf, hS, lv_sub hl [0, 1, 2, 3, 4] rfl⟩
  obtain ⟨G_5, x_9, hn_12, f_11, hX_10, hW, hB_G_5, hF, hq_6, hS, hl⟩ := hI
  refine lv_iload hx hb dX11_winningRule_15 (lv_at hl 0 rfl) ?_
  refine lv_iload_n hx hb dX11_winningRule_17 rfl (lv_at hl 4 rfl) ?_
  refine lv_icmp_lt (tgt := 72) hx hb dX11_winningRule_18 rfl (fun c_13 => ?_) (fun c_13 => ?_)
  · have c_13 : x_9.toInt < p1.toInt := xI_lt rfl rfl c_13
    refine lv_aload_n hx hb dX11_winningRule_72 rfl (lv_at hl 2 rfl) ?_
    refine S_getR (n := 8) (C := RX11) (T := TX11) (N := 13) hx hb hg iX11 hown hK hW kd_0 rfl 6 (lt_b rfl) (hg (Cond.fieldLink RX11 51 "SlabWalk" "trails" "LSlabWalk$Trails;") m576) (fun _ h9 => h9) rfl dX11_winningRule_73 ?_
    refine S_getR (n := 46) (C := RX10) (T := TX10) (N := 5) hx hb hg iX10 hown hK hW kd_8 rfl 3 (lt_b rfl) (hg (Cond.fieldLink RX11 347 "SlabWalk$Trails" "winning" "[I") m444) (fun _ h9 => h9) rfl dX11_winningRule_76 ?_
    refine lv_iload_n hx hb dX11_winningRule_79 rfl (lv_at hl 4 rfl) ?_
    refine S_iald hx hb hK hW kd_46 (vin ((by first | (clear hci b_1 b_2 ty_4 hn_12; omega) | omega)) ((by first | (clear hci b_1 b_2 ty_4 hn_12; omega) | omega))) dX11_winningRule_80 (fun y_14 ey_14 => ?_)
    exact W.iret (v := y_14) hx hb hr (fun t ht _ => ⟨⟨y_14, G_5, rfl, (P_wWin_1_mk ⟨hB_G_5, hF, ⟨y_3, ey_3, ⟨y_4, ty_4, ⟨x_9, G_5, hX_10, f_11, hB_G_5, hq_6, ⟨c_13, ⟨y_14, ey_14, ⟨rfl, rfl⟩⟩⟩⟩⟩⟩⟩), wd_t ht hW⟩, hS.F ht⟩) hS.2.2 dX11_winningRule_81
  · have c_13 : p1.toInt ≤ x_9.toInt := xI_nlt rfl rfl c_13
    refine lv_iload hx hb dX11_winningRule_21 (lv_at hl 0 rfl) ?_
    refine lv_iload_n hx hb dX11_winningRule_23 rfl (lv_at hl 4 rfl) ?_
    refine lv_iand hx hb dX11_winningRule_24 ?_
    refine lv_topi (fun y_15 ey_15 => ?_)
    refine lv_iload_n hx hb dX11_winningRule_25 rfl (lv_at hl 4 rfl) ?_
    refine lv_icmp_ne (tgt := 66) hx hb dX11_winningRule_26 rfl (fun c_16 => ?_) (fun c_16 => ?_)
    · have c_16 : y_15.toInt ≠ p1.toInt := xI_ne rfl rfl c_16
      obtain ⟨y_17, ey_17⟩ : ∃ q, q = x_9 + (-1) := ⟨_, rfl⟩
      have ty_17 : y_17.toInt = x_9.toInt + (-1) := xI_add rfl rfl ey_17 ((by first | (clear hci b_1 b_2 ty_4 hn_12; omega) | omega)) ((by first | (clear hci b_1 b_2 ty_4 hn_12; omega) | omega))
      refine lv_iinc (v := y_17) (lv' := [(4, .int y_17), (3, .int y_4), (0, .ref (a 0)), (1, .int p0), (2, .int p1)]) hx hb dX11_winningRule_66 hl (k := 0) rfl (by rw [ey_17]; rfl) (lt_b rfl) rfl (fun ls hl => ?_)
      refine lv_goto (tgt := 15) hx hb dX11_winningRule_69 rfl ?_
      exact ih_7 (y_17.toInt - (-1) : Int).toNat ((by first | (clear hci b_1 b_2 ty_4; omega) | omega)) _ _ _ ⟨G_5, y_17, (Int.toNat_of_nonneg ((by first | (clear hci b_1 b_2 ty_4 hn_12; omega) | omega))), ⟨(by first | (clear hci b_1 b_2 ty_4 hn_12; omega) | omega), (by first | (clear hci b_1 b_2 ty_4 hn_12; omega) | omega)⟩, (hX_10.st (St_k_wWin_1_1_mk ⟨x_9, G_5, y_17, G_5, rfl, rfl, f_11, hB_G_5, ⟨c_13, ⟨y_15, ey_15, (Or.inr ⟨c_16, ⟨y_17, ty_17, ⟨rfl, rfl⟩⟩⟩)⟩⟩⟩)), hW, hB_G_5, hF, (Fr.call9 (rs := [40, 42, 43, 46, 47]) (fs := []) Fr.rf hq_6 rfl rfl), hS, lv_sub hl [0, 1, 2, 3, 4] rfl⟩
    · have c_16 : y_15.toInt = p1.toInt := xI_eq rfl rfl c_16
      refine lv_aload_n hx hb dX11_winningRule_29 rfl (lv_at hl 2 rfl) ?_
      refine S_getR (n := 8) (C := RX11) (T := TX11) (N := 13) hx hb hg iX11 hown hK hW kd_0 rfl 6 (lt_b rfl) (hg (Cond.fieldLink RX11 51 "SlabWalk" "trails" "LSlabWalk$Trails;") m576) (fun _ h9 => h9) rfl dX11_winningRule_30 ?_
      refine S_getR (n := 46) (C := RX10) (T := TX10) (N := 5) hx hb hg iX10 hown hK hW kd_8 rfl 3 (lt_b rfl) (hg (Cond.fieldLink RX11 347 "SlabWalk$Trails" "winning" "[I") m444) (fun _ h9 => h9) rfl dX11_winningRule_33 ?_
      refine lv_iload hx hb dX11_winningRule_36 (lv_at hl 0 rfl) ?_
      refine lv_aload_n hx hb dX11_winningRule_38 rfl (lv_at hl 2 rfl) ?_
      refine S_getR (n := 8) (C := RX11) (T := TX11) (N := 13) hx hb hg iX11 hown hK hW kd_0 rfl 6 (lt_b rfl) (hg (Cond.fieldLink RX11 51 "SlabWalk" "trails" "LSlabWalk$Trails;") m576) (fun _ h9 => h9) rfl dX11_winningRule_39 ?_
      refine lv_iload hx hb dX11_winningRule_42 (lv_at hl 0 rfl) ?_
      refine lv_iload_n hx hb dX11_winningRule_44 rfl (lv_at hl 1 rfl) ?_
      refine S_calli (va_runV (As := [.int x_9, .int y_4]) (rest := [.int x_9, .ref (a 46)]) ⟨hx, hb, hml, hown, hts⟩ (k_tWin l D k A a z G_5 x_9 y_4 ⟨(by first | (clear hci b_1 b_2 ty_4 hn_12; omega) | omega), (by first | (clear hci b_1 b_2 ty_4 hn_12; omega) | omega)⟩ ⟨(by first | (clear ha_p1 hci b_1 b_2 hn_12 f_11 c_13 c_16; omega) | omega), (by first | (clear ha_p1 hci b_1 b_2 hn_12 f_11 c_13 c_16; omega) | omega)⟩) (cwV 2 hts (gd_V hgd m1150 m1151 m1152 m124 m1153) rfl rfl rfl hd_X10_winningFrom ⟨Nat.le_of_ble_eq_true rfl, Nat.le_of_ble_eq_true rfl⟩) (pre_W hW hB_G_5 hK hZ hS kd_8 rfl) rfl rfl hl.1 rfl (lv_room (Nat.le_of_ble_eq_true rfl)) dX11_winningRule_45 ⟨Nat.le_of_ble_eq_true rfl, Nat.le_of_ble_eq_true rfl⟩) hS (fun r_18 G_19 H locs hpo hW hS => ?_)
      have hX_22 : P_tWin x_9 y_4 G_5 r_18 G_19 := hpo
      obtain ⟨hB_G_19, hq_20, -⟩ := hpo
      have hF := hF.call9 hq_20 rfl rfl
      refine S_iast hx hb hK hW hS kd_46 (vin ((by first | (clear hci b_1 b_2 ty_4 hn_12; omega) | omega)) ((by first | (clear hci b_1 b_2 ty_4 hn_12; omega) | omega))) dX11_winningRule_48 (fun G_23 H locs eG_23 hW hS => ?_)
      have hB_G_23 : Bd G_23 := hB_G_19.put (lo := (-2147483648)) (hi := 2147483647) eG_23 rfl rfl rfl (tI_rng _).1 (tI_rng _).2 (hB_G_19.2.put eG_23 rfl)
      have hF := hF.put eG_23 (Or.inl (by decide))
      refine lv_aload_n hx hb dX11_winningRule_49 rfl (lv_at hl 2 rfl) ?_
      refine S_getR (n := 8) (C := RX11) (T := TX11) (N := 13) hx hb hg iX11 hown hK hW kd_0 rfl 6 (lt_b rfl) (hg (Cond.fieldLink RX11 51 "SlabWalk" "trails" "LSlabWalk$Trails;") m576) (fun _ h9 => h9) rfl dX11_winningRule_50 ?_
      refine S_getR (n := 47) (C := RX10) (T := TX10) (N := 5) hx hb hg iX10 hown hK hW kd_8 rfl 4 (lt_b rfl) (hg (Cond.fieldLink RX11 353 "SlabWalk$Trails" "leaving" "[Z") m446) (fun _ h9 => h9) rfl dX11_winningRule_53 ?_
      refine lv_iload hx hb dX11_winningRule_56 (lv_at hl 0 rfl) ?_
      refine lv_aload_n hx hb dX11_winningRule_58 rfl (lv_at hl 2 rfl) ?_
      refine lv_iload_n hx hb dX11_winningRule_59 rfl (lv_at hl 3 rfl) ?_
      refine lv_iload hx hb dX11_winningRule_60 (lv_at hl 0 rfl) ?_
      have b_24 : 0 ≤ (G.1 7 3).toInt ∧ (G.1 7 3).toInt ≤ 60 := bd_7_3 hB_G
      have g_25 : (G_23.1 7 3).toInt = (G.1 7 3).toInt := (congrArg Int32.toInt (show G_23.1 7 3 = (G.1 7 3) from ((gp_ne eG_23 (fun q => absurd q.1 (Nat.ne_of_beq_eq_false rfl))).trans ((hq_20.i9 7 3 rfl rfl).trans (hq_6.i9 7 3 rfl rfl)))))
      have b_26 : 0 ≤ (G.1 7 4).toInt ∧ (G.1 7 4).toInt ≤ 60 := bd_7_4 hB_G
      have g_27 : (G_23.1 7 4).toInt = (G.1 7 4).toInt := (congrArg Int32.toInt (show G_23.1 7 4 = (G.1 7 4) from ((gp_ne eG_23 (fun q => absurd q.1 (Nat.ne_of_beq_eq_false rfl))).trans ((hq_20.i9 7 4 rfl rfl).trans (hq_6.i9 7 4 rfl rfl)))))
      have g_28 : (G_23.1 7 6).toInt = (G.1 7 6).toInt := (congrArg Int32.toInt (show G_23.1 7 6 = (G.1 7 6) from ((gp_ne eG_23 (fun q => absurd q.1 (Nat.ne_of_beq_eq_false rfl))).trans ((hq_20.i9 7 6 rfl rfl).trans ((hq_6.i9 7 6 rfl rfl).trans (rfl))))))
      have b_29 : 0 ≤ (G.1 7 7).toInt ∧ (G.1 7 7).toInt ≤ 400 := bd_7_7 hB_G
      have g_30 : (G_23.1 7 7).toInt = (G.1 7 7).toInt := (congrArg Int32.toInt (show G_23.1 7 7 = (G.1 7 7) from ((gp_ne eG_23 (fun q => absurd q.1 (Nat.ne_of_beq_eq_false rfl))).trans ((hq_20.i9 7 7 rfl rfl).trans (hq_6.i9 7 7 rfl rfl)))))
      refine S_calli (va_runV (As := [.int p0, .int x_9]) (rest := [.int x_9, .ref (a 47)]) ⟨hx, hb, hml, hown, hts⟩ (k_wLeaves_1 l D k A a z G_23 p0 x_9 ((((congrFun (congrFun (congrArg (fun q => q.2.2) eG_23) 0) 0).trans ((hq_20.r9 0 0 rfl rfl).trans (hq_6.r9 0 0 rfl rfl)))).trans (hv_0_0)) ((((congrFun (congrFun (congrArg (fun q => q.2.2) eG_23) 0) 1).trans ((hq_20.r9 0 1 rfl rfl).trans (hq_6.r9 0 1 rfl rfl)))).trans (hv_0_1)) ((((congrFun (congrFun (congrArg (fun q => q.2.2) eG_23) 6) 4).trans ((hq_20.r9 6 4 rfl rfl).trans (hq_6.r9 6 4 rfl rfl)))).trans (hv_6_4)) ((by first | exact ⟨((by first | (clear ha_p1 b_2 ty_4 hn_12 f_11 c_13 c_16; omega) | omega)), ⟨((by first | (clear ha_p1 b_2 ty_4 hn_12 f_11 c_13 c_16; omega) | omega)), ((by first | (clear ha_p1 b_2 ty_4 hn_12 f_11 c_13 c_16; omega) | omega))⟩⟩ | omega))) (cwV 2 hts (gd_V hgd m1154 m1156 m42 m117 m1157) rfl rfl rfl hd_X11_leavesWay ⟨Nat.le_of_ble_eq_true rfl, Nat.le_of_ble_eq_true rfl⟩) (pre_W hW hB_G_23 hK hZ hS kd_0 rfl) rfl rfl hl.1 rfl (lv_room (Nat.le_of_ble_eq_true rfl)) dX11_winningRule_62 ⟨Nat.le_of_ble_eq_true rfl, Nat.le_of_ble_eq_true rfl⟩) hS (fun r_31 G_32 H locs hpo hW hS => ?_)
      have hX_35 : P_wLeaves_1 p0 x_9 G_23 r_31 G_32 := hpo
      obtain ⟨hB_G_32, hq_33, f_36, hp_34, -⟩ := hpo
      have hF := hF.call9 hq_33 rfl rfl
      refine S_zast hx hb hK hW hS kd_47 (vin ((by first | (clear hci b_1 b_2 ty_4 hn_12 b_24 g_25 b_26 g_27 g_28 b_29 g_30 f_36 hp_34; omega) | omega)) ((by first | (clear hci b_1 b_2 ty_4 hn_12 b_24 g_25 b_26 g_27 g_28 b_29 g_30 f_36 hp_34; omega) | omega))) dX11_winningRule_65 (fun G_37 H locs eG_37 hW hS => ?_)
      have hB_G_37 : Bd G_37 := hB_G_32.put (lo := 0) (hi := 1) eG_37 rfl rfl rfl nz_bool.1 nz_bool.2 (hB_G_32.2.put eG_37 rfl)
      have hF := hF.put eG_37 (Or.inl (by decide))
      obtain ⟨y_38, ey_38⟩ : ∃ q, q = x_9 + (-1) := ⟨_, rfl⟩
      have ty_38 : y_38.toInt = x_9.toInt + (-1) := xI_add rfl rfl ey_38 ((by first | (clear hci b_1 b_2 ty_4 hn_12 b_24 g_25 b_26 g_27 g_28 b_29 g_30 f_36 hp_34; omega) | omega)) ((by first | (clear hci b_1 b_2 ty_4 hn_12 b_24 g_25 b_26 g_27 g_28 b_29 g_30 f_36 hp_34; omega) | omega))
      refine lv_iinc (v := y_38) (lv' := [(4, .int y_38), (3, .int y_4), (0, .ref (a 0)), (1, .int p0), (2, .int p1)]) hx hb dX11_winningRule_66 hl (k := 0) rfl (by rw [ey_38]; rfl) (lt_b rfl) rfl (fun ls hl => ?_)
      refine lv_goto (tgt := 15) hx hb dX11_winningRule_69 rfl ?_
      exact ih_7 (y_38.toInt - (-1) : Int).toNat ((by first | (clear hci b_1 b_2 ty_4 b_24 g_25 b_26 g_27 g_28 b_29 g_30 f_36 hp_34; omega) | omega)) _ _ _ ⟨G_37, y_38, (Int.toNat_of_nonneg ((by first | (clear hci b_1 b_2 ty_4 hn_12 b_24 g_25 b_26 g_27 g_28 b_29 g_30 f_36 hp_34; omega) | omega))), ⟨(by first | (clear hci b_1 b_2 ty_4 hn_12 b_24 g_25 b_26 g_27 g_28 b_29 g_30 f_36 hp_34; omega) | omega), (by first | (clear hci b_1 b_2 ty_4 hn_12 b_24 g_25 b_26 g_27 g_28 b_29 g_30 f_36 hp_34; omega) | omega)⟩, (hX_10.st (St_k_wWin_1_1_mk ⟨x_9, G_5, y_38, G_37, rfl, rfl, f_11, hB_G_5, ⟨c_13, ⟨y_15, ey_15, (Or.inl ⟨c_16, ⟨r_18, G_19, hX_22, ⟨G_23, hB_G_23, (Fr.put (rs := [46]) (fs := []) Fr.rf eG_23 (Or.inl (by decide))), rw_ast eG_23, ⟨r_31, G_32, hX_35, ⟨y_38, ty_38, ⟨rfl, (Fr.put (rs := [47]) (fs := []) Fr.rf eG_37 (Or.inl (by decide))), rw_ast eG_37⟩⟩⟩⟩⟩⟩)⟩⟩⟩)), hW, hB_G_37, hF, (Fr.put (rs := [40, 42, 43, 46, 47]) (fs := []) (Fr.call9 (rs := [40, 42, 43, 46, 47]) (fs := []) (Fr.put (rs := [40, 42, 43, 46, 47]) (fs := []) (Fr.call9 (rs := [40, 42, 43, 46, 47]) (fs := []) (Fr.call9 (rs := [40, 42, 43, 46, 47]) (fs := []) Fr.rf hq_6 rfl rfl) hq_20 rfl rfl) eG_23 (Or.inl (by decide))) hq_33 rfl rfl) eG_37 (Or.inl (by decide))), hS, lv_sub hl [0, 1, 2, 3, 4] rfl⟩

set_option maxHeartbeats 4000000 in
set_option maxRecDepth 100000 in
theorem k_wLSight_1 (l : Launch) (D : va_G) (k : KT) (A : Nat → Prop) (a : Nat → Nat) (z : SK) (G : GS) (p0 : Int32) (p1 : Int32) (p2 : Int32) (ha_p0 : 0 ≤ p0.toInt ∧ p0.toInt ≤ 19) (ha_p2 : -3 ≤ p2.toInt ∧ p2.toInt ≤ 3) (hv_0_0 : G.2.2 0 0 = 1) (hv_0_1 : G.2.2 0 1 = 2) (hv_6_4 : G.2.2 6 4 = 1) : Met l yX11_isLawfulSight (WS yX11_isLawfulSight cX11_isLawfulSight 5 (some .boolean)) ({ frames := 4, cells := 0, slots := 0, locals := 96 }) (va_Pc [.ref (a 0), .int p0, .int p1, .int p2] (cW D k A a z G)) (va_Qi (fun (r : Int32) (G1 : GS) => P_wLSight_1 p0 p1 p2 G r G1) (fun (G1 : GS) t => Wd D k A a G1 t.heap) A) 0 0 A := by
  refine Met.ofW (cc := cX11_isLawfulSight) (maxL := 5) (ret := (some .boolean)) (by decide) rfl ?_
  intro p e s m args below meth c s₁ B hml hv
  obtain ⟨rfl, hW, hB_G, hK, hZ⟩ := hv
  have hx := B.exec
  have hb := B.bytes
  have hr := B.returns
  have hts := atoms_spec (ws := WS yX11_isLawfulSight cX11_isLawfulSight 5 (some .boolean)) B.pre
  have hgd : ∀ w ∈ gd, w ∈ WS yX11_isLawfulSight cX11_isLawfulSight 5 (some .boolean) := fun w h => List.mem_cons_of_mem _ h
  have hg : ∀ w ∈ gd, w.before _ s = true := fun w h => hts w (hgd w h)
  have hown : s.vm.findClass RX11 = some m.cls := findClass_of_methodNamed B.named
  have hS : va_S A s.heap s.heap [] := va_S.rf
  have hF : Fr [37, 38, 39] [(6, 3)] G G := Fr.rf
  have hl := lv_entry ([.ref (a 0), .int p0, .int p1, .int p2]) (n := 5) (Nat.le_of_ble_eq_true rfl)
  rw [lg_entry_eq]
  generalize (lg_sl ([.ref (a 0), .int p0, .int p1, .int p2]) ++ List.replicate (5 - (lg_sl ([.ref (a 0), .int p0, .int p1, .int p2])).length) Slot.unset).toArray = ls at hl ⊢
  have hl : lv_has ls 5 [(0, .ref (a 0)), (1, .int p0), (2, .int p1), (3, .int p2)] := hl
  refine lv_aload_n hx hb dX11_isLawfulSight_0 rfl (lv_at hl 0 rfl) ?_
  refine S_getR (n := 31) (C := RX11) (T := TX11) (N := 13) hx hb hg iX11 hown hK hW kd_0 rfl 9 (lt_b rfl) (hg (Cond.fieldLink RX11 72 "SlabWalk" "sights" "LSlabWalk$Sights;") m579) (fun _ h9 => h9) rfl dX11_isLawfulSight_1 ?_
  refine S_getR (n := 63) (C := RX8) (T := TX8) (N := 7) hx hb hg iX8 hown hK hW kd_31 rfl 2 (lt_b rfl) (hg (Cond.fieldLink RX11 359 "SlabWalk$Sights" "heel" "[I") m525) (fun _ h9 => h9) rfl dX11_isLawfulSight_4 ?_
  refine lv_iload_n hx hb dX11_isLawfulSight_7 rfl (lv_at hl 1 rfl) ?_
  refine S_iald hx hb hK hW kd_63 (vin (by omega) (by omega)) dX11_isLawfulSight_8 (fun y_1 ey_1 => ?_)
  refine lv_iload_n hx hb dX11_isLawfulSight_9 rfl (lv_at hl 3 rfl) ?_
  refine lv_iadd hx hb dX11_isLawfulSight_10 ?_
  refine lv_topi (fun y_2 ey_2 => ?_)
  refine lv_istore (lv' := [(4, .int y_2), (0, .ref (a 0)), (1, .int p0), (2, .int p1), (3, .int p2)]) hx hb dX11_isLawfulSight_11 hl (lt_b rfl) rfl (fun ls hl => ?_)
  refine lv_aload_n hx hb dX11_isLawfulSight_13 rfl (lv_at hl 1 rfl) ?_
  refine S_getR (n := 6) (C := RX11) (T := TX11) (N := 13) hx hb hg iX11 hown hK hW kd_0 rfl 4 (lt_b rfl) (hg (Cond.fieldLink RX11 37 "SlabWalk" "lines" "LSlabWalk$Lines;") m574) (fun _ h9 => h9) rfl dX11_isLawfulSight_14 ?_
  refine lv_aload_n hx hb dX11_isLawfulSight_17 rfl (lv_at hl 1 rfl) ?_
  refine S_getR (n := 31) (C := RX11) (T := TX11) (N := 13) hx hb hg iX11 hown hK hW kd_0 rfl 9 (lt_b rfl) (hg (Cond.fieldLink RX11 72 "SlabWalk" "sights" "LSlabWalk$Sights;") m579) (fun _ h9 => h9) rfl dX11_isLawfulSight_18 ?_
  refine S_getR (n := 62) (C := RX8) (T := TX8) (N := 7) hx hb hg iX8 hown hK hW kd_31 rfl 1 (lt_b rfl) (hg (Cond.fieldLink RX11 362 "SlabWalk$Sights" "street" "[I") m523) (fun _ h9 => h9) rfl dX11_isLawfulSight_21 ?_
  refine lv_iload_n hx hb dX11_isLawfulSight_24 rfl (lv_at hl 2 rfl) ?_
  refine S_iald hx hb hK hW kd_62 (vin (by omega) (by omega)) dX11_isLawfulSight_25 (fun y_3 ey_3 => ?_)
  refine lv_aload_n hx hb dX11_isLawfulSight_26 rfl (lv_at hl 1 rfl) ?_
  refine S_calli (va_runV (As := []) (rest := [.int y_3, .ref (a 6)]) ⟨hx, hb, hml, hown, hts⟩ (k_wToday l D k A a z G  ) (cwV 0 hts (gd_V hgd m911 m913 m27 m117 m914) rfl rfl rfl hd_X11_today ⟨Nat.le_of_ble_eq_true rfl, Nat.le_of_ble_eq_true rfl⟩) (pre_W hW hB_G hK hZ hS kd_0 rfl) rfl rfl hl.1 rfl (lv_room (Nat.le_of_ble_eq_true rfl)) dX11_isLawfulSight_27 ⟨Nat.le_of_ble_eq_true rfl, Nat.le_of_ble_eq_true rfl⟩) hS (fun r_4 G_5 H locs hpo hW hS => ?_)
  have hX_8 : P_wToday G r_4 G_5 := hpo
  obtain ⟨hB_G_5, hq_6, -⟩ := hpo
  have hF := hF.call9 hq_6 rfl rfl
  refine S_callv (va_runV (As := [.int y_3, .int r_4]) (rest := []) ⟨hx, hb, hml, hown, hts⟩ (k_lFind_1 l D k A a z G_5 y_3 r_4 (((hq_6.r9 6 4 rfl rfl)).trans (hv_6_4))) (cwV 2 hts (gd_V hgd m915 m916 m917 m122 m918) rfl rfl rfl hd_X3_findFor ⟨Nat.le_of_ble_eq_true rfl, Nat.le_of_ble_eq_true rfl⟩) (pre_W hW hB_G_5 hK hZ hS kd_6 rfl) rfl rfl hl.1 rfl (lv_room (Nat.le_of_ble_eq_true rfl)) dX11_isLawfulSight_30 ⟨Nat.le_of_ble_eq_true rfl, Nat.le_of_ble_eq_true rfl⟩) hS (fun G_10 H locs hpo hW hS => ?_)
  have hX_13 : P_lFind_1 y_3 r_4 G_5 G_10 := hpo
  obtain ⟨hB_G_10, hq_11, -⟩ := hpo
  have hF := hF.call9 hq_11 rfl rfl
  refine lv_aload_n hx hb dX11_isLawfulSight_33 rfl (lv_at hl 1 rfl) ?_
  refine S_getR (n := 6) (C := RX11) (T := TX11) (N := 13) hx hb hg iX11 hown hK hW kd_0 rfl 4 (lt_b rfl) (hg (Cond.fieldLink RX11 37 "SlabWalk" "lines" "LSlabWalk$Lines;") m574) (fun _ h9 => h9) rfl dX11_isLawfulSight_34 ?_
  refine lv_aload_n hx hb dX11_isLawfulSight_37 rfl (lv_at hl 1 rfl) ?_
  refine S_getR (n := 31) (C := RX11) (T := TX11) (N := 13) hx hb hg iX11 hown hK hW kd_0 rfl 9 (lt_b rfl) (hg (Cond.fieldLink RX11 72 "SlabWalk" "sights" "LSlabWalk$Sights;") m579) (fun _ h9 => h9) rfl dX11_isLawfulSight_38 ?_
  refine S_getR (n := 61) (C := RX8) (T := TX8) (N := 7) hx hb hg iX8 hown hK hW kd_31 rfl 0 (lt_b rfl) (hg (Cond.fieldLink RX11 365 "SlabWalk$Sights" "walker" "[I") m521) (fun _ h9 => h9) rfl dX11_isLawfulSight_41 ?_
  refine lv_iload_n hx hb dX11_isLawfulSight_44 rfl (lv_at hl 2 rfl) ?_
  refine S_iald hx hb hK hW kd_61 (vin (by omega) (by omega)) dX11_isLawfulSight_45 (fun y_14 ey_14 => ?_)
  refine lv_aload_n hx hb dX11_isLawfulSight_46 rfl (lv_at hl 1 rfl) ?_
  refine S_getR (n := 31) (C := RX11) (T := TX11) (N := 13) hx hb hg iX11 hown hK hW kd_0 rfl 9 (lt_b rfl) (hg (Cond.fieldLink RX11 72 "SlabWalk" "sights" "LSlabWalk$Sights;") m579) (fun _ h9 => h9) rfl dX11_isLawfulSight_47 ?_
  refine S_getR (n := 62) (C := RX8) (T := TX8) (N := 7) hx hb hg iX8 hown hK hW kd_31 rfl 1 (lt_b rfl) (hg (Cond.fieldLink RX11 362 "SlabWalk$Sights" "street" "[I") m523) (fun _ h9 => h9) rfl dX11_isLawfulSight_50 ?_
  refine lv_iload_n hx hb dX11_isLawfulSight_53 rfl (lv_at hl 2 rfl) ?_
  refine S_iald hx hb hK hW kd_62 (vin (by omega) (by omega)) dX11_isLawfulSight_54 (fun y_15 ey_15 => ?_)
  refine ic_1 hx hb dX11_isLawfulSight_55 ?_
  refine lv_iload_n hx hb dX11_isLawfulSight_56 rfl (lv_at hl 3 rfl) ?_
  refine lv_ishl hx hb dX11_isLawfulSight_57 ?_
  refine lv_topi (fun y_16 ey_16 => ?_)
  refine lv_iload hx hb dX11_isLawfulSight_58 (lv_at hl 0 rfl) ?_
  refine S_calli (va_runV (As := [.int y_14, .int y_15, .int y_16, .int y_2]) (rest := []) ⟨hx, hb, hml, hown, hts⟩ (k_lIsLawful_1 l D k A a z G_10 y_14 y_15 y_16 y_2 ((((hq_11.r9 6 4 rfl rfl).trans (hq_6.r9 6 4 rfl rfl))).trans (hv_6_4))) (cwV 4 hts (gd_V hgd m961 m962 m963 m122 m964) rfl rfl rfl hd_X3_isLawful ⟨Nat.le_of_ble_eq_true rfl, Nat.le_of_ble_eq_true rfl⟩) (pre_W hW hB_G_10 hK hZ hS kd_6 rfl) rfl rfl hl.1 rfl (lv_room (Nat.le_of_ble_eq_true rfl)) dX11_isLawfulSight_60 ⟨Nat.le_of_ble_eq_true rfl, Nat.le_of_ble_eq_true rfl⟩) hS (fun r_17 G_18 H locs hpo hW hS => ?_)
  have hX_21 : P_lIsLawful_1 y_14 y_15 y_16 y_2 G_10 r_17 G_18 := hpo
  obtain ⟨hB_G_18, hq_19, f_22, -⟩ := hpo
  have hF := hF.call9 hq_19 rfl rfl
  exact W.zret (v := r_17) hx hb hr (nar_z (by omega) (by omega)) (fun t ht _ => ⟨⟨r_17, G_18, rfl, (P_wLSight_1_mk ⟨hB_G_18, hF, ⟨by omega, by omega⟩, ⟨y_1, ey_1, ⟨y_2, ey_2, ⟨y_3, ey_3, ⟨r_4, G_5, hX_8, ⟨G_10, hX_13, ⟨y_14, ey_14, ⟨y_15, ey_15, ⟨y_16, ey_16, ⟨r_17, G_18, hX_21, ⟨rfl, rfl⟩⟩⟩⟩⟩⟩⟩⟩⟩⟩⟩), wd_t ht hW⟩, hS.F ht⟩) hS.2.2 dX11_isLawfulSight_63

set_option maxHeartbeats 4000000 in
set_option maxRecDepth 100000 in
theorem k_wFitsAll_1 (l : Launch) (D : va_G) (k : KT) (A : Nat → Prop) (a : Nat → Nat) (z : SK) (G : GS) (p0 : Int32) (p1 : Int32) (hv_0_0 : G.2.2 0 0 = 1) (hv_0_1 : G.2.2 0 1 = 2) (hv_6_4 : G.2.2 6 4 = 1) : Met l yX11_fitsAll (WS yX11_fitsAll cX11_fitsAll 4 (some .boolean)) ({ frames := 5, cells := 0, slots := 0, locals := 120 }) (va_Pc [.ref (a 0), .int p0, .int p1] (cW D k A a z G)) (va_Qi (fun (r : Int32) (G1 : GS) => P_wFitsAll_1 p0 p1 G r G1) (fun (G1 : GS) t => Wd D k A a G1 t.heap) A) 0 0 A := by
  refine Met.ofW (cc := cX11_fitsAll) (maxL := 4) (ret := (some .boolean)) (by decide) rfl ?_
  intro p e s m args below meth c s₁ B hml hv
  obtain ⟨rfl, hW, hB_G, hK, hZ⟩ := hv
  have hx := B.exec
  have hb := B.bytes
  have hr := B.returns
  have hts := atoms_spec (ws := WS yX11_fitsAll cX11_fitsAll 4 (some .boolean)) B.pre
  have hgd : ∀ w ∈ gd, w ∈ WS yX11_fitsAll cX11_fitsAll 4 (some .boolean) := fun w h => List.mem_cons_of_mem _ h
  have hg : ∀ w ∈ gd, w.before _ s = true := fun w h => hts w (hgd w h)
  have hown : s.vm.findClass RX11 = some m.cls := findClass_of_methodNamed B.named
  have hS : va_S A s.heap s.heap [] := va_S.rf
  have hF : Fr [37, 38, 39] [(6, 3)] G G := Fr.rf
  have hl := lv_entry ([.ref (a 0), .int p0, .int p1]) (n := 4) (Nat.le_of_ble_eq_true rfl)
  rw [lg_entry_eq]
  generalize (lg_sl ([.ref (a 0), .int p0, .int p1]) ++ List.replicate (4 - (lg_sl ([.ref (a 0), .int p0, .int p1])).length) Slot.unset).toArray = ls at hl ⊢
  have hl : lv_has ls 4 [(0, .ref (a 0)), (1, .int p0), (2, .int p1)] := hl
  refine ic_0 hx hb dX11_fitsAll_0 ?_
  refine lv_istore_n (lv' := [(3, .int 0), (0, .ref (a 0)), (1, .int p0), (2, .int p1)]) hx hb dX11_fitsAll_1 rfl hl (lt_b rfl) rfl (fun ls hl => ?_)
  have qc_7 : (0 : Int32).toInt = 0 := rfl
  refine loop_N (Inv := fun n H locs ls => ∃ (G_1 : GS) (x_5 : Int32), (n : Int) = 20 - x_5.toInt ∧ (0 ≤ x_5.toInt ∧ x_5.toInt ≤ 20) ∧ Rc (St_k_wFitsAll_1_1 p0 p1 G) (0, G) (x_5, G_1) ∧ Wd D k A a G_1 H ∧ Bd G_1 ∧ Fr [37, 38, 39] [(6, 3)] G G_1 ∧ Fr [37, 38, 39] [(6, 3)] G G_1 ∧ va_S A s.heap H locs ∧ lv_has ls 4 [(3, .int x_5), (0, .ref (a 0)), (1, .int p0), (2, .int p1)]) (fun n_4 H locs ls ih_3 hI => ?_) (20 - 0 : Int).toNat ⟨G, 0, (Int.toNat_of_nonneg (by omega)), ⟨by omega, by omega⟩, Rc.rf, hW, hB_G, hF, Fr.rf, hS, lv_sub hl [0, 1, 2, 3] rfl⟩
  obtain ⟨G_1, x_5, hn_9, f_8, hX_6, hW, hB_G_1, hF, hq_2, hS, hl⟩ := hI
  refine lv_iload_n hx hb dX11_fitsAll_2 rfl (lv_at hl 0 rfl) ?_
  refine lv_aload_n hx hb dX11_fitsAll_3 rfl (lv_at hl 1 rfl) ?_
  refine S_getR (n := 31) (C := RX11) (T := TX11) (N := 13) hx hb hg iX11 hown hK hW kd_0 rfl 9 (lt_b rfl) (hg (Cond.fieldLink RX11 72 "SlabWalk" "sights" "LSlabWalk$Sights;") m579) (fun _ h9 => h9) rfl dX11_fitsAll_4 ?_
  have b_10 : 0 ≤ (G.1 31 5).toInt ∧ (G.1 31 5).toInt ≤ 20 := bd_31_5 hB_G
  refine S_getI (v := (G.1 31 5)) (C := RX8) (T := TX8) (N := 7) hx hb hg iX8 hown hK hW kd_31 rfl 5 (lt_b rfl) (hg (Cond.fieldLink RX11 285 "SlabWalk$Sights" "count" "I") m529) (fun _ h9 => h9) rfl (hq_2.i9 31 5 rfl rfl) dX11_fitsAll_7 ?_
  refine lv_icmp_ge (tgt := 43) hx hb dX11_fitsAll_10 rfl (fun c_11 => ?_) (fun c_11 => ?_)
  · have c_11 : (G.1 31 5).toInt ≤ x_5.toInt := xI_le rfl rfl c_11
    refine ic_1 hx hb dX11_fitsAll_43 ?_
    exact W.zret (v := 1) hx hb hr (by decide) (fun t ht _ => ⟨⟨1, G_1, rfl, (P_wFitsAll_1_mk ⟨hB_G_1, hF, ⟨by decide, by decide⟩, ⟨x_5, G_1, hX_6, f_8, hB_G_1, hq_2, (Or.inl ⟨c_11, ⟨rfl, rfl⟩⟩)⟩⟩), wd_t ht hW⟩, hS.F ht⟩) hS.2.2 dX11_fitsAll_44
  · have c_11 : x_5.toInt < (G.1 31 5).toInt := xI_nle rfl rfl c_11
    refine lv_aload_n hx hb dX11_fitsAll_13 rfl (lv_at hl 1 rfl) ?_
    refine S_getR (n := 31) (C := RX11) (T := TX11) (N := 13) hx hb hg iX11 hown hK hW kd_0 rfl 9 (lt_b rfl) (hg (Cond.fieldLink RX11 72 "SlabWalk" "sights" "LSlabWalk$Sights;") m579) (fun _ h9 => h9) rfl dX11_fitsAll_14 ?_
    refine lv_iload_n hx hb dX11_fitsAll_17 rfl (lv_at hl 0 rfl) ?_
    refine lv_iload_n hx hb dX11_fitsAll_18 rfl (lv_at hl 3 rfl) ?_
    refine S_calli (va_runV (As := [.int x_5, .int p1]) (rest := []) ⟨hx, hb, hml, hown, hts⟩ (k_sCounts l D k A a z G_1 x_5 p1 ⟨by omega, by omega⟩) (cwV 2 hts (gd_V hgd m1271 m1272 m1273 m128 m1274) rfl rfl rfl hd_X8_counts ⟨Nat.le_of_ble_eq_true rfl, Nat.le_of_ble_eq_true rfl⟩) (pre_W hW hB_G_1 hK hZ hS kd_31 rfl) rfl rfl hl.1 rfl (lv_room (Nat.le_of_ble_eq_true rfl)) dX11_fitsAll_19 ⟨Nat.le_of_ble_eq_true rfl, Nat.le_of_ble_eq_true rfl⟩) hS (fun r_12 G_13 H locs hpo hW hS => ?_)
    have hX_16 : P_sCounts x_5 p1 G_1 r_12 G_13 := hpo
    obtain ⟨hB_G_13, hq_14, f_17, -⟩ := hpo
    have hF := hF.call9 hq_14 rfl rfl
    refine lv_if_eq (tgt := 37) hx hb dX11_fitsAll_22 rfl (fun c_18 => ?_) (fun c_18 => ?_)
    · have c_18 : r_12.toInt = 0 := xI_eq rfl rfl c_18
      obtain ⟨y_19, ey_19⟩ : ∃ q, q = x_5 + 1 := ⟨_, rfl⟩
      have ty_19 : y_19.toInt = x_5.toInt + 1 := xI_add rfl rfl ey_19 ((by first | (clear hn_9 f_17 c_18; omega) | omega)) ((by first | (clear hn_9 f_17 c_18; omega) | omega))
      refine lv_iinc (v := y_19) (lv' := [(3, .int y_19), (0, .ref (a 0)), (1, .int p0), (2, .int p1)]) hx hb dX11_fitsAll_37 hl (k := 0) rfl (by rw [ey_19]; rfl) (lt_b rfl) rfl (fun ls hl => ?_)
      refine lv_goto (tgt := 2) hx hb dX11_fitsAll_40 rfl ?_
      exact ih_3 (20 - y_19.toInt : Int).toNat (by omega) _ _ _ ⟨G_13, y_19, (Int.toNat_of_nonneg ((by first | (clear hn_9 f_17 c_18; omega) | omega))), ⟨(by first | (clear hn_9 f_17 c_18; omega) | omega), (by first | (clear hn_9 f_17 c_18; omega) | omega)⟩, (hX_6.st (St_k_wFitsAll_1_1_mk ⟨x_5, G_1, y_19, G_13, rfl, rfl, f_8, hB_G_1, ⟨c_11, ⟨r_12, G_13, hX_16, (Or.inl ⟨c_18, ⟨y_19, ty_19, ⟨rfl, rfl⟩⟩⟩)⟩⟩⟩)), hW, hB_G_13, hF, (Fr.call9 (rs := [37, 38, 39]) (fs := [(6, 3)]) (Fr.call9 (rs := [37, 38, 39]) (fs := [(6, 3)]) Fr.rf hq_2 rfl rfl) hq_14 rfl rfl), hS, lv_sub hl [0, 1, 2, 3] rfl⟩
    · have c_18 : r_12.toInt ≠ 0 := xI_ne rfl rfl c_18
      refine lv_aload_n hx hb dX11_fitsAll_25 rfl (lv_at hl 1 rfl) ?_
      refine lv_iload_n hx hb dX11_fitsAll_26 rfl (lv_at hl 0 rfl) ?_
      refine lv_iload_n hx hb dX11_fitsAll_27 rfl (lv_at hl 2 rfl) ?_
      refine ic_0 hx hb dX11_fitsAll_28 ?_
      refine S_calli (va_runV (As := [.int x_5, .int p0, .int 0]) (rest := []) ⟨hx, hb, hml, hown, hts⟩ (k_wLSight_1 l D k A a z G_13 x_5 p0 0 ⟨(by first | (clear hn_9 f_17 c_18; omega) | omega), (by first | (clear hn_9 f_17 c_18; omega) | omega)⟩ ⟨by decide, by decide⟩ ((((hq_14.r9 0 0 rfl rfl).trans (hq_2.r9 0 0 rfl rfl))).trans (hv_0_0)) ((((hq_14.r9 0 1 rfl rfl).trans (hq_2.r9 0 1 rfl rfl))).trans (hv_0_1)) ((((hq_14.r9 6 4 rfl rfl).trans (hq_2.r9 6 4 rfl rfl))).trans (hv_6_4))) (cwV 3 hts (gd_V hgd m1275 m1277 m46 m117 m1278) rfl rfl rfl hd_X11_isLawfulSight ⟨Nat.le_of_ble_eq_true rfl, Nat.le_of_ble_eq_true rfl⟩) (pre_W hW hB_G_13 hK hZ hS kd_0 rfl) rfl rfl hl.1 rfl (lv_room (Nat.le_of_ble_eq_true rfl)) dX11_fitsAll_29 ⟨Nat.le_of_ble_eq_true rfl, Nat.le_of_ble_eq_true rfl⟩) hS (fun r_20 G_21 H locs hpo hW hS => ?_)
      have hX_24 : P_wLSight_1 x_5 p0 0 G_13 r_20 G_21 := hpo
      obtain ⟨hB_G_21, hq_22, f_25, -⟩ := hpo
      have hF := hF.call9 hq_22 rfl rfl
      refine lv_if_ne (tgt := 37) hx hb dX11_fitsAll_32 rfl (fun c_26 => ?_) (fun c_26 => ?_)
      · have c_26 : r_20.toInt ≠ 0 := xI_ne rfl rfl c_26
        obtain ⟨y_27, ey_27⟩ : ∃ q, q = x_5 + 1 := ⟨_, rfl⟩
        have ty_27 : y_27.toInt = x_5.toInt + 1 := xI_add rfl rfl ey_27 ((by first | (clear hn_9 f_17 c_18 f_25 c_26; omega) | omega)) ((by first | (clear hn_9 f_17 c_18 f_25 c_26; omega) | omega))
        refine lv_iinc (v := y_27) (lv' := [(3, .int y_27), (0, .ref (a 0)), (1, .int p0), (2, .int p1)]) hx hb dX11_fitsAll_37 hl (k := 0) rfl (by rw [ey_27]; rfl) (lt_b rfl) rfl (fun ls hl => ?_)
        refine lv_goto (tgt := 2) hx hb dX11_fitsAll_40 rfl ?_
        exact ih_3 (20 - y_27.toInt : Int).toNat ((by first | (clear f_17 c_18 f_25 c_26; omega) | omega)) _ _ _ ⟨G_21, y_27, (Int.toNat_of_nonneg ((by first | (clear hn_9 f_17 c_18 f_25 c_26; omega) | omega))), ⟨(by first | (clear hn_9 f_17 c_18 f_25 c_26; omega) | omega), (by first | (clear hn_9 f_17 c_18 f_25 c_26; omega) | omega)⟩, (hX_6.st (St_k_wFitsAll_1_1_mk ⟨x_5, G_1, y_27, G_21, rfl, rfl, f_8, hB_G_1, ⟨c_11, ⟨r_12, G_13, hX_16, (Or.inr ⟨c_18, ⟨r_20, G_21, hX_24, ⟨c_26, ⟨y_27, ty_27, ⟨rfl, rfl⟩⟩⟩⟩⟩)⟩⟩⟩)), hW, hB_G_21, hF, (Fr.call9 (rs := [37, 38, 39]) (fs := [(6, 3)]) (Fr.call9 (rs := [37, 38, 39]) (fs := [(6, 3)]) (Fr.call9 (rs := [37, 38, 39]) (fs := [(6, 3)]) Fr.rf hq_2 rfl rfl) hq_14 rfl rfl) hq_22 rfl rfl), hS, lv_sub hl [0, 1, 2, 3] rfl⟩
      · have c_26 : r_20.toInt = 0 := xI_eq rfl rfl c_26
        refine ic_0 hx hb dX11_fitsAll_35 ?_
        exact W.zret (v := 0) hx hb hr (by decide) (fun t ht _ => ⟨⟨0, G_21, rfl, (P_wFitsAll_1_mk ⟨hB_G_21, hF, ⟨by decide, by decide⟩, ⟨x_5, G_1, hX_6, f_8, hB_G_1, hq_2, (Or.inr ⟨c_11, ⟨r_12, G_13, hX_16, ⟨c_18, ⟨r_20, G_21, hX_24, ⟨c_26, ⟨rfl, rfl⟩⟩⟩⟩⟩⟩)⟩⟩), wd_t ht hW⟩, hS.F ht⟩) hS.2.2 dX11_fitsAll_36

set_option maxHeartbeats 4000000 in
set_option maxRecDepth 100000 in
theorem k_wNear_1 (l : Launch) (D : va_G) (k : KT) (A : Nat → Prop) (a : Nat → Nat) (z : SK) (G : GS) (p0 : Int32) (p1 : Int32) (p2 : Int32) (ha_p0 : 0 ≤ p0.toInt ∧ p0.toInt ≤ 19) (ha_p2 : 0 ≤ p2.toInt ∧ p2.toInt ≤ 1) (hv_0_0 : G.2.2 0 0 = 1) (hv_0_1 : G.2.2 0 1 = 2) (hv_6_4 : G.2.2 6 4 = 1) : Met l yX11_heelsNear (WS yX11_heelsNear cX11_heelsNear 6 (some .int)) ({ frames := 5, cells := 0, slots := 0, locals := 120 }) (va_Pc [.ref (a 0), .int p0, .int p1, .int p2] (cW D k A a z G)) (va_Qi (fun (r : Int32) (G1 : GS) => P_wNear_1 p0 p1 p2 G r G1) (fun (G1 : GS) t => Wd D k A a G1 t.heap) A) 0 0 A := by
  refine Met.ofW (cc := cX11_heelsNear) (maxL := 6) (ret := (some .int)) (by decide) rfl ?_
  intro p e s m args below meth c s₁ B hml hv
  obtain ⟨rfl, hW, hB_G, hK, hZ⟩ := hv
  have hx := B.exec
  have hb := B.bytes
  have hr := B.returns
  have hts := atoms_spec (ws := WS yX11_heelsNear cX11_heelsNear 6 (some .int)) B.pre
  have hgd : ∀ w ∈ gd, w ∈ WS yX11_heelsNear cX11_heelsNear 6 (some .int) := fun w h => List.mem_cons_of_mem _ h
  have hg : ∀ w ∈ gd, w.before _ s = true := fun w h => hts w (hgd w h)
  have hown : s.vm.findClass RX11 = some m.cls := findClass_of_methodNamed B.named
  have hS : va_S A s.heap s.heap [] := va_S.rf
  have hF : Fr [37, 38, 39] [(6, 3)] G G := Fr.rf
  have hl := lv_entry ([.ref (a 0), .int p0, .int p1, .int p2]) (n := 6) (Nat.le_of_ble_eq_true rfl)
  rw [lg_entry_eq]
  generalize (lg_sl ([.ref (a 0), .int p0, .int p1, .int p2]) ++ List.replicate (6 - (lg_sl ([.ref (a 0), .int p0, .int p1, .int p2])).length) Slot.unset).toArray = ls at hl ⊢
  have hl : lv_has ls 6 [(0, .ref (a 0)), (1, .int p0), (2, .int p1), (3, .int p2)] := hl
  refine ic_0 hx hb dX11_heelsNear_0 ?_
  refine lv_istore (lv' := [(4, .int 0), (0, .ref (a 0)), (1, .int p0), (2, .int p1), (3, .int p2)]) hx hb dX11_heelsNear_1 hl (lt_b rfl) rfl (fun ls hl => ?_)
  refine lv_bipush (v := (-3)) hx hb dX11_heelsNear_3 (by decide) ?_
  refine lv_istore (lv' := [(5, .int (-3)), (4, .int 0), (0, .ref (a 0)), (1, .int p0), (2, .int p1), (3, .int p2)]) hx hb dX11_heelsNear_5 hl (lt_b rfl) rfl (fun ls hl => ?_)
  have qc_8 : ((-3) : Int32).toInt = (-3) := rfl
  have qc_9 : (0 : Int32).toInt = 0 := rfl
  refine loop_N (Inv := fun n H locs ls => ∃ (G_1 : GS) (x_5 : Int32) (x_6 : Int32), (n : Int) = 4 - x_5.toInt ∧ ((-3) ≤ x_5.toInt ∧ x_5.toInt ≤ 4) ∧ Rc (St_k_wNear_1_1 p0 p1 p2) ((-3), 0, G) (x_5, x_6, G_1) ∧ Wd D k A a G_1 H ∧ Bd G_1 ∧ Fr [37, 38, 39] [(6, 3)] G G_1 ∧ Fr [37, 38, 39] [(6, 3)] G G_1 ∧ va_S A s.heap H locs ∧ lv_has ls 6 [(5, .int x_5), (4, .int x_6), (0, .ref (a 0)), (1, .int p0), (2, .int p1), (3, .int p2)]) (fun n_4 H locs ls ih_3 hI => ?_) (4 - (-3) : Int).toNat ⟨G, (-3), 0, (Int.toNat_of_nonneg (by omega)), ⟨by omega, by omega⟩, Rc.rf, hW, hB_G, hF, Fr.rf, hS, lv_sub hl [0, 1, 2, 3, 4, 5] rfl⟩
  obtain ⟨G_1, x_5, x_6, hn_11, f_10, hX_7, hW, hB_G_1, hF, hq_2, hS, hl⟩ := hI
  refine lv_iload hx hb dX11_heelsNear_7 (lv_at hl 0 rfl) ?_
  refine ic_3 hx hb dX11_heelsNear_9 ?_
  refine lv_icmp_gt (tgt := 77) hx hb dX11_heelsNear_10 rfl (fun c_12 => ?_) (fun c_12 => ?_)
  · have c_12 : 3 < x_5.toInt := xI_lt rfl rfl c_12
    refine lv_iload hx hb dX11_heelsNear_77 (lv_at hl 1 rfl) ?_
    exact W.iret (v := x_6) hx hb hr (fun t ht _ => ⟨⟨x_6, G_1, rfl, (P_wNear_1_mk ⟨hB_G_1, hF, ⟨x_5, x_6, G_1, hX_7, f_10, hB_G_1, hq_2, ⟨c_12, ⟨rfl, rfl⟩⟩⟩⟩), wd_t ht hW⟩, hS.F ht⟩) hS.2.2 dX11_heelsNear_79
  · have c_12 : x_5.toInt ≤ 3 := xI_nlt rfl rfl c_12
    refine lv_aload_n hx hb dX11_heelsNear_13 rfl (lv_at hl 2 rfl) ?_
    refine S_getV (n := 1) (C := RX11) (T := TX11) (N := 13) hx hb hg iX11 hown hK hW kd_0 rfl 0 (lt_b rfl) (hg (Cond.fieldLink RX11 10 "SlabWalk" "paving" "LSlabWalk$Paving;") m570) (fun _ h9 => h9) rfl (((hq_2.r9 0 0 rfl rfl)).trans (hv_0_0)) dX11_heelsNear_14 ?_
    refine lv_aload_n hx hb dX11_heelsNear_17 rfl (lv_at hl 2 rfl) ?_
    refine S_getR (n := 31) (C := RX11) (T := TX11) (N := 13) hx hb hg iX11 hown hK hW kd_0 rfl 9 (lt_b rfl) (hg (Cond.fieldLink RX11 72 "SlabWalk" "sights" "LSlabWalk$Sights;") m579) (fun _ h9 => h9) rfl dX11_heelsNear_18 ?_
    refine S_getR (n := 61) (C := RX8) (T := TX8) (N := 7) hx hb hg iX8 hown hK hW kd_31 rfl 0 (lt_b rfl) (hg (Cond.fieldLink RX11 365 "SlabWalk$Sights" "walker" "[I") m521) (fun _ h9 => h9) rfl dX11_heelsNear_21 ?_
    refine lv_iload_n hx hb dX11_heelsNear_24 rfl (lv_at hl 3 rfl) ?_
    refine S_iald hx hb hK hW kd_61 (vin ((by first | (clear ha_p2 hn_11 f_10 c_12; omega) | omega)) ((by first | (clear ha_p2 hn_11 f_10 c_12; omega) | omega))) dX11_heelsNear_25 (fun y_13 ey_13 => ?_)
    refine lv_aload_n hx hb dX11_heelsNear_26 rfl (lv_at hl 2 rfl) ?_
    refine S_getR (n := 31) (C := RX11) (T := TX11) (N := 13) hx hb hg iX11 hown hK hW kd_0 rfl 9 (lt_b rfl) (hg (Cond.fieldLink RX11 72 "SlabWalk" "sights" "LSlabWalk$Sights;") m579) (fun _ h9 => h9) rfl dX11_heelsNear_27 ?_
    refine S_getR (n := 62) (C := RX8) (T := TX8) (N := 7) hx hb hg iX8 hown hK hW kd_31 rfl 1 (lt_b rfl) (hg (Cond.fieldLink RX11 362 "SlabWalk$Sights" "street" "[I") m523) (fun _ h9 => h9) rfl dX11_heelsNear_30 ?_
    refine lv_iload_n hx hb dX11_heelsNear_33 rfl (lv_at hl 3 rfl) ?_
    refine S_iald hx hb hK hW kd_62 (vin ((by first | (clear ha_p2 hn_11 f_10 c_12; omega) | omega)) ((by first | (clear ha_p2 hn_11 f_10 c_12; omega) | omega))) dX11_heelsNear_34 (fun y_14 ey_14 => ?_)
    refine lv_aload_n hx hb dX11_heelsNear_35 rfl (lv_at hl 2 rfl) ?_
    refine S_getR (n := 31) (C := RX11) (T := TX11) (N := 13) hx hb hg iX11 hown hK hW kd_0 rfl 9 (lt_b rfl) (hg (Cond.fieldLink RX11 72 "SlabWalk" "sights" "LSlabWalk$Sights;") m579) (fun _ h9 => h9) rfl dX11_heelsNear_36 ?_
    refine S_getR (n := 63) (C := RX8) (T := TX8) (N := 7) hx hb hg iX8 hown hK hW kd_31 rfl 2 (lt_b rfl) (hg (Cond.fieldLink RX11 359 "SlabWalk$Sights" "heel" "[I") m525) (fun _ h9 => h9) rfl dX11_heelsNear_39 ?_
    refine lv_iload_n hx hb dX11_heelsNear_42 rfl (lv_at hl 3 rfl) ?_
    refine S_iald hx hb hK hW kd_63 (vin ((by first | (clear ha_p2 hn_11 f_10 c_12; omega) | omega)) ((by first | (clear ha_p2 hn_11 f_10 c_12; omega) | omega))) dX11_heelsNear_43 (fun y_15 ey_15 => ?_)
    refine lv_iload hx hb dX11_heelsNear_44 (lv_at hl 0 rfl) ?_
    refine lv_iadd hx hb dX11_heelsNear_46 ?_
    refine lv_topi (fun y_16 ey_16 => ?_)
    have b_17 : 0 ≤ (G.1 1 10).toInt ∧ (G.1 1 10).toInt ≤ 4 := bd_1_10 hB_G
    have g_18 : (G_1.1 1 10).toInt = (G.1 1 10).toInt := (congrArg Int32.toInt (show G_1.1 1 10 = (G.1 1 10) from (hq_2.i9 1 10 rfl rfl)))
    refine S_calli (va_runV (As := [.int y_13, .int y_14, .int y_16]) (rest := []) ⟨hx, hb, hml, hown, hts⟩ (k_stands_1 l D k A a z G_1 y_13 y_14 y_16 ) (cwV 3 hts (gd_V hgd m1121 m966 m967 m118 m968) rfl rfl rfl hd_X6_stands ⟨Nat.le_of_ble_eq_true rfl, Nat.le_of_ble_eq_true rfl⟩) (pre_W hW hB_G_1 hK hZ hS kd_1 rfl) rfl rfl hl.1 rfl (lv_room (Nat.le_of_ble_eq_true rfl)) dX11_heelsNear_47 ⟨Nat.le_of_ble_eq_true rfl, Nat.le_of_ble_eq_true rfl⟩) hS (fun r_19 G_20 H locs hpo hW hS => ?_)
    have hX_23 : P_stands_1 y_13 y_14 y_16 G_1 r_19 G_20 := hpo
    obtain ⟨hB_G_20, hq_21, f_24, hp_22, -⟩ := hpo
    have hF := hF.call9 hq_21 rfl rfl
    refine lv_if_eq (tgt := 71) hx hb dX11_heelsNear_50 rfl (fun c_25 => ?_) (fun c_25 => ?_)
    · have c_25 : r_19.toInt = 0 := xI_eq rfl rfl c_25
      obtain ⟨y_26, ey_26⟩ : ∃ q, q = x_5 + 1 := ⟨_, rfl⟩
      have ty_26 : y_26.toInt = x_5.toInt + 1 := xI_add rfl rfl ey_26 ((by first | (clear ha_p0 ha_p2 hn_11 b_17 g_18 f_24 hp_22 c_25; omega) | omega)) ((by first | (clear ha_p0 ha_p2 hn_11 b_17 g_18 f_24 hp_22 c_25; omega) | omega))
      refine lv_iinc (v := y_26) (lv' := [(5, .int y_26), (4, .int x_6), (0, .ref (a 0)), (1, .int p0), (2, .int p1), (3, .int p2)]) hx hb dX11_heelsNear_71 hl (k := 0) rfl (by rw [ey_26]; rfl) (lt_b rfl) rfl (fun ls hl => ?_)
      refine lv_goto (tgt := 7) hx hb dX11_heelsNear_74 rfl ?_
      exact ih_3 (4 - y_26.toInt : Int).toNat ((by first | (clear ha_p0 ha_p2 b_17 g_18 f_24 hp_22 c_25; omega) | omega)) _ _ _ ⟨G_20, y_26, x_6, (Int.toNat_of_nonneg ((by first | (clear ha_p0 ha_p2 hn_11 b_17 g_18 f_24 hp_22 c_25; omega) | omega))), ⟨(by first | (clear ha_p0 ha_p2 hn_11 b_17 g_18 f_24 hp_22 c_25; omega) | omega), (by first | (clear ha_p0 ha_p2 hn_11 b_17 g_18 f_24 hp_22 c_25; omega) | omega)⟩, (hX_7.st (St_k_wNear_1_1_mk ⟨x_5, x_6, G_1, y_26, x_6, G_20, rfl, rfl, f_10, hB_G_1, ⟨c_12, ⟨y_13, ey_13, ⟨y_14, ey_14, ⟨y_15, ey_15, ⟨y_16, ey_16, ⟨r_19, G_20, hX_23, (Or.inl ⟨c_25, ⟨y_26, ty_26, ⟨rfl, rfl, rfl⟩⟩⟩)⟩⟩⟩⟩⟩⟩⟩)), hW, hB_G_20, hF, (Fr.call9 (rs := [37, 38, 39]) (fs := [(6, 3)]) (Fr.call9 (rs := [37, 38, 39]) (fs := [(6, 3)]) Fr.rf hq_2 rfl rfl) hq_21 rfl rfl), hS, lv_sub hl [0, 1, 2, 3, 4, 5] rfl⟩
    · have c_25 : r_19.toInt ≠ 0 := xI_ne rfl rfl c_25
      refine lv_iload_n hx hb dX11_heelsNear_53 rfl (lv_at hl 5 rfl) ?_
      refine lv_if_eq (tgt := 68) hx hb dX11_heelsNear_54 rfl (fun c_27 => ?_) (fun c_27 => ?_)
      · have c_27 : p2.toInt = 0 := xI_eq rfl rfl c_27
        obtain ⟨y_28, ey_28⟩ : ∃ q, q = x_6 + 1 := ⟨_, rfl⟩
        refine lv_iinc (v := y_28) (lv' := [(4, .int y_28), (5, .int x_5), (0, .ref (a 0)), (1, .int p0), (2, .int p1), (3, .int p2)]) hx hb dX11_heelsNear_68 hl (k := 1) rfl (by rw [ey_28]; rfl) (lt_b rfl) rfl (fun ls hl => ?_)
        obtain ⟨y_29, ey_29⟩ : ∃ q, q = x_5 + 1 := ⟨_, rfl⟩
        have ty_29 : y_29.toInt = x_5.toInt + 1 := xI_add rfl rfl ey_29 ((by first | (clear ha_p0 ha_p2 hn_11 b_17 g_18 f_24 hp_22 c_25 c_27; omega) | omega)) ((by first | (clear ha_p0 ha_p2 hn_11 b_17 g_18 f_24 hp_22 c_25 c_27; omega) | omega))
        refine lv_iinc (v := y_29) (lv' := [(5, .int y_29), (4, .int y_28), (0, .ref (a 0)), (1, .int p0), (2, .int p1), (3, .int p2)]) hx hb dX11_heelsNear_71 hl (k := 1) rfl (by rw [ey_29]; rfl) (lt_b rfl) rfl (fun ls hl => ?_)
        refine lv_goto (tgt := 7) hx hb dX11_heelsNear_74 rfl ?_
        exact ih_3 (4 - y_29.toInt : Int).toNat ((by first | (clear ha_p0 ha_p2 b_17 g_18 f_24 hp_22 c_25 c_27; omega) | omega)) _ _ _ ⟨G_20, y_29, y_28, (Int.toNat_of_nonneg ((by first | (clear ha_p0 ha_p2 hn_11 b_17 g_18 f_24 hp_22 c_25 c_27; omega) | omega))), ⟨(by first | (clear ha_p0 ha_p2 hn_11 b_17 g_18 f_24 hp_22 c_25 c_27; omega) | omega), (by first | (clear ha_p0 ha_p2 hn_11 b_17 g_18 f_24 hp_22 c_25 c_27; omega) | omega)⟩, (hX_7.st (St_k_wNear_1_1_mk ⟨x_5, x_6, G_1, y_29, y_28, G_20, rfl, rfl, f_10, hB_G_1, ⟨c_12, ⟨y_13, ey_13, ⟨y_14, ey_14, ⟨y_15, ey_15, ⟨y_16, ey_16, ⟨r_19, G_20, hX_23, (Or.inr ⟨c_25, (Or.inl ⟨c_27, ⟨y_28, ey_28, ⟨y_29, ty_29, ⟨rfl, rfl, rfl⟩⟩⟩⟩)⟩)⟩⟩⟩⟩⟩⟩⟩)), hW, hB_G_20, hF, (Fr.call9 (rs := [37, 38, 39]) (fs := [(6, 3)]) (Fr.call9 (rs := [37, 38, 39]) (fs := [(6, 3)]) Fr.rf hq_2 rfl rfl) hq_21 rfl rfl), hS, lv_sub hl [0, 1, 2, 3, 4, 5] rfl⟩
      · have c_27 : p2.toInt ≠ 0 := xI_ne rfl rfl c_27
        refine lv_aload_n hx hb dX11_heelsNear_57 rfl (lv_at hl 2 rfl) ?_
        refine lv_iload_n hx hb dX11_heelsNear_58 rfl (lv_at hl 3 rfl) ?_
        refine lv_iload_n hx hb dX11_heelsNear_59 rfl (lv_at hl 4 rfl) ?_
        refine lv_iload hx hb dX11_heelsNear_60 (lv_at hl 0 rfl) ?_
        refine S_calli (va_runV (As := [.int p0, .int p1, .int x_5]) (rest := []) ⟨hx, hb, hml, hown, hts⟩ (k_wLSight_1 l D k A a z G_20 p0 p1 x_5 ⟨(by first | (clear ha_p2 hn_11 f_10 c_12 b_17 g_18 f_24 hp_22 c_25 c_27; omega) | omega), (by first | (clear ha_p2 hn_11 f_10 c_12 b_17 g_18 f_24 hp_22 c_25 c_27; omega) | omega)⟩ ⟨(by first | (clear ha_p0 ha_p2 hn_11 b_17 g_18 f_24 hp_22 c_25 c_27; omega) | omega), (by first | (clear ha_p0 ha_p2 hn_11 b_17 g_18 f_24 hp_22 c_25 c_27; omega) | omega)⟩ ((((hq_21.r9 0 0 rfl rfl).trans (hq_2.r9 0 0 rfl rfl))).trans (hv_0_0)) ((((hq_21.r9 0 1 rfl rfl).trans (hq_2.r9 0 1 rfl rfl))).trans (hv_0_1)) ((((hq_21.r9 6 4 rfl rfl).trans (hq_2.r9 6 4 rfl rfl))).trans (hv_6_4))) (cwV 3 hts (gd_V hgd m1275 m1277 m46 m117 m1278) rfl rfl rfl hd_X11_isLawfulSight ⟨Nat.le_of_ble_eq_true rfl, Nat.le_of_ble_eq_true rfl⟩) (pre_W hW hB_G_20 hK hZ hS kd_0 rfl) rfl rfl hl.1 rfl (lv_room (Nat.le_of_ble_eq_true rfl)) dX11_heelsNear_62 ⟨Nat.le_of_ble_eq_true rfl, Nat.le_of_ble_eq_true rfl⟩) hS (fun r_30 G_31 H locs hpo hW hS => ?_)
        have hX_34 : P_wLSight_1 p0 p1 x_5 G_20 r_30 G_31 := hpo
        obtain ⟨hB_G_31, hq_32, f_35, -⟩ := hpo
        have hF := hF.call9 hq_32 rfl rfl
        refine lv_if_eq (tgt := 71) hx hb dX11_heelsNear_65 rfl (fun c_36 => ?_) (fun c_36 => ?_)
        · have c_36 : r_30.toInt = 0 := xI_eq rfl rfl c_36
          obtain ⟨y_37, ey_37⟩ : ∃ q, q = x_5 + 1 := ⟨_, rfl⟩
          have ty_37 : y_37.toInt = x_5.toInt + 1 := xI_add rfl rfl ey_37 ((by first | (clear ha_p0 ha_p2 hn_11 b_17 g_18 f_24 hp_22 c_25 c_27 f_35 c_36; omega) | omega)) ((by first | (clear ha_p0 ha_p2 hn_11 b_17 g_18 f_24 hp_22 c_25 c_27 f_35 c_36; omega) | omega))
          refine lv_iinc (v := y_37) (lv' := [(5, .int y_37), (4, .int x_6), (0, .ref (a 0)), (1, .int p0), (2, .int p1), (3, .int p2)]) hx hb dX11_heelsNear_71 hl (k := 0) rfl (by rw [ey_37]; rfl) (lt_b rfl) rfl (fun ls hl => ?_)
          refine lv_goto (tgt := 7) hx hb dX11_heelsNear_74 rfl ?_
          exact ih_3 (4 - y_37.toInt : Int).toNat ((by first | (clear ha_p0 ha_p2 b_17 g_18 f_24 hp_22 c_25 c_27 f_35 c_36; omega) | omega)) _ _ _ ⟨G_31, y_37, x_6, (Int.toNat_of_nonneg ((by first | (clear ha_p0 ha_p2 hn_11 b_17 g_18 f_24 hp_22 c_25 c_27 f_35 c_36; omega) | omega))), ⟨(by first | (clear ha_p0 ha_p2 hn_11 b_17 g_18 f_24 hp_22 c_25 c_27 f_35 c_36; omega) | omega), (by first | (clear ha_p0 ha_p2 hn_11 b_17 g_18 f_24 hp_22 c_25 c_27 f_35 c_36; omega) | omega)⟩, (hX_7.st (St_k_wNear_1_1_mk ⟨x_5, x_6, G_1, y_37, x_6, G_31, rfl, rfl, f_10, hB_G_1, ⟨c_12, ⟨y_13, ey_13, ⟨y_14, ey_14, ⟨y_15, ey_15, ⟨y_16, ey_16, ⟨r_19, G_20, hX_23, (Or.inr ⟨c_25, (Or.inr ⟨c_27, ⟨r_30, G_31, hX_34, (Or.inl ⟨c_36, ⟨y_37, ty_37, ⟨rfl, rfl, rfl⟩⟩⟩)⟩⟩)⟩)⟩⟩⟩⟩⟩⟩⟩)), hW, hB_G_31, hF, (Fr.call9 (rs := [37, 38, 39]) (fs := [(6, 3)]) (Fr.call9 (rs := [37, 38, 39]) (fs := [(6, 3)]) (Fr.call9 (rs := [37, 38, 39]) (fs := [(6, 3)]) Fr.rf hq_2 rfl rfl) hq_21 rfl rfl) hq_32 rfl rfl), hS, lv_sub hl [0, 1, 2, 3, 4, 5] rfl⟩
        · have c_36 : r_30.toInt ≠ 0 := xI_ne rfl rfl c_36
          obtain ⟨y_38, ey_38⟩ : ∃ q, q = x_6 + 1 := ⟨_, rfl⟩
          refine lv_iinc (v := y_38) (lv' := [(4, .int y_38), (5, .int x_5), (0, .ref (a 0)), (1, .int p0), (2, .int p1), (3, .int p2)]) hx hb dX11_heelsNear_68 hl (k := 1) rfl (by rw [ey_38]; rfl) (lt_b rfl) rfl (fun ls hl => ?_)
          obtain ⟨y_39, ey_39⟩ : ∃ q, q = x_5 + 1 := ⟨_, rfl⟩
          have ty_39 : y_39.toInt = x_5.toInt + 1 := xI_add rfl rfl ey_39 ((by first | (clear ha_p0 ha_p2 hn_11 b_17 g_18 f_24 hp_22 c_25 c_27 f_35 c_36; omega) | omega)) ((by first | (clear ha_p0 ha_p2 hn_11 b_17 g_18 f_24 hp_22 c_25 c_27 f_35 c_36; omega) | omega))
          refine lv_iinc (v := y_39) (lv' := [(5, .int y_39), (4, .int y_38), (0, .ref (a 0)), (1, .int p0), (2, .int p1), (3, .int p2)]) hx hb dX11_heelsNear_71 hl (k := 1) rfl (by rw [ey_39]; rfl) (lt_b rfl) rfl (fun ls hl => ?_)
          refine lv_goto (tgt := 7) hx hb dX11_heelsNear_74 rfl ?_
          exact ih_3 (4 - y_39.toInt : Int).toNat ((by first | (clear ha_p0 ha_p2 b_17 g_18 f_24 hp_22 c_25 c_27 f_35 c_36; omega) | omega)) _ _ _ ⟨G_31, y_39, y_38, (Int.toNat_of_nonneg ((by first | (clear ha_p0 ha_p2 hn_11 b_17 g_18 f_24 hp_22 c_25 c_27 f_35 c_36; omega) | omega))), ⟨(by first | (clear ha_p0 ha_p2 hn_11 b_17 g_18 f_24 hp_22 c_25 c_27 f_35 c_36; omega) | omega), (by first | (clear ha_p0 ha_p2 hn_11 b_17 g_18 f_24 hp_22 c_25 c_27 f_35 c_36; omega) | omega)⟩, (hX_7.st (St_k_wNear_1_1_mk ⟨x_5, x_6, G_1, y_39, y_38, G_31, rfl, rfl, f_10, hB_G_1, ⟨c_12, ⟨y_13, ey_13, ⟨y_14, ey_14, ⟨y_15, ey_15, ⟨y_16, ey_16, ⟨r_19, G_20, hX_23, (Or.inr ⟨c_25, (Or.inr ⟨c_27, ⟨r_30, G_31, hX_34, (Or.inr ⟨c_36, ⟨y_38, ey_38, ⟨y_39, ty_39, ⟨rfl, rfl, rfl⟩⟩⟩⟩)⟩⟩)⟩)⟩⟩⟩⟩⟩⟩⟩)), hW, hB_G_31, hF, (Fr.call9 (rs := [37, 38, 39]) (fs := [(6, 3)]) (Fr.call9 (rs := [37, 38, 39]) (fs := [(6, 3)]) (Fr.call9 (rs := [37, 38, 39]) (fs := [(6, 3)]) Fr.rf hq_2 rfl rfl) hq_21 rfl rfl) hq_32 rfl rfl), hS, lv_sub hl [0, 1, 2, 3, 4, 5] rfl⟩



set_option maxHeartbeats 4000000 in
set_option maxRecDepth 100000 in
theorem k_wStart_2 (l : Launch) (D : va_G) (k : KT) (A : Nat → Prop) (a : Nat → Nat) (z : SK) (G : GS)  (hv_0_0 : G.2.2 0 0 = 2) : Met l yX11_startAnew (WS yX11_startAnew cX11_startAnew 1 none) ({ frames := 3, cells := 0, slots := 0, locals := 81 }) (va_Pc [.ref (a 0)] (cW D k A a z G)) (va_Qv (fun (G1 : GS) => P_wStart_2 G G1) (fun (G1 : GS) t => Wd D k A a G1 t.heap) A) 0 0 A := by
  refine Met.ofW (cc := cX11_startAnew) (maxL := 1) (ret := none) (by decide) rfl ?_
  intro p e s m args below meth c s₁ B hml hv
  obtain ⟨rfl, hW, hB_G, hK, hZ⟩ := hv
  have hx := B.exec
  have hb := B.bytes
  have hr := B.returns
  have hts := atoms_spec (ws := WS yX11_startAnew cX11_startAnew 1 none) B.pre
  have hgd : ∀ w ∈ gd, w ∈ WS yX11_startAnew cX11_startAnew 1 none := fun w h => List.mem_cons_of_mem _ h
  have hg : ∀ w ∈ gd, w.before _ s = true := fun w h => hts w (hgd w h)
  have hown : s.vm.findClass RX11 = some m.cls := findClass_of_methodNamed B.named
  have hS : va_S A s.heap s.heap [] := va_S.rf
  have hF : Fr [38, 58, 59] [(0, 12), (6, 4), (30, 3), (30, 4), (30, 5), (31, 5)] G G := Fr.rf
  have hl := lv_entry ([.ref (a 0)]) (n := 1) (Nat.le_of_ble_eq_true rfl)
  rw [lg_entry_eq]
  generalize (lg_sl ([.ref (a 0)]) ++ List.replicate (1 - (lg_sl ([.ref (a 0)])).length) Slot.unset).toArray = ls at hl ⊢
  have hl : lv_has ls 1 [(0, .ref (a 0))] := hl
  refine lv_aload_n hx hb dX11_startAnew_0 rfl (lv_at hl 0 rfl) ?_
  refine S_getR (n := 6) (C := RX11) (T := TX11) (N := 13) hx hb hg iX11 hown hK hW kd_0 rfl 4 (lt_b rfl) (hg (Cond.fieldLink RX11 37 "SlabWalk" "lines" "LSlabWalk$Lines;") m574) (fun _ h9 => h9) rfl dX11_startAnew_1 ?_
  refine lv_aload_n hx hb dX11_startAnew_4 rfl (lv_at hl 0 rfl) ?_
  refine S_getV (n := 2) (C := RX11) (T := TX11) (N := 13) hx hb hg iX11 hown hK hW kd_0 rfl 0 (lt_b rfl) (hg (Cond.fieldLink RX11 10 "SlabWalk" "paving" "LSlabWalk$Paving;") m570) (fun _ h9 => h9) rfl hv_0_0 dX11_startAnew_5 ?_
  refine S_callv (va_runV (As := [.ref (a 2)]) (rest := []) ⟨hx, hb, hml, hown, hts⟩ (k_lLookB_2 l D k A a z G  ) (cwV 1 hts (gd_V hgd m551 m552 m553 m122 m554) rfl rfl rfl hd_X3_lookAt ⟨Nat.le_of_ble_eq_true rfl, Nat.le_of_ble_eq_true rfl⟩) (pre_W hW hB_G hK hZ hS kd_6 rfl) rfl rfl hl.1 rfl (lv_room (Nat.le_of_ble_eq_true rfl)) dX11_startAnew_8 ⟨Nat.le_of_ble_eq_true rfl, Nat.le_of_ble_eq_true rfl⟩) hS (fun G_2 H locs hpo hW hS => ?_)
  have hX_5 : P_lLookB_2 G G_2 := hpo
  obtain ⟨hB_G_2, hq_3, hp_4, -⟩ := hpo
  have hF := hF.call9 hq_3 rfl rfl
  refine lv_aload_n hx hb dX11_startAnew_11 rfl (lv_at hl 0 rfl) ?_
  refine S_getR (n := 30) (C := RX11) (T := TX11) (N := 13) hx hb hg iX11 hown hK hW kd_0 rfl 8 (lt_b rfl) (hg (Cond.fieldLink RX11 65 "SlabWalk" "earnest" "LSlabWalk$Earnest;") m578) (fun _ h9 => h9) rfl dX11_startAnew_12 ?_
  refine lv_aload_n hx hb dX11_startAnew_15 rfl (lv_at hl 0 rfl) ?_
  refine S_getV (n := 2) (C := RX11) (T := TX11) (N := 13) hx hb hg iX11 hown hK hW kd_0 rfl 0 (lt_b rfl) (hg (Cond.fieldLink RX11 10 "SlabWalk" "paving" "LSlabWalk$Paving;") m570) (fun _ h9 => h9) rfl (((hq_3.r9 0 0 rfl rfl)).trans (hv_0_0)) dX11_startAnew_16 ?_
  have b_6 : 0 ≤ (G.1 2 16).toInt ∧ (G.1 2 16).toInt ≤ 999 := bd_2_16 hB_G
  refine S_getI (v := (G.1 2 16)) (C := RX6) (T := TX6) (N := 17) hx hb hg iX6 hown hK hW kd_2 rfl 16 (lt_b rfl) (hg (Cond.fieldLink RX11 323 "SlabWalk$Paving" "draw" "I") m209) (fun _ h9 => h9) rfl (hq_3.i9 2 16 rfl rfl) dX11_startAnew_19 ?_
  refine S_callv (va_runV (As := [.int (G.1 2 16)]) (rest := []) ⟨hx, hb, hml, hown, hts⟩ (k_eStart l D k A a z G_2 (G.1 2 16) ) (cwV 1 hts (gd_V hgd m558 m559 m560 m127 m561) rfl rfl rfl hd_X1_startAnew ⟨Nat.le_of_ble_eq_true rfl, Nat.le_of_ble_eq_true rfl⟩) (pre_W hW hB_G_2 hK hZ hS kd_30 rfl) rfl rfl hl.1 rfl (lv_room (Nat.le_of_ble_eq_true rfl)) dX11_startAnew_22 ⟨Nat.le_of_ble_eq_true rfl, Nat.le_of_ble_eq_true rfl⟩) hS (fun G_8 H locs hpo hW hS => ?_)
  have hX_11 : P_eStart (G.1 2 16) G_2 G_8 := hpo
  obtain ⟨hB_G_8, hq_9, hp_10, -⟩ := hpo
  have hF := hF.call9 hq_9 rfl rfl
  refine lv_aload_n hx hb dX11_startAnew_25 rfl (lv_at hl 0 rfl) ?_
  refine S_getR (n := 31) (C := RX11) (T := TX11) (N := 13) hx hb hg iX11 hown hK hW kd_0 rfl 9 (lt_b rfl) (hg (Cond.fieldLink RX11 72 "SlabWalk" "sights" "LSlabWalk$Sights;") m579) (fun _ h9 => h9) rfl dX11_startAnew_26 ?_
  refine ic_0 hx hb dX11_startAnew_29 ?_
  refine S_putI (ty := .int) (C := RX8) (T := TX8) (N := 7) hx hb hg iX8 tyX8 tyX8_ok nmX8 hown hK hW hS kd_31 rfl 5 (lt_b rfl) (hg (Cond.fieldLink RX11 285 "SlabWalk$Sights" "count" "I") m529) (fun _ h9 => h9) rfl (by decide +kernel) rfl rfl rfl dX11_startAnew_30 (fun G_12 H locs eG_12 hW hS => ?_)
  have hB_G_12 : Bd G_12 := hB_G_8.put (V := 0) (lo := 0) (hi := 20) eG_12 rfl rfl rfl (by decide) (by decide) (hB_G_8.2.put eG_12 rfl)
  have hF := hF.put eG_12 (Or.inr (by decide))
  refine lv_aload_n hx hb dX11_startAnew_33 rfl (lv_at hl 0 rfl) ?_
  refine ic_0 hx hb dX11_startAnew_34 ?_
  refine S_putI (ty := .int) (C := RX11) (T := TX11) (N := 13) hx hb hg iX11 tyX11 tyX11_ok nmX11 hown hK hW hS kd_0 rfl 12 (lt_b rfl) (hg (Cond.fieldLink RX11 150 "SlabWalk" "lie" "I") m582) (fun _ h9 => h9) rfl (by decide +kernel) rfl rfl rfl dX11_startAnew_35 (fun G_13 H locs eG_13 hW hS => ?_)
  have hB_G_13 : Bd G_13 := hB_G_12.put (V := 0) (lo := 0) (hi := 400) eG_13 rfl rfl rfl (by decide) (by decide) (hB_G_12.2.put eG_13 rfl)
  have hF := hF.put eG_13 (Or.inr (by decide))
  have b_14 : 0 ≤ (G_8.1 30 4).toInt ∧ (G_8.1 30 4).toInt ≤ 40 := bd_30_4 hB_G_8
  have g_15 : (G_13.1 30 4).toInt = (G_8.1 30 4).toInt := (congrArg Int32.toInt (show G_13.1 30 4 = (G_8.1 30 4) from ((gp_ne eG_13 (by decide)).trans (gp_ne eG_12 (by decide)))))
  have b_16 : 0 ≤ (G_8.1 30 5).toInt ∧ (G_8.1 30 5).toInt ≤ 40 := bd_30_5 hB_G_8
  have g_17 : (G_13.1 30 5).toInt = (G_8.1 30 5).toInt := (congrArg Int32.toInt (show G_13.1 30 5 = (G_8.1 30 5) from ((gp_ne eG_13 (by decide)).trans (gp_ne eG_12 (by decide)))))
  exact W.vret hx hb hr (fun t ht _ => ⟨⟨G_13, rfl, (P_wStart_2_mk ⟨hB_G_13, hF, (⟨by omega, (((congrFun (congrFun (congrArg (fun q => q.2.2) eG_13) 6) 4).trans ((congrFun (congrFun (congrArg (fun q => q.2.2) eG_12) 6) 4).trans (hq_9.r9 6 4 rfl rfl)))).trans hp_4⟩), ⟨G_2, hX_5, ⟨G_8, hX_11, ⟨(Fr.put (rs := []) (fs := [(0, 12), (31, 5)]) (Fr.put (rs := []) (fs := [(0, 12), (31, 5)]) Fr.rf eG_12 (Or.inr (by decide))) eG_13 (Or.inr (by decide))), (gp_eq eG_13), ((gp_ne eG_13 (by decide)).trans (gp_eq eG_12))⟩⟩⟩⟩), wd_t ht hW⟩, hS.F ht⟩) hS.2.2 dX11_startAnew_38

set_option maxHeartbeats 4000000 in
set_option maxRecDepth 100000 in
theorem k_wAsk_2 (l : Launch) (D : va_G) (k : KT) (A : Nat → Prop) (a : Nat → Nat) (z : SK) (G : GS) (p0 : Int32) (p1 : Int32) (p2 : Int32) (hv_0_0 : G.2.2 0 0 = 2) (hv_0_1 : G.2.2 0 1 = 1) (hv_6_4 : G.2.2 6 4 = 2) : Met l yX11_canAsk (WS yX11_canAsk cX11_canAsk 4 (some .boolean)) ({ frames := 1, cells := 0, slots := 0, locals := 21 }) (va_Pc [.ref (a 0), .int p0, .int p1, .int p2] (cW D k A a z G)) (va_Qi (fun (r : Int32) (G1 : GS) => P_wAsk_2 p0 p1 p2 G r G1) (fun (G1 : GS) t => Wd D k A a G1 t.heap) A) 0 0 A := by
  refine Met.ofW (cc := cX11_canAsk) (maxL := 4) (ret := (some .boolean)) (by decide) rfl ?_
  intro p e s m args below meth c s₁ B hml hv
  obtain ⟨rfl, hW, hB_G, hK, hZ⟩ := hv
  have hx := B.exec
  have hb := B.bytes
  have hr := B.returns
  have hts := atoms_spec (ws := WS yX11_canAsk cX11_canAsk 4 (some .boolean)) B.pre
  have hgd : ∀ w ∈ gd, w ∈ WS yX11_canAsk cX11_canAsk 4 (some .boolean) := fun w h => List.mem_cons_of_mem _ h
  have hg : ∀ w ∈ gd, w.before _ s = true := fun w h => hts w (hgd w h)
  have hown : s.vm.findClass RX11 = some m.cls := findClass_of_methodNamed B.named
  have hS : va_S A s.heap s.heap [] := va_S.rf
  have hF : Fr [] [] G G := Fr.rf
  have hl := lv_entry ([.ref (a 0), .int p0, .int p1, .int p2]) (n := 4) (Nat.le_of_ble_eq_true rfl)
  rw [lg_entry_eq]
  generalize (lg_sl ([.ref (a 0), .int p0, .int p1, .int p2]) ++ List.replicate (4 - (lg_sl ([.ref (a 0), .int p0, .int p1, .int p2])).length) Slot.unset).toArray = ls at hl ⊢
  have hl : lv_has ls 4 [(0, .ref (a 0)), (1, .int p0), (2, .int p1), (3, .int p2)] := hl
  refine lv_aload_n hx hb dX11_canAsk_0 rfl (lv_at hl 0 rfl) ?_
  refine S_getV (n := 2) (C := RX11) (T := TX11) (N := 13) hx hb hg iX11 hown hK hW kd_0 rfl 0 (lt_b rfl) (hg (Cond.fieldLink RX11 10 "SlabWalk" "paving" "LSlabWalk$Paving;") m570) (fun _ h9 => h9) rfl hv_0_0 dX11_canAsk_1 ?_
  refine lv_iload_n hx hb dX11_canAsk_4 rfl (lv_at hl 1 rfl) ?_
  refine S_calli (va_runV (As := [.int p0]) (rest := []) ⟨hx, hb, hml, hown, hts⟩ (k_hasWalker_2 l D k A a z G p0 ) (cwV 1 hts (gd_V hgd m957 m958 m959 m118 m960) rfl rfl rfl hd_X6_hasWalker ⟨Nat.le_of_ble_eq_true rfl, Nat.le_of_ble_eq_true rfl⟩) (pre_W hW hB_G hK hZ hS kd_2 rfl) rfl rfl hl.1 rfl (lv_room (Nat.le_of_ble_eq_true rfl)) dX11_canAsk_5 ⟨Nat.le_of_ble_eq_true rfl, Nat.le_of_ble_eq_true rfl⟩) hS (fun r_1 G_2 H locs hpo hW hS => ?_)
  have hX_5 : P_hasWalker_2 p0 G r_1 G_2 := hpo
  obtain ⟨hB_G_2, hq_3, f_6, hp_4, -⟩ := hpo
  have hF := hF.call9 hq_3 rfl rfl
  refine lv_if_eq (tgt := 37) hx hb dX11_canAsk_8 rfl (fun c_7 => ?_) (fun c_7 => ?_)
  · have c_7 : r_1.toInt = 0 := xI_eq rfl rfl c_7
    refine ic_0 hx hb dX11_canAsk_37 ?_
    exact W.zret (v := 0) hx hb hr (by decide) (fun t ht _ => ⟨⟨0, G_2, rfl, (P_wAsk_2_mk ⟨hB_G_2, hF, ⟨by decide, by decide⟩, (by have hq : (0 : Int32).toInt = 0 := rfl; (try dsimp only); omega), ⟨r_1, G_2, hX_5, (Or.inl ⟨c_7, ⟨rfl, rfl⟩⟩)⟩⟩), wd_t ht hW⟩, hS.F ht⟩) hS.2.2 dX11_canAsk_38
  · have c_7 : r_1.toInt ≠ 0 := xI_ne rfl rfl c_7
    refine lv_aload_n hx hb dX11_canAsk_11 rfl (lv_at hl 0 rfl) ?_
    refine S_getV (n := 2) (C := RX11) (T := TX11) (N := 13) hx hb hg iX11 hown hK hW kd_0 rfl 0 (lt_b rfl) (hg (Cond.fieldLink RX11 10 "SlabWalk" "paving" "LSlabWalk$Paving;") m570) (fun _ h9 => h9) rfl (((hq_3.r9 0 0 rfl rfl)).trans (hv_0_0)) dX11_canAsk_12 ?_
    refine lv_iload_n hx hb dX11_canAsk_15 rfl (lv_at hl 2 rfl) ?_
    have b_8 : 0 ≤ (G.1 2 9).toInt ∧ (G.1 2 9).toInt ≤ 3 := bd_2_9 hB_G
    have g_9 : (G_2.1 2 9).toInt = (G.1 2 9).toInt := (congrArg Int32.toInt (show G_2.1 2 9 = (G.1 2 9) from (hq_3.i9 2 9 rfl rfl)))
    refine S_calli (va_runV (As := [.int p1]) (rest := []) ⟨hx, hb, hml, hown, hts⟩ (k_hasStreet_2 l D k A a z G_2 p1 ) (cwV 1 hts (gd_V hgd m902 m887 m888 m118 m889) rfl rfl rfl hd_X6_hasStreet ⟨Nat.le_of_ble_eq_true rfl, Nat.le_of_ble_eq_true rfl⟩) (pre_W hW hB_G_2 hK hZ hS kd_2 rfl) rfl rfl hl.1 rfl (lv_room (Nat.le_of_ble_eq_true rfl)) dX11_canAsk_16 ⟨Nat.le_of_ble_eq_true rfl, Nat.le_of_ble_eq_true rfl⟩) hS (fun r_10 G_11 H locs hpo hW hS => ?_)
    have hX_14 : P_hasStreet_2 p1 G_2 r_10 G_11 := hpo
    obtain ⟨hB_G_11, hq_12, f_15, hp_13, -⟩ := hpo
    have hF := hF.call9 hq_12 rfl rfl
    refine lv_if_eq (tgt := 37) hx hb dX11_canAsk_19 rfl (fun c_16 => ?_) (fun c_16 => ?_)
    · have c_16 : r_10.toInt = 0 := xI_eq rfl rfl c_16
      refine ic_0 hx hb dX11_canAsk_37 ?_
      exact W.zret (v := 0) hx hb hr (by decide) (fun t ht _ => ⟨⟨0, G_11, rfl, (P_wAsk_2_mk ⟨hB_G_11, hF, ⟨by decide, by decide⟩, (by have hq : (0 : Int32).toInt = 0 := rfl; (try dsimp only); omega), ⟨r_1, G_2, hX_5, (Or.inr ⟨c_7, ⟨r_10, G_11, hX_14, (Or.inl ⟨c_16, ⟨rfl, rfl⟩⟩)⟩⟩)⟩⟩), wd_t ht hW⟩, hS.F ht⟩) hS.2.2 dX11_canAsk_38
    · have c_16 : r_10.toInt ≠ 0 := xI_ne rfl rfl c_16
      refine lv_aload_n hx hb dX11_canAsk_22 rfl (lv_at hl 0 rfl) ?_
      refine S_getV (n := 2) (C := RX11) (T := TX11) (N := 13) hx hb hg iX11 hown hK hW kd_0 rfl 0 (lt_b rfl) (hg (Cond.fieldLink RX11 10 "SlabWalk" "paving" "LSlabWalk$Paving;") m570) (fun _ h9 => h9) rfl ((((hq_12.r9 0 0 rfl rfl).trans (hq_3.r9 0 0 rfl rfl))).trans (hv_0_0)) dX11_canAsk_23 ?_
      refine lv_iload_n hx hb dX11_canAsk_26 rfl (lv_at hl 3 rfl) ?_
      refine S_calli (va_runV (As := [.int p2]) (rest := []) ⟨hx, hb, hml, hown, hts⟩ (k_hasSet_2 l D k A a z G_11 p2 ) (cwV 1 hts (gd_V hgd m907 m908 m909 m118 m910) rfl rfl rfl hd_X6_hasSet ⟨Nat.le_of_ble_eq_true rfl, Nat.le_of_ble_eq_true rfl⟩) (pre_W hW hB_G_11 hK hZ hS kd_2 rfl) rfl rfl hl.1 rfl (lv_room (Nat.le_of_ble_eq_true rfl)) dX11_canAsk_27 ⟨Nat.le_of_ble_eq_true rfl, Nat.le_of_ble_eq_true rfl⟩) hS (fun r_17 G_18 H locs hpo hW hS => ?_)
      have hX_21 : P_hasSet_2 p2 G_11 r_17 G_18 := hpo
      obtain ⟨hB_G_18, hq_19, f_22, hp_20, -⟩ := hpo
      have hF := hF.call9 hq_19 rfl rfl
      refine lv_if_eq (tgt := 37) hx hb dX11_canAsk_30 rfl (fun c_23 => ?_) (fun c_23 => ?_)
      · have c_23 : r_17.toInt = 0 := xI_eq rfl rfl c_23
        refine ic_0 hx hb dX11_canAsk_37 ?_
        exact W.zret (v := 0) hx hb hr (by decide) (fun t ht _ => ⟨⟨0, G_18, rfl, (P_wAsk_2_mk ⟨hB_G_18, hF, ⟨by decide, by decide⟩, (by have hq : (0 : Int32).toInt = 0 := rfl; (try dsimp only); omega), ⟨r_1, G_2, hX_5, (Or.inr ⟨c_7, ⟨r_10, G_11, hX_14, (Or.inr ⟨c_16, ⟨r_17, G_18, hX_21, (Or.inl ⟨c_23, ⟨rfl, rfl⟩⟩)⟩⟩)⟩⟩)⟩⟩), wd_t ht hW⟩, hS.F ht⟩) hS.2.2 dX11_canAsk_38
      · have c_23 : r_17.toInt ≠ 0 := xI_ne rfl rfl c_23
        refine ic_1 hx hb dX11_canAsk_33 ?_
        refine lv_goto (tgt := 38) hx hb dX11_canAsk_34 rfl ?_
        exact W.zret (v := 1) hx hb hr (by decide) (fun t ht _ => ⟨⟨1, G_18, rfl, (P_wAsk_2_mk ⟨hB_G_18, hF, ⟨by decide, by decide⟩, (by have hq : (1 : Int32).toInt = 1 := rfl; (try dsimp only); omega), ⟨r_1, G_2, hX_5, (Or.inr ⟨c_7, ⟨r_10, G_11, hX_14, (Or.inr ⟨c_16, ⟨r_17, G_18, hX_21, (Or.inr ⟨c_23, ⟨rfl, rfl⟩⟩)⟩⟩)⟩⟩)⟩⟩), wd_t ht hW⟩, hS.F ht⟩) hS.2.2 dX11_canAsk_38

set_option maxHeartbeats 4000000 in
set_option maxRecDepth 100000 in
theorem k_wBrave_2 (l : Launch) (D : va_G) (k : KT) (A : Nat → Prop) (a : Nat → Nat) (z : SK) (G : GS) (p0 : Int32) (p1 : Int32) (p2 : Int32) (p3 : Int32) (p4 : Int32) (hv_0_0 : G.2.2 0 0 = 2) (hv_0_1 : G.2.2 0 1 = 1) (hv_6_4 : G.2.2 6 4 = 2) : Met l yX11_canBeBrave (WS yX11_canBeBrave cX11_canBeBrave 6 (some .boolean)) ({ frames := 2, cells := 0, slots := 0, locals := 44 }) (va_Pc [.ref (a 0), .int p0, .int p1, .int p2, .int p3, .int p4] (cW D k A a z G)) (va_Qi (fun (r : Int32) (G1 : GS) => P_wBrave_2 p0 p1 p2 p3 p4 G r G1) (fun (G1 : GS) t => Wd D k A a G1 t.heap) A) 0 0 A := by
  refine Met.ofW (cc := cX11_canBeBrave) (maxL := 6) (ret := (some .boolean)) (by decide) rfl ?_
  intro p e s m args below meth c s₁ B hml hv
  obtain ⟨rfl, hW, hB_G, hK, hZ⟩ := hv
  have hx := B.exec
  have hb := B.bytes
  have hr := B.returns
  have hts := atoms_spec (ws := WS yX11_canBeBrave cX11_canBeBrave 6 (some .boolean)) B.pre
  have hgd : ∀ w ∈ gd, w ∈ WS yX11_canBeBrave cX11_canBeBrave 6 (some .boolean) := fun w h => List.mem_cons_of_mem _ h
  have hg : ∀ w ∈ gd, w.before _ s = true := fun w h => hts w (hgd w h)
  have hown : s.vm.findClass RX11 = some m.cls := findClass_of_methodNamed B.named
  have hS : va_S A s.heap s.heap [] := va_S.rf
  have hF : Fr [] [] G G := Fr.rf
  have hl := lv_entry ([.ref (a 0), .int p0, .int p1, .int p2, .int p3, .int p4]) (n := 6) (Nat.le_of_ble_eq_true rfl)
  rw [lg_entry_eq]
  generalize (lg_sl ([.ref (a 0), .int p0, .int p1, .int p2, .int p3, .int p4]) ++ List.replicate (6 - (lg_sl ([.ref (a 0), .int p0, .int p1, .int p2, .int p3, .int p4])).length) Slot.unset).toArray = ls at hl ⊢
  have hl : lv_has ls 6 [(0, .ref (a 0)), (1, .int p0), (2, .int p1), (3, .int p2), (4, .int p3), (5, .int p4)] := hl
  refine lv_aload_n hx hb dX11_canBeBrave_0 rfl (lv_at hl 0 rfl) ?_
  refine lv_iload_n hx hb dX11_canBeBrave_1 rfl (lv_at hl 1 rfl) ?_
  refine lv_iload_n hx hb dX11_canBeBrave_2 rfl (lv_at hl 2 rfl) ?_
  refine lv_iload_n hx hb dX11_canBeBrave_3 rfl (lv_at hl 3 rfl) ?_
  refine S_calli (va_runV (As := [.int p0, .int p1, .int p2]) (rest := []) ⟨hx, hb, hml, hown, hts⟩ (k_wAsk_2 l D k A a z G p0 p1 p2 hv_0_0 hv_0_1 hv_6_4) (cwV 3 hts (gd_V hgd m953 m955 m31 m117 m956) rfl rfl rfl hd_X11_canAsk ⟨Nat.le_of_ble_eq_true rfl, Nat.le_of_ble_eq_true rfl⟩) (pre_W hW hB_G hK hZ hS kd_0 rfl) rfl rfl hl.1 rfl (lv_room (Nat.le_of_ble_eq_true rfl)) dX11_canBeBrave_4 ⟨Nat.le_of_ble_eq_true rfl, Nat.le_of_ble_eq_true rfl⟩) hS (fun r_1 G_2 H locs hpo hW hS => ?_)
  have hX_5 : P_wAsk_2 p0 p1 p2 G r_1 G_2 := hpo
  obtain ⟨hB_G_2, hq_3, f_6, hp_4, -⟩ := hpo
  have hF := hF.call9 hq_3 rfl rfl
  refine lv_if_eq (tgt := 41) hx hb dX11_canBeBrave_7 rfl (fun c_7 => ?_) (fun c_7 => ?_)
  · have c_7 : r_1.toInt = 0 := xI_eq rfl rfl c_7
    refine ic_0 hx hb dX11_canBeBrave_41 ?_
    exact W.zret (v := 0) hx hb hr (by decide) (fun t ht _ => ⟨⟨0, G_2, rfl, (P_wBrave_2_mk ⟨hB_G_2, hF, ⟨by decide, by decide⟩, (by have hq : (0 : Int32).toInt = 0 := rfl; (try dsimp only); omega), ⟨r_1, G_2, hX_5, (Or.inl ⟨c_7, ⟨rfl, rfl⟩⟩)⟩⟩), wd_t ht hW⟩, hS.F ht⟩) hS.2.2 dX11_canBeBrave_42
  · have c_7 : r_1.toInt ≠ 0 := xI_ne rfl rfl c_7
    refine lv_aload_n hx hb dX11_canBeBrave_10 rfl (lv_at hl 0 rfl) ?_
    refine S_getV (n := 2) (C := RX11) (T := TX11) (N := 13) hx hb hg iX11 hown hK hW kd_0 rfl 0 (lt_b rfl) (hg (Cond.fieldLink RX11 10 "SlabWalk" "paving" "LSlabWalk$Paving;") m570) (fun _ h9 => h9) rfl (((hq_3.r9 0 0 rfl rfl)).trans (hv_0_0)) dX11_canBeBrave_11 ?_
    refine lv_iload_n hx hb dX11_canBeBrave_14 rfl (lv_at hl 1 rfl) ?_
    refine lv_iload_n hx hb dX11_canBeBrave_15 rfl (lv_at hl 2 rfl) ?_
    refine lv_iload hx hb dX11_canBeBrave_16 (lv_at hl 4 rfl) ?_
    have b_8 : 0 ≤ (G.1 2 10).toInt ∧ (G.1 2 10).toInt ≤ 4 := bd_2_10 hB_G
    have g_9 : (G_2.1 2 10).toInt = (G.1 2 10).toInt := (congrArg Int32.toInt (show G_2.1 2 10 = (G.1 2 10) from (hq_3.i9 2 10 rfl rfl)))
    refine S_calli (va_runV (As := [.int p0, .int p1, .int p3]) (rest := []) ⟨hx, hb, hml, hown, hts⟩ (k_stands_2 l D k A a z G_2 p0 p1 p3 ) (cwV 3 hts (gd_V hgd m1121 m966 m967 m118 m968) rfl rfl rfl hd_X6_stands ⟨Nat.le_of_ble_eq_true rfl, Nat.le_of_ble_eq_true rfl⟩) (pre_W hW hB_G_2 hK hZ hS kd_2 rfl) rfl rfl hl.1 rfl (lv_room (Nat.le_of_ble_eq_true rfl)) dX11_canBeBrave_18 ⟨Nat.le_of_ble_eq_true rfl, Nat.le_of_ble_eq_true rfl⟩) hS (fun r_10 G_11 H locs hpo hW hS => ?_)
    have hX_14 : P_stands_2 p0 p1 p3 G_2 r_10 G_11 := hpo
    obtain ⟨hB_G_11, hq_12, f_15, hp_13, -⟩ := hpo
    have hF := hF.call9 hq_12 rfl rfl
    refine lv_if_eq (tgt := 41) hx hb dX11_canBeBrave_21 rfl (fun c_16 => ?_) (fun c_16 => ?_)
    · have c_16 : r_10.toInt = 0 := xI_eq rfl rfl c_16
      refine ic_0 hx hb dX11_canBeBrave_41 ?_
      exact W.zret (v := 0) hx hb hr (by decide) (fun t ht _ => ⟨⟨0, G_11, rfl, (P_wBrave_2_mk ⟨hB_G_11, hF, ⟨by decide, by decide⟩, (by have hq : (0 : Int32).toInt = 0 := rfl; (try dsimp only); omega), ⟨r_1, G_2, hX_5, (Or.inr ⟨c_7, ⟨r_10, G_11, hX_14, (Or.inl ⟨c_16, ⟨rfl, rfl⟩⟩)⟩⟩)⟩⟩), wd_t ht hW⟩, hS.F ht⟩) hS.2.2 dX11_canBeBrave_42
    · have c_16 : r_10.toInt ≠ 0 := xI_ne rfl rfl c_16
      refine lv_iload hx hb dX11_canBeBrave_24 (lv_at hl 5 rfl) ?_
      refine ic_1 hx hb dX11_canBeBrave_26 ?_
      refine lv_icmp_lt (tgt := 41) hx hb dX11_canBeBrave_27 rfl (fun c_17 => ?_) (fun c_17 => ?_)
      · have c_17 : p4.toInt < 1 := xI_lt rfl rfl c_17
        refine ic_0 hx hb dX11_canBeBrave_41 ?_
        exact W.zret (v := 0) hx hb hr (by decide) (fun t ht _ => ⟨⟨0, G_11, rfl, (P_wBrave_2_mk ⟨hB_G_11, hF, ⟨by decide, by decide⟩, (by have hq : (0 : Int32).toInt = 0 := rfl; (try dsimp only); omega), ⟨r_1, G_2, hX_5, (Or.inr ⟨c_7, ⟨r_10, G_11, hX_14, (Or.inr ⟨c_16, (Or.inl ⟨c_17, ⟨rfl, rfl⟩⟩)⟩)⟩⟩)⟩⟩), wd_t ht hW⟩, hS.F ht⟩) hS.2.2 dX11_canBeBrave_42
      · have c_17 : 1 ≤ p4.toInt := xI_nlt rfl rfl c_17
        refine lv_iload hx hb dX11_canBeBrave_30 (lv_at hl 5 rfl) ?_
        refine lv_bipush (v := 8) hx hb dX11_canBeBrave_32 (by decide) ?_
        refine lv_icmp_gt (tgt := 41) hx hb dX11_canBeBrave_34 rfl (fun c_18 => ?_) (fun c_18 => ?_)
        · have c_18 : 8 < p4.toInt := xI_lt rfl rfl c_18
          refine ic_0 hx hb dX11_canBeBrave_41 ?_
          exact W.zret (v := 0) hx hb hr (by decide) (fun t ht _ => ⟨⟨0, G_11, rfl, (P_wBrave_2_mk ⟨hB_G_11, hF, ⟨by decide, by decide⟩, (by have hq : (0 : Int32).toInt = 0 := rfl; (try dsimp only); omega), ⟨r_1, G_2, hX_5, (Or.inr ⟨c_7, ⟨r_10, G_11, hX_14, (Or.inr ⟨c_16, (Or.inr ⟨c_17, (Or.inl ⟨c_18, ⟨rfl, rfl⟩⟩)⟩)⟩)⟩⟩)⟩⟩), wd_t ht hW⟩, hS.F ht⟩) hS.2.2 dX11_canBeBrave_42
        · have c_18 : p4.toInt ≤ 8 := xI_nlt rfl rfl c_18
          refine ic_1 hx hb dX11_canBeBrave_37 ?_
          refine lv_goto (tgt := 42) hx hb dX11_canBeBrave_38 rfl ?_
          exact W.zret (v := 1) hx hb hr (by decide) (fun t ht _ => ⟨⟨1, G_11, rfl, (P_wBrave_2_mk ⟨hB_G_11, hF, ⟨by decide, by decide⟩, (by have hq : (1 : Int32).toInt = 1 := rfl; (try dsimp only); omega), ⟨r_1, G_2, hX_5, (Or.inr ⟨c_7, ⟨r_10, G_11, hX_14, (Or.inr ⟨c_16, (Or.inr ⟨c_17, (Or.inr ⟨c_18, ⟨rfl, rfl⟩⟩)⟩)⟩)⟩⟩)⟩⟩), wd_t ht hW⟩, hS.F ht⟩) hS.2.2 dX11_canBeBrave_42

set_option maxHeartbeats 4000000 in
set_option maxRecDepth 100000 in
theorem k_wGo_2 (l : Launch) (D : va_G) (k : KT) (A : Nat → Prop) (a : Nat → Nat) (z : SK) (G : GS) (p0 : Int32) (hv_0_0 : G.2.2 0 0 = 2) (hv_0_1 : G.2.2 0 1 = 1) (hv_6_4 : G.2.2 6 4 = 2) : Met l yX11_canGo (WS yX11_canGo cX11_canGo 4 (some .boolean)) ({ frames := 1, cells := 0, slots := 0, locals := 21 }) (va_Pc [.ref (a 0), .int p0] (cW D k A a z G)) (va_Qi (fun (r : Int32) (G1 : GS) => P_wGo_2 p0 G r G1) (fun (G1 : GS) t => Wd D k A a G1 t.heap) A) 0 0 A := by
  refine Met.ofW (cc := cX11_canGo) (maxL := 4) (ret := (some .boolean)) (by decide) rfl ?_
  intro p e s m args below meth c s₁ B hml hv
  obtain ⟨rfl, hW, hB_G, hK, hZ⟩ := hv
  have hx := B.exec
  have hb := B.bytes
  have hr := B.returns
  have hts := atoms_spec (ws := WS yX11_canGo cX11_canGo 4 (some .boolean)) B.pre
  have hgd : ∀ w ∈ gd, w ∈ WS yX11_canGo cX11_canGo 4 (some .boolean) := fun w h => List.mem_cons_of_mem _ h
  have hg : ∀ w ∈ gd, w.before _ s = true := fun w h => hts w (hgd w h)
  have hown : s.vm.findClass RX11 = some m.cls := findClass_of_methodNamed B.named
  have hS : va_S A s.heap s.heap [] := va_S.rf
  have hF : Fr [] [] G G := Fr.rf
  have hl := lv_entry ([.ref (a 0), .int p0]) (n := 4) (Nat.le_of_ble_eq_true rfl)
  rw [lg_entry_eq]
  generalize (lg_sl ([.ref (a 0), .int p0]) ++ List.replicate (4 - (lg_sl ([.ref (a 0), .int p0])).length) Slot.unset).toArray = ls at hl ⊢
  have hl : lv_has ls 4 [(0, .ref (a 0)), (1, .int p0)] := hl
  refine lv_aload_n hx hb dX11_canGo_0 rfl (lv_at hl 0 rfl) ?_
  refine S_getR (n := 30) (C := RX11) (T := TX11) (N := 13) hx hb hg iX11 hown hK hW kd_0 rfl 8 (lt_b rfl) (hg (Cond.fieldLink RX11 65 "SlabWalk" "earnest" "LSlabWalk$Earnest;") m578) (fun _ h9 => h9) rfl dX11_canGo_1 ?_
  refine S_getR (n := 58) (C := RX1) (T := TX1) (N := 6) hx hb hg iX1 hown hK hW kd_30 rfl 0 (lt_b rfl) (hg (Cond.fieldLink RX11 246 "SlabWalk$Earnest" "now" "[I") m493) (fun _ h9 => h9) rfl dX11_canGo_4 ?_
  refine ic_0 hx hb dX11_canGo_7 ?_
  refine S_iald hx hb hK hW kd_58 (vin (by decide) (by decide)) dX11_canGo_8 (fun y_1 ey_1 => ?_)
  have u_2 : y_1.toInt = (G.1 58 0).toInt := congrArg Int32.toInt (ey_1)
  refine lv_istore_n (lv' := [(2, .int y_1), (0, .ref (a 0)), (1, .int p0)]) hx hb dX11_canGo_9 rfl hl (lt_b rfl) rfl (fun ls hl => ?_)
  refine lv_aload_n hx hb dX11_canGo_10 rfl (lv_at hl 1 rfl) ?_
  refine S_getV (n := 2) (C := RX11) (T := TX11) (N := 13) hx hb hg iX11 hown hK hW kd_0 rfl 0 (lt_b rfl) (hg (Cond.fieldLink RX11 10 "SlabWalk" "paving" "LSlabWalk$Paving;") m570) (fun _ h9 => h9) rfl hv_0_0 dX11_canGo_11 ?_
  refine lv_iload_n hx hb dX11_canGo_14 rfl (lv_at hl 0 rfl) ?_
  refine S_calli (va_runV (As := [.int y_1]) (rest := []) ⟨hx, hb, hml, hown, hts⟩ (k_hasWalker_2 l D k A a z G y_1 ) (cwV 1 hts (gd_V hgd m957 m958 m959 m118 m960) rfl rfl rfl hd_X6_hasWalker ⟨Nat.le_of_ble_eq_true rfl, Nat.le_of_ble_eq_true rfl⟩) (pre_W hW hB_G hK hZ hS kd_2 rfl) rfl rfl hl.1 rfl (lv_room (Nat.le_of_ble_eq_true rfl)) dX11_canGo_15 ⟨Nat.le_of_ble_eq_true rfl, Nat.le_of_ble_eq_true rfl⟩) hS (fun r_3 G_4 H locs hpo hW hS => ?_)
  have hX_7 : P_hasWalker_2 y_1 G r_3 G_4 := hpo
  obtain ⟨hB_G_4, hq_5, f_8, hp_6, -⟩ := hpo
  have hF := hF.call9 hq_5 rfl rfl
  refine lv_if_eq (tgt := 47) hx hb dX11_canGo_18 rfl (fun c_9 => ?_) (fun c_9 => ?_)
  · have c_9 : r_3.toInt = 0 := xI_eq rfl rfl c_9
    refine ic_0 hx hb dX11_canGo_47 ?_
    exact W.zret (v := 0) hx hb hr (by decide) (fun t ht _ => ⟨⟨0, G_4, rfl, (P_wGo_2_mk ⟨hB_G_4, hF, ⟨by decide, by decide⟩, (by have hq : (0 : Int32).toInt = 0 := rfl; (try dsimp only); omega), ⟨y_1, ey_1, ⟨r_3, G_4, hX_7, (Or.inl ⟨c_9, ⟨rfl, rfl⟩⟩)⟩⟩⟩), wd_t ht hW⟩, hS.F ht⟩) hS.2.2 dX11_canGo_48
  · have c_9 : r_3.toInt ≠ 0 := xI_ne rfl rfl c_9
    refine lv_aload_n hx hb dX11_canGo_21 rfl (lv_at hl 1 rfl) ?_
    refine S_getR (n := 30) (C := RX11) (T := TX11) (N := 13) hx hb hg iX11 hown hK hW kd_0 rfl 8 (lt_b rfl) (hg (Cond.fieldLink RX11 65 "SlabWalk" "earnest" "LSlabWalk$Earnest;") m578) (fun _ h9 => h9) rfl dX11_canGo_22 ?_
    refine S_getR (n := 58) (C := RX1) (T := TX1) (N := 6) hx hb hg iX1 hown hK hW kd_30 rfl 0 (lt_b rfl) (hg (Cond.fieldLink RX11 246 "SlabWalk$Earnest" "now" "[I") m493) (fun _ h9 => h9) rfl dX11_canGo_25 ?_
    refine ic_4 hx hb dX11_canGo_28 ?_
    refine S_iald hx hb hK hW kd_58 (vin (by decide) (by decide)) dX11_canGo_29 (fun y_10 ey_10 => ?_)
    refine ic_1 hx hb dX11_canGo_30 ?_
    refine lv_icmp_ne (tgt := 47) hx hb dX11_canGo_31 rfl (fun c_11 => ?_) (fun c_11 => ?_)
    · have c_11 : y_10.toInt ≠ 1 := xI_ne rfl rfl c_11
      refine ic_0 hx hb dX11_canGo_47 ?_
      exact W.zret (v := 0) hx hb hr (by decide) (fun t ht _ => ⟨⟨0, G_4, rfl, (P_wGo_2_mk ⟨hB_G_4, hF, ⟨by decide, by decide⟩, (by have hq : (0 : Int32).toInt = 0 := rfl; (try dsimp only); omega), ⟨y_1, ey_1, ⟨r_3, G_4, hX_7, (Or.inr ⟨c_9, ⟨y_10, ey_10, (Or.inr ⟨c_11, ⟨rfl, rfl⟩⟩)⟩⟩)⟩⟩⟩), wd_t ht hW⟩, hS.F ht⟩) hS.2.2 dX11_canGo_48
    · have c_11 : y_10.toInt = 1 := xI_eq rfl rfl c_11
      refine lv_iload_n hx hb dX11_canGo_34 rfl (lv_at hl 2 rfl) ?_
      refine lv_aload_n hx hb dX11_canGo_35 rfl (lv_at hl 1 rfl) ?_
      refine S_getV (n := 2) (C := RX11) (T := TX11) (N := 13) hx hb hg iX11 hown hK hW kd_0 rfl 0 (lt_b rfl) (hg (Cond.fieldLink RX11 10 "SlabWalk" "paving" "LSlabWalk$Paving;") m570) (fun _ h9 => h9) rfl (((hq_5.r9 0 0 rfl rfl)).trans (hv_0_0)) dX11_canGo_36 ?_
      refine S_getR (n := 23) (C := RX6) (T := TX6) (N := 17) hx hb hg iX6 hown hK hW kd_2 rfl 3 (lt_b rfl) (hg (Cond.fieldLink RX11 331 "SlabWalk$Paving" "least" "[I") m169) (fun _ h9 => h9) rfl dX11_canGo_39 ?_
      refine lv_iload_n hx hb dX11_canGo_42 rfl (lv_at hl 0 rfl) ?_
      refine S_iald hx hb hK hW kd_23 (vin (by omega) (by omega)) dX11_canGo_43 (fun y_12 ey_12 => ?_)
      have ty_12 : 0 ≤ y_12.toInt ∧ y_12.toInt ≤ 60 := bv_23 hB_G_4 ey_12
      refine lv_icmp_ge (tgt := 49) hx hb dX11_canGo_44 rfl (fun c_13 => ?_) (fun c_13 => ?_)
      · have c_13 : y_12.toInt ≤ p0.toInt := xI_le rfl rfl c_13
        refine lv_aload_n hx hb dX11_canGo_49 rfl (lv_at hl 1 rfl) ?_
        refine S_getR (n := 30) (C := RX11) (T := TX11) (N := 13) hx hb hg iX11 hown hK hW kd_0 rfl 8 (lt_b rfl) (hg (Cond.fieldLink RX11 65 "SlabWalk" "earnest" "LSlabWalk$Earnest;") m578) (fun _ h9 => h9) rfl dX11_canGo_50 ?_
        refine S_getR (n := 58) (C := RX1) (T := TX1) (N := 6) hx hb hg iX1 hown hK hW kd_30 rfl 0 (lt_b rfl) (hg (Cond.fieldLink RX11 246 "SlabWalk$Earnest" "now" "[I") m493) (fun _ h9 => h9) rfl dX11_canGo_53 ?_
        refine ic_5 hx hb dX11_canGo_56 ?_
        refine S_iald hx hb hK hW kd_58 (vin (by decide) (by decide)) dX11_canGo_57 (fun y_14 ey_14 => ?_)
        refine ic_1 hx hb dX11_canGo_58 ?_
        refine W.cut (σ := Int32) (pcJ := 67) (J := fun y H locs ls => ∃ (G_19 : GS), (0 ≤ y.toInt ∧ y.toInt ≤ 1) ∧ Jn_k_wGo_2_1 y_14 G_4 y G_19 ∧ Wd D k A a G_19 H ∧ Bd G_19 ∧ Fr [] [] G G_19 ∧ Fr [] [] G_4 G_19 ∧ va_S A s.heap H locs ∧ lv_has ls 4 [(2, .int y_1), (0, .ref (a 0)), (1, .int p0)]) (stJ := fun y => [.int y]) ?_ (fun hJ_20 => ?_)
        · intro y H locs ls hI
          obtain ⟨w_18, hy⟩ : ∃ q, q = y := ⟨_, rfl⟩
          subst hy
          obtain ⟨G_19, f_23, hX_22, hW, hB_G_19, hF, hq_21, hS, hl⟩ := hI
          refine lv_istore_n (lv' := [(3, .int w_18), (2, .int y_1), (0, .ref (a 0)), (1, .int p0)]) hx hb dX11_canGo_67 rfl hl (lt_b rfl) rfl (fun ls hl => ?_)
          refine lv_iload_n hx hb dX11_canGo_68 rfl (lv_at hl 3 rfl) ?_
          refine lv_iload_n hx hb dX11_canGo_69 rfl (lv_at hl 0 rfl) ?_
          refine lv_if_eq (tgt := 85) hx hb dX11_canGo_70 rfl (fun c_24 => ?_) (fun c_24 => ?_)
          · have c_24 : w_18.toInt = 0 := xI_eq rfl rfl c_24
            refine lv_aload_n hx hb dX11_canGo_85 rfl (lv_at hl 2 rfl) ?_
            refine S_getV (n := 2) (C := RX11) (T := TX11) (N := 13) hx hb hg iX11 hown hK hW kd_0 rfl 0 (lt_b rfl) (hg (Cond.fieldLink RX11 10 "SlabWalk" "paving" "LSlabWalk$Paving;") m570) (fun _ h9 => h9) rfl ((((hq_21.r9 0 0 rfl rfl).trans (hq_5.r9 0 0 rfl rfl))).trans (hv_0_0)) dX11_canGo_86 ?_
            refine S_getR (n := 25) (C := RX6) (T := TX6) (N := 17) hx hb hg iX6 hown hK hW kd_2 rfl 5 (lt_b rfl) (hg (Cond.fieldLink RX11 333 "SlabWalk$Paving" "leap" "[I") m177) (fun _ h9 => h9) rfl dX11_canGo_89 ?_
            refine lv_iload_n hx hb dX11_canGo_92 rfl (lv_at hl 1 rfl) ?_
            refine S_iald hx hb hK hW kd_25 (vin ((by first | (clear c_11 ty_12 c_13 f_23 c_24; omega) | omega)) ((by first | (clear c_11 ty_12 c_13 f_23 c_24; omega) | omega))) dX11_canGo_93 (fun y_25 ey_25 => ?_)
            have ty_25 : 0 ≤ y_25.toInt ∧ y_25.toInt ≤ 99 := bv_25 hB_G_19 ey_25
            refine lv_icmp_gt (tgt := 101) hx hb dX11_canGo_94 rfl (fun c_26 => ?_) (fun c_26 => ?_)
            · have c_26 : y_25.toInt < p0.toInt := xI_lt rfl rfl c_26
              refine ic_0 hx hb dX11_canGo_101 ?_
              exact W.zret (v := 0) hx hb hr (by decide) (fun t ht _ => ⟨⟨0, G_19, rfl, (P_wGo_2_mk ⟨hB_G_19, hF, ⟨by decide, by decide⟩, (by have hq : (0 : Int32).toInt = 0 := rfl; (try dsimp only); omega), ⟨y_1, ey_1, ⟨r_3, G_4, hX_7, (Or.inr ⟨c_9, ⟨y_10, ey_10, (Or.inl ⟨c_11, ⟨y_12, ey_12, (Or.inl ⟨c_13, ⟨y_14, ey_14, ⟨w_18, G_19, hX_22, f_23, hB_G_19, hq_21, (Or.inl ⟨c_24, ⟨y_25, ey_25, (Or.inl ⟨c_26, ⟨rfl, rfl⟩⟩)⟩⟩)⟩⟩⟩)⟩⟩)⟩⟩)⟩⟩⟩), wd_t ht hW⟩, hS.F ht⟩) hS.2.2 dX11_canGo_102
            · have c_26 : p0.toInt ≤ y_25.toInt := xI_nlt rfl rfl c_26
              refine ic_1 hx hb dX11_canGo_97 ?_
              refine lv_goto (tgt := 102) hx hb dX11_canGo_98 rfl ?_
              exact W.zret (v := 1) hx hb hr (by decide) (fun t ht _ => ⟨⟨1, G_19, rfl, (P_wGo_2_mk ⟨hB_G_19, hF, ⟨by decide, by decide⟩, (by have hq : (1 : Int32).toInt = 1 := rfl; (try dsimp only); omega), ⟨y_1, ey_1, ⟨r_3, G_4, hX_7, (Or.inr ⟨c_9, ⟨y_10, ey_10, (Or.inl ⟨c_11, ⟨y_12, ey_12, (Or.inl ⟨c_13, ⟨y_14, ey_14, ⟨w_18, G_19, hX_22, f_23, hB_G_19, hq_21, (Or.inl ⟨c_24, ⟨y_25, ey_25, (Or.inr ⟨c_26, ⟨rfl, rfl⟩⟩)⟩⟩)⟩⟩⟩)⟩⟩)⟩⟩)⟩⟩⟩), wd_t ht hW⟩, hS.F ht⟩) hS.2.2 dX11_canGo_102
          · have c_24 : w_18.toInt ≠ 0 := xI_ne rfl rfl c_24
            refine lv_aload_n hx hb dX11_canGo_73 rfl (lv_at hl 2 rfl) ?_
            refine S_getV (n := 2) (C := RX11) (T := TX11) (N := 13) hx hb hg iX11 hown hK hW kd_0 rfl 0 (lt_b rfl) (hg (Cond.fieldLink RX11 10 "SlabWalk" "paving" "LSlabWalk$Paving;") m570) (fun _ h9 => h9) rfl ((((hq_21.r9 0 0 rfl rfl).trans (hq_5.r9 0 0 rfl rfl))).trans (hv_0_0)) dX11_canGo_74 ?_
            refine S_getR (n := 24) (C := RX6) (T := TX6) (N := 17) hx hb hg iX6 hown hK hW kd_2 rfl 4 (lt_b rfl) (hg (Cond.fieldLink RX11 237 "SlabWalk$Paving" "most" "[I") m173) (fun _ h9 => h9) rfl dX11_canGo_77 ?_
            refine lv_iload_n hx hb dX11_canGo_80 rfl (lv_at hl 1 rfl) ?_
            refine S_iald hx hb hK hW kd_24 (vin ((by first | (clear c_11 ty_12 c_13 f_23 c_24; omega) | omega)) ((by first | (clear c_11 ty_12 c_13 f_23 c_24; omega) | omega))) dX11_canGo_81 (fun y_27 ey_27 => ?_)
            have ty_27 : 0 ≤ y_27.toInt ∧ y_27.toInt ≤ 60 := bv_24 hB_G_19 ey_27
            refine lv_goto (tgt := 94) hx hb dX11_canGo_82 rfl ?_
            refine lv_icmp_gt (tgt := 101) hx hb dX11_canGo_94 rfl (fun c_28 => ?_) (fun c_28 => ?_)
            · have c_28 : y_27.toInt < p0.toInt := xI_lt rfl rfl c_28
              refine ic_0 hx hb dX11_canGo_101 ?_
              exact W.zret (v := 0) hx hb hr (by decide) (fun t ht _ => ⟨⟨0, G_19, rfl, (P_wGo_2_mk ⟨hB_G_19, hF, ⟨by decide, by decide⟩, (by have hq : (0 : Int32).toInt = 0 := rfl; (try dsimp only); omega), ⟨y_1, ey_1, ⟨r_3, G_4, hX_7, (Or.inr ⟨c_9, ⟨y_10, ey_10, (Or.inl ⟨c_11, ⟨y_12, ey_12, (Or.inl ⟨c_13, ⟨y_14, ey_14, ⟨w_18, G_19, hX_22, f_23, hB_G_19, hq_21, (Or.inr ⟨c_24, ⟨y_27, ey_27, (Or.inl ⟨c_28, ⟨rfl, rfl⟩⟩)⟩⟩)⟩⟩⟩)⟩⟩)⟩⟩)⟩⟩⟩), wd_t ht hW⟩, hS.F ht⟩) hS.2.2 dX11_canGo_102
            · have c_28 : p0.toInt ≤ y_27.toInt := xI_nlt rfl rfl c_28
              refine ic_1 hx hb dX11_canGo_97 ?_
              refine lv_goto (tgt := 102) hx hb dX11_canGo_98 rfl ?_
              exact W.zret (v := 1) hx hb hr (by decide) (fun t ht _ => ⟨⟨1, G_19, rfl, (P_wGo_2_mk ⟨hB_G_19, hF, ⟨by decide, by decide⟩, (by have hq : (1 : Int32).toInt = 1 := rfl; (try dsimp only); omega), ⟨y_1, ey_1, ⟨r_3, G_4, hX_7, (Or.inr ⟨c_9, ⟨y_10, ey_10, (Or.inl ⟨c_11, ⟨y_12, ey_12, (Or.inl ⟨c_13, ⟨y_14, ey_14, ⟨w_18, G_19, hX_22, f_23, hB_G_19, hq_21, (Or.inr ⟨c_24, ⟨y_27, ey_27, (Or.inr ⟨c_28, ⟨rfl, rfl⟩⟩)⟩⟩)⟩⟩⟩)⟩⟩)⟩⟩)⟩⟩⟩), wd_t ht hW⟩, hS.F ht⟩) hS.2.2 dX11_canGo_102
        refine lv_icmp_ne (tgt := 66) hx hb dX11_canGo_59 rfl (fun c_29 => ?_) (fun c_29 => ?_)
        · have c_29 : y_14.toInt ≠ 1 := xI_ne rfl rfl c_29
          refine ic_0 hx hb dX11_canGo_66 ?_
          have qc_30 : (0 : Int32).toInt = 0 := rfl
          exact hJ_20 0 _ _ _ ⟨G_4, ⟨(by first | (clear u_2 f_8 hp_6 c_9 c_11 ty_12 c_13 c_29; omega) | omega), (by first | (clear u_2 f_8 hp_6 c_9 c_11 ty_12 c_13 c_29; omega) | omega)⟩, (Jn_k_wGo_2_1_mk (Or.inr ⟨c_29, ⟨rfl, rfl⟩⟩)), hW, hB_G_4, hF, (Fr.rf (rs := []) (fs := [])), hS, lv_sub hl [0, 1, 2] rfl⟩
        · have c_29 : y_14.toInt = 1 := xI_eq rfl rfl c_29
          refine ic_1 hx hb dX11_canGo_62 ?_
          refine lv_goto (tgt := 67) hx hb dX11_canGo_63 rfl ?_
          have qc_31 : (1 : Int32).toInt = 1 := rfl
          exact hJ_20 1 _ _ _ ⟨G_4, ⟨(by first | (clear u_2 f_8 hp_6 c_9 c_11 ty_12 c_13 c_29; omega) | omega), (by first | (clear u_2 f_8 hp_6 c_9 c_11 ty_12 c_13 c_29; omega) | omega)⟩, (Jn_k_wGo_2_1_mk (Or.inl ⟨c_29, ⟨rfl, rfl⟩⟩)), hW, hB_G_4, hF, (Fr.rf (rs := []) (fs := [])), hS, lv_sub hl [0, 1, 2] rfl⟩
      · have c_13 : p0.toInt < y_12.toInt := xI_nle rfl rfl c_13
        refine ic_0 hx hb dX11_canGo_47 ?_
        exact W.zret (v := 0) hx hb hr (by decide) (fun t ht _ => ⟨⟨0, G_4, rfl, (P_wGo_2_mk ⟨hB_G_4, hF, ⟨by decide, by decide⟩, (by have hq : (0 : Int32).toInt = 0 := rfl; (try dsimp only); omega), ⟨y_1, ey_1, ⟨r_3, G_4, hX_7, (Or.inr ⟨c_9, ⟨y_10, ey_10, (Or.inl ⟨c_11, ⟨y_12, ey_12, (Or.inr ⟨c_13, ⟨rfl, rfl⟩⟩)⟩⟩)⟩⟩)⟩⟩⟩), wd_t ht hW⟩, hS.F ht⟩) hS.2.2 dX11_canGo_48

set_option maxHeartbeats 4000000 in
set_option maxRecDepth 100000 in
theorem k_wLawful_2 (l : Launch) (D : va_G) (k : KT) (A : Nat → Prop) (a : Nat → Nat) (z : SK) (G : GS)  (hv_0_0 : G.2.2 0 0 = 2) (hv_0_1 : G.2.2 0 1 = 1) (hv_6_4 : G.2.2 6 4 = 2) : Met l yX11_isLawfulNow (WS yX11_isLawfulNow cX11_isLawfulNow 3 (some .boolean)) ({ frames := 4, cells := 0, slots := 0, locals := 96 }) (va_Pc [.ref (a 0)] (cW D k A a z G)) (va_Qi (fun (r : Int32) (G1 : GS) => P_wLawful_2 G r G1) (fun (G1 : GS) t => Wd D k A a G1 t.heap) A) 0 0 A := by
  refine Met.ofW (cc := cX11_isLawfulNow) (maxL := 3) (ret := (some .boolean)) (by decide) rfl ?_
  intro p e s m args below meth c s₁ B hml hv
  obtain ⟨rfl, hW, hB_G, hK, hZ⟩ := hv
  have hx := B.exec
  have hb := B.bytes
  have hr := B.returns
  have hts := atoms_spec (ws := WS yX11_isLawfulNow cX11_isLawfulNow 3 (some .boolean)) B.pre
  have hgd : ∀ w ∈ gd, w ∈ WS yX11_isLawfulNow cX11_isLawfulNow 3 (some .boolean) := fun w h => List.mem_cons_of_mem _ h
  have hg : ∀ w ∈ gd, w.before _ s = true := fun w h => hts w (hgd w h)
  have hown : s.vm.findClass RX11 = some m.cls := findClass_of_methodNamed B.named
  have hS : va_S A s.heap s.heap [] := va_S.rf
  have hF : Fr [37, 38, 39] [(6, 3)] G G := Fr.rf
  have hl := lv_entry ([.ref (a 0)]) (n := 3) (Nat.le_of_ble_eq_true rfl)
  rw [lg_entry_eq]
  generalize (lg_sl ([.ref (a 0)]) ++ List.replicate (3 - (lg_sl ([.ref (a 0)])).length) Slot.unset).toArray = ls at hl ⊢
  have hl : lv_has ls 3 [(0, .ref (a 0))] := hl
  refine lv_aload_n hx hb dX11_isLawfulNow_0 rfl (lv_at hl 0 rfl) ?_
  refine S_getR (n := 30) (C := RX11) (T := TX11) (N := 13) hx hb hg iX11 hown hK hW kd_0 rfl 8 (lt_b rfl) (hg (Cond.fieldLink RX11 65 "SlabWalk" "earnest" "LSlabWalk$Earnest;") m578) (fun _ h9 => h9) rfl dX11_isLawfulNow_1 ?_
  refine S_getR (n := 58) (C := RX1) (T := TX1) (N := 6) hx hb hg iX1 hown hK hW kd_30 rfl 0 (lt_b rfl) (hg (Cond.fieldLink RX11 246 "SlabWalk$Earnest" "now" "[I") m493) (fun _ h9 => h9) rfl dX11_isLawfulNow_4 ?_
  refine lv_astore_n (lv' := [(1, .ref (a 58)), (0, .ref (a 0))]) hx hb dX11_isLawfulNow_7 rfl hl (lt_b rfl) rfl (fun ls hl => ?_)
  refine lv_aload_n hx hb dX11_isLawfulNow_8 rfl (lv_at hl 0 rfl) ?_
  refine ic_1 hx hb dX11_isLawfulNow_9 ?_
  refine S_iald hx hb hK hW kd_58 (vin (by decide) (by decide)) dX11_isLawfulNow_10 (fun y_1 ey_1 => ?_)
  refine lv_istore_n (lv' := [(2, .int y_1), (1, .ref (a 58)), (0, .ref (a 0))]) hx hb dX11_isLawfulNow_11 rfl hl (lt_b rfl) rfl (fun ls hl => ?_)
  refine lv_aload_n hx hb dX11_isLawfulNow_12 rfl (lv_at hl 2 rfl) ?_
  refine S_getR (n := 6) (C := RX11) (T := TX11) (N := 13) hx hb hg iX11 hown hK hW kd_0 rfl 4 (lt_b rfl) (hg (Cond.fieldLink RX11 37 "SlabWalk" "lines" "LSlabWalk$Lines;") m574) (fun _ h9 => h9) rfl dX11_isLawfulNow_13 ?_
  refine lv_iload_n hx hb dX11_isLawfulNow_16 rfl (lv_at hl 0 rfl) ?_
  refine lv_aload_n hx hb dX11_isLawfulNow_17 rfl (lv_at hl 2 rfl) ?_
  refine S_calli (va_runV (As := []) (rest := [.int y_1, .ref (a 6)]) ⟨hx, hb, hml, hown, hts⟩ (k_wToday l D k A a z G  ) (cwV 0 hts (gd_V hgd m911 m913 m27 m117 m914) rfl rfl rfl hd_X11_today ⟨Nat.le_of_ble_eq_true rfl, Nat.le_of_ble_eq_true rfl⟩) (pre_W hW hB_G hK hZ hS kd_0 rfl) rfl rfl hl.1 rfl (lv_room (Nat.le_of_ble_eq_true rfl)) dX11_isLawfulNow_18 ⟨Nat.le_of_ble_eq_true rfl, Nat.le_of_ble_eq_true rfl⟩) hS (fun r_2 G_3 H locs hpo hW hS => ?_)
  have hX_6 : P_wToday G r_2 G_3 := hpo
  obtain ⟨hB_G_3, hq_4, -⟩ := hpo
  have hF := hF.call9 hq_4 rfl rfl
  refine S_callv (va_runV (As := [.int y_1, .int r_2]) (rest := []) ⟨hx, hb, hml, hown, hts⟩ (k_lFind_2 l D k A a z G_3 y_1 r_2 (((hq_4.r9 6 4 rfl rfl)).trans (hv_6_4))) (cwV 2 hts (gd_V hgd m915 m916 m917 m122 m918) rfl rfl rfl hd_X3_findFor ⟨Nat.le_of_ble_eq_true rfl, Nat.le_of_ble_eq_true rfl⟩) (pre_W hW hB_G_3 hK hZ hS kd_6 rfl) rfl rfl hl.1 rfl (lv_room (Nat.le_of_ble_eq_true rfl)) dX11_isLawfulNow_21 ⟨Nat.le_of_ble_eq_true rfl, Nat.le_of_ble_eq_true rfl⟩) hS (fun G_8 H locs hpo hW hS => ?_)
  have hX_11 : P_lFind_2 y_1 r_2 G_3 G_8 := hpo
  obtain ⟨hB_G_8, hq_9, -⟩ := hpo
  have hF := hF.call9 hq_9 rfl rfl
  refine lv_aload_n hx hb dX11_isLawfulNow_24 rfl (lv_at hl 1 rfl) ?_
  refine lv_bipush (v := 9) hx hb dX11_isLawfulNow_25 (by decide) ?_
  refine S_iald hx hb hK hW kd_58 (vin (by decide) (by decide)) dX11_isLawfulNow_27 (fun y_12 ey_12 => ?_)
  refine ic_1 hx hb dX11_isLawfulNow_28 ?_
  refine lv_icmp_eq (tgt := 53) hx hb dX11_isLawfulNow_29 rfl (fun c_13 => ?_) (fun c_13 => ?_)
  · have c_13 : y_12.toInt = 1 := xI_eq rfl rfl c_13
    refine ic_1 hx hb dX11_isLawfulNow_53 ?_
    refine lv_goto (tgt := 58) hx hb dX11_isLawfulNow_54 rfl ?_
    exact W.zret (v := 1) hx hb hr (by decide) (fun t ht _ => ⟨⟨1, G_8, rfl, (P_wLawful_2_mk ⟨hB_G_8, hF, ⟨by decide, by decide⟩, ⟨y_1, ey_1, ⟨r_2, G_3, hX_6, ⟨G_8, hX_11, ⟨y_12, ey_12, (Or.inl ⟨c_13, ⟨rfl, rfl⟩⟩)⟩⟩⟩⟩⟩), wd_t ht hW⟩, hS.F ht⟩) hS.2.2 dX11_isLawfulNow_58
  · have c_13 : y_12.toInt ≠ 1 := xI_ne rfl rfl c_13
    refine lv_aload_n hx hb dX11_isLawfulNow_32 rfl (lv_at hl 2 rfl) ?_
    refine S_getR (n := 6) (C := RX11) (T := TX11) (N := 13) hx hb hg iX11 hown hK hW kd_0 rfl 4 (lt_b rfl) (hg (Cond.fieldLink RX11 37 "SlabWalk" "lines" "LSlabWalk$Lines;") m574) (fun _ h9 => h9) rfl dX11_isLawfulNow_33 ?_
    refine lv_aload_n hx hb dX11_isLawfulNow_36 rfl (lv_at hl 1 rfl) ?_
    refine ic_0 hx hb dX11_isLawfulNow_37 ?_
    refine S_iald hx hb hK hW kd_58 (vin (by decide) (by decide)) dX11_isLawfulNow_38 (fun y_14 ey_14 => ?_)
    refine lv_iload_n hx hb dX11_isLawfulNow_39 rfl (lv_at hl 0 rfl) ?_
    refine lv_aload_n hx hb dX11_isLawfulNow_40 rfl (lv_at hl 1 rfl) ?_
    refine lv_bipush (v := 8) hx hb dX11_isLawfulNow_41 (by decide) ?_
    refine S_iald hx hb hK hW kd_58 (vin (by decide) (by decide)) dX11_isLawfulNow_43 (fun y_15 ey_15 => ?_)
    refine lv_aload_n hx hb dX11_isLawfulNow_44 rfl (lv_at hl 1 rfl) ?_
    refine ic_2 hx hb dX11_isLawfulNow_45 ?_
    refine S_iald hx hb hK hW kd_58 (vin (by decide) (by decide)) dX11_isLawfulNow_46 (fun y_16 ey_16 => ?_)
    refine S_calli (va_runV (As := [.int y_14, .int y_1, .int y_15, .int y_16]) (rest := []) ⟨hx, hb, hml, hown, hts⟩ (k_lIsLawful_2 l D k A a z G_8 y_14 y_1 y_15 y_16 ((((hq_9.r9 6 4 rfl rfl).trans (hq_4.r9 6 4 rfl rfl))).trans (hv_6_4))) (cwV 4 hts (gd_V hgd m961 m962 m963 m122 m964) rfl rfl rfl hd_X3_isLawful ⟨Nat.le_of_ble_eq_true rfl, Nat.le_of_ble_eq_true rfl⟩) (pre_W hW hB_G_8 hK hZ hS kd_6 rfl) rfl rfl hl.1 rfl (lv_room (Nat.le_of_ble_eq_true rfl)) dX11_isLawfulNow_47 ⟨Nat.le_of_ble_eq_true rfl, Nat.le_of_ble_eq_true rfl⟩) hS (fun r_17 G_18 H locs hpo hW hS => ?_)
    have hX_21 : P_lIsLawful_2 y_14 y_1 y_15 y_16 G_8 r_17 G_18 := hpo
    obtain ⟨hB_G_18, hq_19, f_22, -⟩ := hpo
    have hF := hF.call9 hq_19 rfl rfl
    refine lv_if_eq (tgt := 57) hx hb dX11_isLawfulNow_50 rfl (fun c_23 => ?_) (fun c_23 => ?_)
    · have c_23 : r_17.toInt = 0 := xI_eq rfl rfl c_23
      refine ic_0 hx hb dX11_isLawfulNow_57 ?_
      exact W.zret (v := 0) hx hb hr (by decide) (fun t ht _ => ⟨⟨0, G_18, rfl, (P_wLawful_2_mk ⟨hB_G_18, hF, ⟨by decide, by decide⟩, ⟨y_1, ey_1, ⟨r_2, G_3, hX_6, ⟨G_8, hX_11, ⟨y_12, ey_12, (Or.inr ⟨c_13, ⟨y_14, ey_14, ⟨y_15, ey_15, ⟨y_16, ey_16, ⟨r_17, G_18, hX_21, (Or.inl ⟨c_23, ⟨rfl, rfl⟩⟩)⟩⟩⟩⟩⟩)⟩⟩⟩⟩⟩), wd_t ht hW⟩, hS.F ht⟩) hS.2.2 dX11_isLawfulNow_58
    · have c_23 : r_17.toInt ≠ 0 := xI_ne rfl rfl c_23
      refine ic_1 hx hb dX11_isLawfulNow_53 ?_
      refine lv_goto (tgt := 58) hx hb dX11_isLawfulNow_54 rfl ?_
      exact W.zret (v := 1) hx hb hr (by decide) (fun t ht _ => ⟨⟨1, G_18, rfl, (P_wLawful_2_mk ⟨hB_G_18, hF, ⟨by decide, by decide⟩, ⟨y_1, ey_1, ⟨r_2, G_3, hX_6, ⟨G_8, hX_11, ⟨y_12, ey_12, (Or.inr ⟨c_13, ⟨y_14, ey_14, ⟨y_15, ey_15, ⟨y_16, ey_16, ⟨r_17, G_18, hX_21, (Or.inr ⟨c_23, ⟨rfl, rfl⟩⟩)⟩⟩⟩⟩⟩)⟩⟩⟩⟩⟩), wd_t ht hW⟩, hS.F ht⟩) hS.2.2 dX11_isLawfulNow_58

set_option maxHeartbeats 4000000 in
set_option maxRecDepth 100000 in
theorem k_wPrep_2 (l : Launch) (D : va_G) (k : KT) (A : Nat → Prop) (a : Nat → Nat) (z : SK) (G : GS) (p0 : Int32) (p1 : Int32) (p2 : Int32) (ha_p0 : 0 ≤ p0.toInt ∧ p0.toInt ≤ 3) (ha_p1 : 0 ≤ p1.toInt ∧ p1.toInt ≤ 2) (hv_0_0 : G.2.2 0 0 = 2) (hv_0_1 : G.2.2 0 1 = 1) (hv_6_4 : G.2.2 6 4 = 2) (hw : p0.toInt < (G.1 2 10).toInt) : Met l yX11_prepare (WS yX11_prepare cX11_prepare 4 none) ({ frames := 4, cells := 0, slots := 0, locals := 96 }) (va_Pc [.ref (a 0), .int p0, .int p1, .int p2] (cW D k A a z G)) (va_Qv (fun (G1 : GS) => P_wPrep_2 p0 p1 p2 G G1) (fun (G1 : GS) t => Wd D k A a G1 t.heap) A) 0 0 A := by
  refine Met.ofW (cc := cX11_prepare) (maxL := 4) (ret := none) (by decide) rfl ?_
  intro p e s m args below meth c s₁ B hml hv
  obtain ⟨rfl, hW, hB_G, hK, hZ⟩ := hv
  have hx := B.exec
  have hb := B.bytes
  have hr := B.returns
  have hts := atoms_spec (ws := WS yX11_prepare cX11_prepare 4 none) B.pre
  have hgd : ∀ w ∈ gd, w ∈ WS yX11_prepare cX11_prepare 4 none := fun w h => List.mem_cons_of_mem _ h
  have hg : ∀ w ∈ gd, w.before _ s = true := fun w h => hts w (hgd w h)
  have hown : s.vm.findClass RX11 = some m.cls := findClass_of_methodNamed B.named
  have hS : va_S A s.heap s.heap [] := va_S.rf
  have hF : Fr [37, 38, 39, 40] [(6, 3), (7, 1), (7, 2), (7, 3), (7, 4), (7, 5), (7, 6), (7, 7)] G G := Fr.rf
  have hl := lv_entry ([.ref (a 0), .int p0, .int p1, .int p2]) (n := 4) (Nat.le_of_ble_eq_true rfl)
  rw [lg_entry_eq]
  generalize (lg_sl ([.ref (a 0), .int p0, .int p1, .int p2]) ++ List.replicate (4 - (lg_sl ([.ref (a 0), .int p0, .int p1, .int p2])).length) Slot.unset).toArray = ls at hl ⊢
  have hl : lv_has ls 4 [(0, .ref (a 0)), (1, .int p0), (2, .int p1), (3, .int p2)] := hl
  refine lv_aload_n hx hb dX11_prepare_0 rfl (lv_at hl 0 rfl) ?_
  refine S_getR (n := 6) (C := RX11) (T := TX11) (N := 13) hx hb hg iX11 hown hK hW kd_0 rfl 4 (lt_b rfl) (hg (Cond.fieldLink RX11 37 "SlabWalk" "lines" "LSlabWalk$Lines;") m574) (fun _ h9 => h9) rfl dX11_prepare_1 ?_
  refine lv_iload_n hx hb dX11_prepare_4 rfl (lv_at hl 2 rfl) ?_
  refine lv_aload_n hx hb dX11_prepare_5 rfl (lv_at hl 0 rfl) ?_
  refine S_calli (va_runV (As := []) (rest := [.int p1, .ref (a 6)]) ⟨hx, hb, hml, hown, hts⟩ (k_wToday l D k A a z G  ) (cwV 0 hts (gd_V hgd m911 m913 m27 m117 m914) rfl rfl rfl hd_X11_today ⟨Nat.le_of_ble_eq_true rfl, Nat.le_of_ble_eq_true rfl⟩) (pre_W hW hB_G hK hZ hS kd_0 rfl) rfl rfl hl.1 rfl (lv_room (Nat.le_of_ble_eq_true rfl)) dX11_prepare_6 ⟨Nat.le_of_ble_eq_true rfl, Nat.le_of_ble_eq_true rfl⟩) hS (fun r_1 G_2 H locs hpo hW hS => ?_)
  have hX_5 : P_wToday G r_1 G_2 := hpo
  obtain ⟨hB_G_2, hq_3, -⟩ := hpo
  have hF := hF.call9 hq_3 rfl rfl
  refine S_callv (va_runV (As := [.int p1, .int r_1]) (rest := []) ⟨hx, hb, hml, hown, hts⟩ (k_lFind_2 l D k A a z G_2 p1 r_1 (((hq_3.r9 6 4 rfl rfl)).trans (hv_6_4))) (cwV 2 hts (gd_V hgd m915 m916 m917 m122 m918) rfl rfl rfl hd_X3_findFor ⟨Nat.le_of_ble_eq_true rfl, Nat.le_of_ble_eq_true rfl⟩) (pre_W hW hB_G_2 hK hZ hS kd_6 rfl) rfl rfl hl.1 rfl (lv_room (Nat.le_of_ble_eq_true rfl)) dX11_prepare_9 ⟨Nat.le_of_ble_eq_true rfl, Nat.le_of_ble_eq_true rfl⟩) hS (fun G_7 H locs hpo hW hS => ?_)
  have hX_10 : P_lFind_2 p1 r_1 G_2 G_7 := hpo
  obtain ⟨hB_G_7, hq_8, -⟩ := hpo
  have hF := hF.call9 hq_8 rfl rfl
  refine lv_aload_n hx hb dX11_prepare_12 rfl (lv_at hl 0 rfl) ?_
  refine S_getR (n := 7) (C := RX11) (T := TX11) (N := 13) hx hb hg iX11 hown hK hW kd_0 rfl 5 (lt_b rfl) (hg (Cond.fieldLink RX11 44 "SlabWalk" "course" "LSlabWalk$Course;") m575) (fun _ h9 => h9) rfl dX11_prepare_13 ?_
  refine lv_aload_n hx hb dX11_prepare_16 rfl (lv_at hl 0 rfl) ?_
  refine S_getV (n := 2) (C := RX11) (T := TX11) (N := 13) hx hb hg iX11 hown hK hW kd_0 rfl 0 (lt_b rfl) (hg (Cond.fieldLink RX11 10 "SlabWalk" "paving" "LSlabWalk$Paving;") m570) (fun _ h9 => h9) rfl ((((hq_8.r9 0 0 rfl rfl).trans (hq_3.r9 0 0 rfl rfl))).trans (hv_0_0)) dX11_prepare_17 ?_
  refine lv_iload_n hx hb dX11_prepare_20 rfl (lv_at hl 1 rfl) ?_
  refine lv_iload_n hx hb dX11_prepare_21 rfl (lv_at hl 2 rfl) ?_
  have b_11 : 0 ≤ (G.1 2 10).toInt ∧ (G.1 2 10).toInt ≤ 4 := bd_2_10 hB_G
  have g_12 : (G_7.1 2 10).toInt = (G.1 2 10).toInt := (congrArg Int32.toInt (show G_7.1 2 10 = (G.1 2 10) from ((hq_8.i9 2 10 rfl rfl).trans (hq_3.i9 2 10 rfl rfl))))
  refine S_callv (va_runV (As := [.ref (a 2), .int p0, .int p1]) (rest := []) ⟨hx, hb, hml, hown, hts⟩ (k_cLook_2 l D k A a z G_7 p0 p1 ⟨by omega, by omega⟩ ⟨(by first | (clear ha_p0 hw b_11 g_12; omega) | omega), (by first | (clear ha_p0 hw b_11 g_12; omega) | omega)⟩ (by omega)) (cwV 3 hts (gd_V hgd m979 m980 m981 m123 m982) rfl rfl rfl hd_X0_lookAt ⟨Nat.le_of_ble_eq_true rfl, Nat.le_of_ble_eq_true rfl⟩) (pre_W hW hB_G_7 hK hZ hS kd_7 rfl) rfl rfl hl.1 rfl (lv_room (Nat.le_of_ble_eq_true rfl)) dX11_prepare_22 ⟨Nat.le_of_ble_eq_true rfl, Nat.le_of_ble_eq_true rfl⟩) hS (fun G_14 H locs hpo hW hS => ?_)
  have hX_17 : P_cLook_2 p0 p1 G_7 G_14 := hpo
  obtain ⟨hB_G_14, hq_15, hp_16, -⟩ := hpo
  have hF := hF.call9 hq_15 rfl rfl
  refine lv_aload_n hx hb dX11_prepare_25 rfl (lv_at hl 0 rfl) ?_
  refine S_getR (n := 7) (C := RX11) (T := TX11) (N := 13) hx hb hg iX11 hown hK hW kd_0 rfl 5 (lt_b rfl) (hg (Cond.fieldLink RX11 44 "SlabWalk" "course" "LSlabWalk$Course;") m575) (fun _ h9 => h9) rfl dX11_prepare_26 ?_
  refine lv_aload_n hx hb dX11_prepare_29 rfl (lv_at hl 0 rfl) ?_
  refine S_getR (n := 6) (C := RX11) (T := TX11) (N := 13) hx hb hg iX11 hown hK hW kd_0 rfl 4 (lt_b rfl) (hg (Cond.fieldLink RX11 37 "SlabWalk" "lines" "LSlabWalk$Lines;") m574) (fun _ h9 => h9) rfl dX11_prepare_30 ?_
  refine lv_iload_n hx hb dX11_prepare_33 rfl (lv_at hl 2 rfl) ?_
  refine lv_iload_n hx hb dX11_prepare_34 rfl (lv_at hl 3 rfl) ?_
  refine S_callv (va_runV (As := [.ref (a 6), .int p1, .int p2]) (rest := []) ⟨hx, hb, hml, hown, hts⟩ (k_cFind_2 l D k A a z G_14 p1 p2 ((((hq_15.r9 6 4 rfl rfl).trans ((hq_8.r9 6 4 rfl rfl).trans (hq_3.r9 6 4 rfl rfl)))).trans (hv_6_4))) (cwV 3 hts (gd_V hgd m984 m985 m986 m123 m987) rfl rfl rfl hd_X0_findLawful ⟨Nat.le_of_ble_eq_true rfl, Nat.le_of_ble_eq_true rfl⟩) (pre_W hW hB_G_14 hK hZ hS kd_7 rfl) rfl rfl hl.1 rfl (lv_room (Nat.le_of_ble_eq_true rfl)) dX11_prepare_35 ⟨Nat.le_of_ble_eq_true rfl, Nat.le_of_ble_eq_true rfl⟩) hS (fun G_19 H locs hpo hW hS => ?_)
  have hX_22 : P_cFind_2 p1 p2 G_14 G_19 := hpo
  obtain ⟨hB_G_19, hq_20, -⟩ := hpo
  have hF := hF.call9 hq_20 rfl rfl
  have b_23 : 0 ≤ (G_14.1 7 3).toInt ∧ (G_14.1 7 3).toInt ≤ 60 := bd_7_3 hB_G_14
  have g_24 : (G_19.1 7 3).toInt = (G_14.1 7 3).toInt := (congrArg Int32.toInt (show G_19.1 7 3 = (G_14.1 7 3) from (hq_20.i9 7 3 rfl rfl)))
  have b_25 : 0 ≤ (G_14.1 7 4).toInt ∧ (G_14.1 7 4).toInt ≤ 60 := bd_7_4 hB_G_14
  have g_26 : (G_19.1 7 4).toInt = (G_14.1 7 4).toInt := (congrArg Int32.toInt (show G_19.1 7 4 = (G_14.1 7 4) from (hq_20.i9 7 4 rfl rfl)))
  have b_27 : (-1) ≤ (G_14.1 7 6).toInt ∧ (G_14.1 7 6).toInt ≤ 400 := bd_7_6 hB_G_14
  have g_28 : (G_19.1 7 6).toInt = (G_14.1 7 6).toInt := (congrArg Int32.toInt (show G_19.1 7 6 = (G_14.1 7 6) from (hq_20.i9 7 6 rfl rfl)))
  have b_29 : 0 ≤ (G_14.1 7 7).toInt ∧ (G_14.1 7 7).toInt ≤ 400 := bd_7_7 hB_G_14
  have g_30 : (G_19.1 7 7).toInt = (G_14.1 7 7).toInt := (congrArg Int32.toInt (show G_19.1 7 7 = (G_14.1 7 7) from (hq_20.i9 7 7 rfl rfl)))
  exact W.vret hx hb hr (fun t ht _ => ⟨⟨G_19, rfl, (P_wPrep_2_mk ⟨hB_G_19, hF, ((by first | exact ⟨((by first | (clear ha_p0 ha_p1 hw b_11 g_12; omega) | omega)), ⟨((by first | (clear ha_p0 ha_p1 hw b_11 g_12; omega) | omega)), ((by first | (clear ha_p0 ha_p1 hw b_11 g_12; omega) | omega))⟩⟩ | omega)), ⟨r_1, G_2, hX_5, ⟨G_7, hX_10, ⟨G_14, hX_17, ⟨G_19, hX_22, rfl⟩⟩⟩⟩⟩), wd_t ht hW⟩, hS.F ht⟩) hS.2.2 dX11_prepare_38

set_option maxHeartbeats 4000000 in
set_option maxRecDepth 100000 in
theorem k_wLeaves_2 (l : Launch) (D : va_G) (k : KT) (A : Nat → Prop) (a : Nat → Nat) (z : SK) (G : GS) (p0 : Int32) (p1 : Int32) (hv_0_0 : G.2.2 0 0 = 2) (hv_0_1 : G.2.2 0 1 = 1) (hv_6_4 : G.2.2 6 4 = 2) (hci : (G.1 7 6).toInt ≤ 399 ∧ (G.1 7 3).toInt ≤ (G.1 7 4).toInt ∧ ((G.1 7 7).toInt ≤ 0 ∨ (G.1 7 7).toInt + (G.1 7 4).toInt ≤ (G.1 7 6).toInt + 1)) : Met l yX11_leavesWay (WS yX11_leavesWay cX11_leavesWay 3 (some .boolean)) ({ frames := 4, cells := 0, slots := 0, locals := 91 }) (va_Pc [.ref (a 0), .int p0, .int p1] (cW D k A a z G)) (va_Qi (fun (r : Int32) (G1 : GS) => P_wLeaves_2 p0 p1 G r G1) (fun (G1 : GS) t => Wd D k A a G1 t.heap) A) 0 0 A := by
  refine Met.ofW (cc := cX11_leavesWay) (maxL := 3) (ret := (some .boolean)) (by decide) rfl ?_
  intro p e s m args below meth c s₁ B hml hv
  obtain ⟨rfl, hW, hB_G, hK, hZ⟩ := hv
  have hx := B.exec
  have hb := B.bytes
  have hr := B.returns
  have hts := atoms_spec (ws := WS yX11_leavesWay cX11_leavesWay 3 (some .boolean)) B.pre
  have hgd : ∀ w ∈ gd, w ∈ WS yX11_leavesWay cX11_leavesWay 3 (some .boolean) := fun w h => List.mem_cons_of_mem _ h
  have hg : ∀ w ∈ gd, w.before _ s = true := fun w h => hts w (hgd w h)
  have hown : s.vm.findClass RX11 = some m.cls := findClass_of_methodNamed B.named
  have hS : va_S A s.heap s.heap [] := va_S.rf
  have hF : Fr [40, 42, 43] [] G G := Fr.rf
  have hl := lv_entry ([.ref (a 0), .int p0, .int p1]) (n := 3) (Nat.le_of_ble_eq_true rfl)
  rw [lg_entry_eq]
  generalize (lg_sl ([.ref (a 0), .int p0, .int p1]) ++ List.replicate (3 - (lg_sl ([.ref (a 0), .int p0, .int p1])).length) Slot.unset).toArray = ls at hl ⊢
  have hl : lv_has ls 3 [(0, .ref (a 0)), (1, .int p0), (2, .int p1)] := hl
  have b_1 : (-1) ≤ (G.1 7 6).toInt ∧ (G.1 7 6).toInt ≤ 400 := bd_7_6 hB_G
  refine lv_aload_n hx hb dX11_leavesWay_0 rfl (lv_at hl 0 rfl) ?_
  refine S_getR (n := 7) (C := RX11) (T := TX11) (N := 13) hx hb hg iX11 hown hK hW kd_0 rfl 5 (lt_b rfl) (hg (Cond.fieldLink RX11 44 "SlabWalk" "course" "LSlabWalk$Course;") m575) (fun _ h9 => h9) rfl dX11_leavesWay_1 ?_
  refine lv_aload_n hx hb dX11_leavesWay_4 rfl (lv_at hl 0 rfl) ?_
  refine S_getR (n := 6) (C := RX11) (T := TX11) (N := 13) hx hb hg iX11 hown hK hW kd_0 rfl 4 (lt_b rfl) (hg (Cond.fieldLink RX11 37 "SlabWalk" "lines" "LSlabWalk$Lines;") m574) (fun _ h9 => h9) rfl dX11_leavesWay_5 ?_
  refine lv_iload_n hx hb dX11_leavesWay_8 rfl (lv_at hl 1 rfl) ?_
  refine lv_iload_n hx hb dX11_leavesWay_9 rfl (lv_at hl 2 rfl) ?_
  refine S_callv (va_runV (As := [.ref (a 6), .int p0, .int p1]) (rest := []) ⟨hx, hb, hml, hown, hts⟩ (k_cFind_2 l D k A a z G p0 p1 hv_6_4) (cwV 3 hts (gd_V hgd m984 m985 m986 m123 m987) rfl rfl rfl hd_X0_findLawful ⟨Nat.le_of_ble_eq_true rfl, Nat.le_of_ble_eq_true rfl⟩) (pre_W hW hB_G hK hZ hS kd_7 rfl) rfl rfl hl.1 rfl (lv_room (Nat.le_of_ble_eq_true rfl)) dX11_leavesWay_10 ⟨Nat.le_of_ble_eq_true rfl, Nat.le_of_ble_eq_true rfl⟩) hS (fun G_3 H locs hpo hW hS => ?_)
  have hX_6 : P_cFind_2 p0 p1 G G_3 := hpo
  obtain ⟨hB_G_3, hq_4, -⟩ := hpo
  have hF := hF.call9 hq_4 rfl rfl
  refine lv_aload_n hx hb dX11_leavesWay_13 rfl (lv_at hl 0 rfl) ?_
  refine S_getR (n := 8) (C := RX11) (T := TX11) (N := 13) hx hb hg iX11 hown hK hW kd_0 rfl 6 (lt_b rfl) (hg (Cond.fieldLink RX11 51 "SlabWalk" "trails" "LSlabWalk$Trails;") m576) (fun _ h9 => h9) rfl dX11_leavesWay_14 ?_
  refine lv_aload_n hx hb dX11_leavesWay_17 rfl (lv_at hl 0 rfl) ?_
  refine S_getR (n := 7) (C := RX11) (T := TX11) (N := 13) hx hb hg iX11 hown hK hW kd_0 rfl 5 (lt_b rfl) (hg (Cond.fieldLink RX11 44 "SlabWalk" "course" "LSlabWalk$Course;") m575) (fun _ h9 => h9) rfl dX11_leavesWay_18 ?_
  have b_7 : 0 ≤ (G.1 7 3).toInt ∧ (G.1 7 3).toInt ≤ 60 := bd_7_3 hB_G
  have g_8 : (G_3.1 7 3).toInt = (G.1 7 3).toInt := (congrArg Int32.toInt (show G_3.1 7 3 = (G.1 7 3) from (hq_4.i9 7 3 rfl rfl)))
  have b_9 : 0 ≤ (G.1 7 4).toInt ∧ (G.1 7 4).toInt ≤ 60 := bd_7_4 hB_G
  have g_10 : (G_3.1 7 4).toInt = (G.1 7 4).toInt := (congrArg Int32.toInt (show G_3.1 7 4 = (G.1 7 4) from (hq_4.i9 7 4 rfl rfl)))
  have g_11 : (G_3.1 7 6).toInt = (G.1 7 6).toInt := (congrArg Int32.toInt (show G_3.1 7 6 = (G.1 7 6) from ((hq_4.i9 7 6 rfl rfl).trans (rfl))))
  have b_12 : 0 ≤ (G.1 7 7).toInt ∧ (G.1 7 7).toInt ≤ 400 := bd_7_7 hB_G
  have g_13 : (G_3.1 7 7).toInt = (G.1 7 7).toInt := (congrArg Int32.toInt (show G_3.1 7 7 = (G.1 7 7) from (hq_4.i9 7 7 rfl rfl)))
  refine S_calli (va_runV (As := [.ref (a 7)]) (rest := []) ⟨hx, hb, hml, hown, hts⟩ (k_tThere l D k A a z G_3  ((by first | exact ⟨(by omega), ⟨(by omega), (by omega)⟩⟩ | omega))) (cwV 1 hts (gd_V hgd m1158 m1159 m1160 m124 m1161) rfl rfl rfl hd_X10_isThereWay ⟨Nat.le_of_ble_eq_true rfl, Nat.le_of_ble_eq_true rfl⟩) (pre_W hW hB_G_3 hK hZ hS kd_8 rfl) rfl rfl hl.1 rfl (lv_room (Nat.le_of_ble_eq_true rfl)) dX11_leavesWay_21 ⟨Nat.le_of_ble_eq_true rfl, Nat.le_of_ble_eq_true rfl⟩) hS (fun r_14 G_15 H locs hpo hW hS => ?_)
  have hX_18 : P_tThere G_3 r_14 G_15 := hpo
  obtain ⟨hB_G_15, hq_16, f_19, -⟩ := hpo
  have hF := hF.call9 hq_16 rfl rfl
  have g_20 : (G_15.1 7 3).toInt = (G.1 7 3).toInt := (congrArg Int32.toInt (show G_15.1 7 3 = (G.1 7 3) from ((hq_16.i9 7 3 rfl rfl).trans ((hq_4.i9 7 3 rfl rfl).trans (rfl)))))
  have g_21 : (G_15.1 7 4).toInt = (G.1 7 4).toInt := (congrArg Int32.toInt (show G_15.1 7 4 = (G.1 7 4) from ((hq_16.i9 7 4 rfl rfl).trans ((hq_4.i9 7 4 rfl rfl).trans (rfl)))))
  have g_22 : (G_15.1 7 6).toInt = (G.1 7 6).toInt := (congrArg Int32.toInt (show G_15.1 7 6 = (G.1 7 6) from ((hq_16.i9 7 6 rfl rfl).trans ((hq_4.i9 7 6 rfl rfl).trans (rfl)))))
  have g_23 : (G_15.1 7 7).toInt = (G.1 7 7).toInt := (congrArg Int32.toInt (show G_15.1 7 7 = (G.1 7 7) from ((hq_16.i9 7 7 rfl rfl).trans ((hq_4.i9 7 7 rfl rfl).trans (rfl)))))
  exact W.zret (v := r_14) hx hb hr (nar_z ((by first | (clear hci b_1 b_7 g_8 b_9 g_10 g_11 b_12 g_13 g_20 g_21 g_22 g_23; omega) | omega)) ((by first | (clear hci b_1 b_7 g_8 b_9 g_10 g_11 b_12 g_13 g_20 g_21 g_22 g_23; omega) | omega))) (fun t ht _ => ⟨⟨r_14, G_15, rfl, (P_wLeaves_2_mk ⟨hB_G_15, hF, ⟨(by first | (clear hci b_1 b_7 g_8 b_9 g_10 g_11 b_12 g_13 g_20 g_21 g_22 g_23; omega) | omega), (by first | (clear hci b_1 b_7 g_8 b_9 g_10 g_11 b_12 g_13 g_20 g_21 g_22 g_23; omega) | omega)⟩, ((by first | exact ⟨(by omega), ⟨(by omega), (by omega)⟩⟩ | omega)), ⟨G_3, hX_6, ⟨r_14, G_15, hX_18, ⟨rfl, rfl⟩⟩⟩⟩), wd_t ht hW⟩, hS.F ht⟩) hS.2.2 dX11_leavesWay_24

set_option maxHeartbeats 4000000 in
set_option maxRecDepth 100000 in
theorem k_wWin_2 (l : Launch) (D : va_G) (k : KT) (A : Nat → Prop) (a : Nat → Nat) (z : SK) (G : GS) (p0 : Int32) (p1 : Int32) (ha_p1 : 0 ≤ p1.toInt ∧ p1.toInt ≤ 63) (hv_0_0 : G.2.2 0 0 = 2) (hv_0_1 : G.2.2 0 1 = 1) (hv_6_4 : G.2.2 6 4 = 2) (hci : (G.1 7 6).toInt ≤ 399 ∧ (G.1 7 3).toInt ≤ (G.1 7 4).toInt ∧ ((G.1 7 7).toInt ≤ 0 ∨ (G.1 7 7).toInt + (G.1 7 4).toInt ≤ (G.1 7 6).toInt + 1)) : Met l yX11_winningRule (WS yX11_winningRule cX11_winningRule 5 (some .int)) ({ frames := 5, cells := 0, slots := 0, locals := 113 }) (va_Pc [.ref (a 0), .int p0, .int p1] (cW D k A a z G)) (va_Qi (fun (r : Int32) (G1 : GS) => P_wWin_2 p0 p1 G r G1) (fun (G1 : GS) t => Wd D k A a G1 t.heap) A) 0 0 A := by
  refine Met.ofW (cc := cX11_winningRule) (maxL := 5) (ret := (some .int)) (by decide) rfl ?_
  intro p e s m args below meth c s₁ B hml hv
  obtain ⟨rfl, hW, hB_G, hK, hZ⟩ := hv
  have hx := B.exec
  have hb := B.bytes
  have hr := B.returns
  have hts := atoms_spec (ws := WS yX11_winningRule cX11_winningRule 5 (some .int)) B.pre
  have hgd : ∀ w ∈ gd, w ∈ WS yX11_winningRule cX11_winningRule 5 (some .int) := fun w h => List.mem_cons_of_mem _ h
  have hg : ∀ w ∈ gd, w.before _ s = true := fun w h => hts w (hgd w h)
  have hown : s.vm.findClass RX11 = some m.cls := findClass_of_methodNamed B.named
  have hS : va_S A s.heap s.heap [] := va_S.rf
  have hF : Fr [40, 42, 43, 46, 47] [] G G := Fr.rf
  have hl := lv_entry ([.ref (a 0), .int p0, .int p1]) (n := 5) (Nat.le_of_ble_eq_true rfl)
  rw [lg_entry_eq]
  generalize (lg_sl ([.ref (a 0), .int p0, .int p1]) ++ List.replicate (5 - (lg_sl ([.ref (a 0), .int p0, .int p1])).length) Slot.unset).toArray = ls at hl ⊢
  have hl : lv_has ls 5 [(0, .ref (a 0)), (1, .int p0), (2, .int p1)] := hl
  have b_1 : (-1) ≤ (G.1 7 6).toInt ∧ (G.1 7 6).toInt ≤ 400 := bd_7_6 hB_G
  refine ic_1 hx hb dX11_winningRule_0 ?_
  refine lv_aload_n hx hb dX11_winningRule_1 rfl (lv_at hl 0 rfl) ?_
  refine S_getV (n := 2) (C := RX11) (T := TX11) (N := 13) hx hb hg iX11 hown hK hW kd_0 rfl 0 (lt_b rfl) (hg (Cond.fieldLink RX11 10 "SlabWalk" "paving" "LSlabWalk$Paving;") m570) (fun _ h9 => h9) rfl hv_0_0 dX11_winningRule_2 ?_
  have b_2 : 0 ≤ (G.1 2 11).toInt ∧ (G.1 2 11).toInt ≤ 6 := bd_2_11 hB_G
  refine S_getI (v := (G.1 2 11)) (C := RX6) (T := TX6) (N := 17) hx hb hg iX6 hown hK hW kd_2 rfl 11 (lt_b rfl) (hg (Cond.fieldLink RX11 228 "SlabWalk$Paving" "rules" "I") m195) (fun _ h9 => h9) rfl rfl dX11_winningRule_5 ?_
  refine lv_ishl hx hb dX11_winningRule_8 ?_
  refine lv_topi (fun y_3 ey_3 => ?_)
  have ty_3 := sh6 (Y := (G.1 2 11).toInt) rfl ey_3 rfl (by first | (clear ha_p1 hci b_1; omega) | omega) (by first | (clear ha_p1 hci b_1; omega) | omega)
  refine ic_1 hx hb dX11_winningRule_9 ?_
  refine lv_isub hx hb dX11_winningRule_10 ?_
  refine lv_topi (fun y_4 ey_4 => ?_)
  have ty_4 : y_4.toInt = y_3.toInt - 1 := xI_sub rfl rfl ey_4 ((by first | (clear ha_p1 hci b_1 b_2; omega) | omega)) ((by first | (clear ha_p1 hci b_1 b_2; omega) | omega))
  refine lv_istore_n (lv' := [(3, .int y_4), (0, .ref (a 0)), (1, .int p0), (2, .int p1)]) hx hb dX11_winningRule_11 rfl hl (lt_b rfl) rfl (fun ls hl => ?_)
  refine lv_iload_n hx hb dX11_winningRule_12 rfl (lv_at hl 0 rfl) ?_
  refine lv_istore (lv' := [(4, .int y_4), (3, .int y_4), (0, .ref (a 0)), (1, .int p0), (2, .int p1)]) hx hb dX11_winningRule_13 hl (lt_b rfl) rfl (fun ls hl => ?_)
  refine loop_N (Inv := fun n H locs ls => ∃ (G_5 : GS) (x_9 : Int32), (n : Int) = x_9.toInt - (-1) ∧ ((-1) ≤ x_9.toInt ∧ x_9.toInt ≤ 63) ∧ Rc (St_k_wWin_2_1 p0 p1 y_4) (y_4, G) (x_9, G_5) ∧ Wd D k A a G_5 H ∧ Bd G_5 ∧ Fr [40, 42, 43, 46, 47] [] G G_5 ∧ Fr [40, 42, 43, 46, 47] [] G G_5 ∧ va_S A s.heap H locs ∧ lv_has ls 5 [(4, .int x_9), (3, .int y_4), (0, .ref (a 0)), (1, .int p0), (2, .int p1)]) (fun n_8 H locs ls ih_7 hI => ?_) (y_4.toInt - (-1) : Int).toNat ⟨G, y_4, (Int.toNat_of_nonneg ((by first | (clear ha_p1 hci b_1 b_2; omega) | omega))), ⟨(by first | (clear ha_p1 hci b_1 b_2; omega) | omega), (by first | (clear ha_p1 hci b_1 b_2; omega) | omega)⟩, Rc.rf, hW, hB_G, hF, Fr.rf, hS, lv_sub hl [0, 1, 2, 3, 4] rfl⟩
  obtain ⟨G_5, x_9, hn_12, f_11, hX_10, hW, hB_G_5, hF, hq_6, hS, hl⟩ := hI
  refine lv_iload hx hb dX11_winningRule_15 (lv_at hl 0 rfl) ?_
  refine lv_iload_n hx hb dX11_winningRule_17 rfl (lv_at hl 4 rfl) ?_
  refine lv_icmp_lt (tgt := 72) hx hb dX11_winningRule_18 rfl (fun c_13 => ?_) (fun c_13 => ?_)
  · have c_13 : x_9.toInt < p1.toInt := xI_lt rfl rfl c_13
    refine lv_aload_n hx hb dX11_winningRule_72 rfl (lv_at hl 2 rfl) ?_
    refine S_getR (n := 8) (C := RX11) (T := TX11) (N := 13) hx hb hg iX11 hown hK hW kd_0 rfl 6 (lt_b rfl) (hg (Cond.fieldLink RX11 51 "SlabWalk" "trails" "LSlabWalk$Trails;") m576) (fun _ h9 => h9) rfl dX11_winningRule_73 ?_
    refine S_getR (n := 46) (C := RX10) (T := TX10) (N := 5) hx hb hg iX10 hown hK hW kd_8 rfl 3 (lt_b rfl) (hg (Cond.fieldLink RX11 347 "SlabWalk$Trails" "winning" "[I") m444) (fun _ h9 => h9) rfl dX11_winningRule_76 ?_
    refine lv_iload_n hx hb dX11_winningRule_79 rfl (lv_at hl 4 rfl) ?_
    refine S_iald hx hb hK hW kd_46 (vin ((by first | (clear hci b_1 b_2 ty_4 hn_12; omega) | omega)) ((by first | (clear hci b_1 b_2 ty_4 hn_12; omega) | omega))) dX11_winningRule_80 (fun y_14 ey_14 => ?_)
    exact W.iret (v := y_14) hx hb hr (fun t ht _ => ⟨⟨y_14, G_5, rfl, (P_wWin_2_mk ⟨hB_G_5, hF, ⟨y_3, ey_3, ⟨y_4, ty_4, ⟨x_9, G_5, hX_10, f_11, hB_G_5, hq_6, ⟨c_13, ⟨y_14, ey_14, ⟨rfl, rfl⟩⟩⟩⟩⟩⟩⟩), wd_t ht hW⟩, hS.F ht⟩) hS.2.2 dX11_winningRule_81
  · have c_13 : p1.toInt ≤ x_9.toInt := xI_nlt rfl rfl c_13
    refine lv_iload hx hb dX11_winningRule_21 (lv_at hl 0 rfl) ?_
    refine lv_iload_n hx hb dX11_winningRule_23 rfl (lv_at hl 4 rfl) ?_
    refine lv_iand hx hb dX11_winningRule_24 ?_
    refine lv_topi (fun y_15 ey_15 => ?_)
    refine lv_iload_n hx hb dX11_winningRule_25 rfl (lv_at hl 4 rfl) ?_
    refine lv_icmp_ne (tgt := 66) hx hb dX11_winningRule_26 rfl (fun c_16 => ?_) (fun c_16 => ?_)
    · have c_16 : y_15.toInt ≠ p1.toInt := xI_ne rfl rfl c_16
      obtain ⟨y_17, ey_17⟩ : ∃ q, q = x_9 + (-1) := ⟨_, rfl⟩
      have ty_17 : y_17.toInt = x_9.toInt + (-1) := xI_add rfl rfl ey_17 ((by first | (clear hci b_1 b_2 ty_4 hn_12; omega) | omega)) ((by first | (clear hci b_1 b_2 ty_4 hn_12; omega) | omega))
      refine lv_iinc (v := y_17) (lv' := [(4, .int y_17), (3, .int y_4), (0, .ref (a 0)), (1, .int p0), (2, .int p1)]) hx hb dX11_winningRule_66 hl (k := 0) rfl (by rw [ey_17]; rfl) (lt_b rfl) rfl (fun ls hl => ?_)
      refine lv_goto (tgt := 15) hx hb dX11_winningRule_69 rfl ?_
      exact ih_7 (y_17.toInt - (-1) : Int).toNat ((by first | (clear hci b_1 b_2 ty_4; omega) | omega)) _ _ _ ⟨G_5, y_17, (Int.toNat_of_nonneg ((by first | (clear hci b_1 b_2 ty_4 hn_12; omega) | omega))), ⟨(by first | (clear hci b_1 b_2 ty_4 hn_12; omega) | omega), (by first | (clear hci b_1 b_2 ty_4 hn_12; omega) | omega)⟩, (hX_10.st (St_k_wWin_2_1_mk ⟨x_9, G_5, y_17, G_5, rfl, rfl, f_11, hB_G_5, ⟨c_13, ⟨y_15, ey_15, (Or.inr ⟨c_16, ⟨y_17, ty_17, ⟨rfl, rfl⟩⟩⟩)⟩⟩⟩)), hW, hB_G_5, hF, (Fr.call9 (rs := [40, 42, 43, 46, 47]) (fs := []) Fr.rf hq_6 rfl rfl), hS, lv_sub hl [0, 1, 2, 3, 4] rfl⟩
    · have c_16 : y_15.toInt = p1.toInt := xI_eq rfl rfl c_16
      refine lv_aload_n hx hb dX11_winningRule_29 rfl (lv_at hl 2 rfl) ?_
      refine S_getR (n := 8) (C := RX11) (T := TX11) (N := 13) hx hb hg iX11 hown hK hW kd_0 rfl 6 (lt_b rfl) (hg (Cond.fieldLink RX11 51 "SlabWalk" "trails" "LSlabWalk$Trails;") m576) (fun _ h9 => h9) rfl dX11_winningRule_30 ?_
      refine S_getR (n := 46) (C := RX10) (T := TX10) (N := 5) hx hb hg iX10 hown hK hW kd_8 rfl 3 (lt_b rfl) (hg (Cond.fieldLink RX11 347 "SlabWalk$Trails" "winning" "[I") m444) (fun _ h9 => h9) rfl dX11_winningRule_33 ?_
      refine lv_iload hx hb dX11_winningRule_36 (lv_at hl 0 rfl) ?_
      refine lv_aload_n hx hb dX11_winningRule_38 rfl (lv_at hl 2 rfl) ?_
      refine S_getR (n := 8) (C := RX11) (T := TX11) (N := 13) hx hb hg iX11 hown hK hW kd_0 rfl 6 (lt_b rfl) (hg (Cond.fieldLink RX11 51 "SlabWalk" "trails" "LSlabWalk$Trails;") m576) (fun _ h9 => h9) rfl dX11_winningRule_39 ?_
      refine lv_iload hx hb dX11_winningRule_42 (lv_at hl 0 rfl) ?_
      refine lv_iload_n hx hb dX11_winningRule_44 rfl (lv_at hl 1 rfl) ?_
      refine S_calli (va_runV (As := [.int x_9, .int y_4]) (rest := [.int x_9, .ref (a 46)]) ⟨hx, hb, hml, hown, hts⟩ (k_tWin l D k A a z G_5 x_9 y_4 ⟨(by first | (clear hci b_1 b_2 ty_4 hn_12; omega) | omega), (by first | (clear hci b_1 b_2 ty_4 hn_12; omega) | omega)⟩ ⟨(by first | (clear ha_p1 hci b_1 b_2 hn_12 f_11 c_13 c_16; omega) | omega), (by first | (clear ha_p1 hci b_1 b_2 hn_12 f_11 c_13 c_16; omega) | omega)⟩) (cwV 2 hts (gd_V hgd m1150 m1151 m1152 m124 m1153) rfl rfl rfl hd_X10_winningFrom ⟨Nat.le_of_ble_eq_true rfl, Nat.le_of_ble_eq_true rfl⟩) (pre_W hW hB_G_5 hK hZ hS kd_8 rfl) rfl rfl hl.1 rfl (lv_room (Nat.le_of_ble_eq_true rfl)) dX11_winningRule_45 ⟨Nat.le_of_ble_eq_true rfl, Nat.le_of_ble_eq_true rfl⟩) hS (fun r_18 G_19 H locs hpo hW hS => ?_)
      have hX_22 : P_tWin x_9 y_4 G_5 r_18 G_19 := hpo
      obtain ⟨hB_G_19, hq_20, -⟩ := hpo
      have hF := hF.call9 hq_20 rfl rfl
      refine S_iast hx hb hK hW hS kd_46 (vin ((by first | (clear hci b_1 b_2 ty_4 hn_12; omega) | omega)) ((by first | (clear hci b_1 b_2 ty_4 hn_12; omega) | omega))) dX11_winningRule_48 (fun G_23 H locs eG_23 hW hS => ?_)
      have hB_G_23 : Bd G_23 := hB_G_19.put (lo := (-2147483648)) (hi := 2147483647) eG_23 rfl rfl rfl (tI_rng _).1 (tI_rng _).2 (hB_G_19.2.put eG_23 rfl)
      have hF := hF.put eG_23 (Or.inl (by decide))
      refine lv_aload_n hx hb dX11_winningRule_49 rfl (lv_at hl 2 rfl) ?_
      refine S_getR (n := 8) (C := RX11) (T := TX11) (N := 13) hx hb hg iX11 hown hK hW kd_0 rfl 6 (lt_b rfl) (hg (Cond.fieldLink RX11 51 "SlabWalk" "trails" "LSlabWalk$Trails;") m576) (fun _ h9 => h9) rfl dX11_winningRule_50 ?_
      refine S_getR (n := 47) (C := RX10) (T := TX10) (N := 5) hx hb hg iX10 hown hK hW kd_8 rfl 4 (lt_b rfl) (hg (Cond.fieldLink RX11 353 "SlabWalk$Trails" "leaving" "[Z") m446) (fun _ h9 => h9) rfl dX11_winningRule_53 ?_
      refine lv_iload hx hb dX11_winningRule_56 (lv_at hl 0 rfl) ?_
      refine lv_aload_n hx hb dX11_winningRule_58 rfl (lv_at hl 2 rfl) ?_
      refine lv_iload_n hx hb dX11_winningRule_59 rfl (lv_at hl 3 rfl) ?_
      refine lv_iload hx hb dX11_winningRule_60 (lv_at hl 0 rfl) ?_
      have b_24 : 0 ≤ (G.1 7 3).toInt ∧ (G.1 7 3).toInt ≤ 60 := bd_7_3 hB_G
      have g_25 : (G_23.1 7 3).toInt = (G.1 7 3).toInt := (congrArg Int32.toInt (show G_23.1 7 3 = (G.1 7 3) from ((gp_ne eG_23 (fun q => absurd q.1 (Nat.ne_of_beq_eq_false rfl))).trans ((hq_20.i9 7 3 rfl rfl).trans (hq_6.i9 7 3 rfl rfl)))))
      have b_26 : 0 ≤ (G.1 7 4).toInt ∧ (G.1 7 4).toInt ≤ 60 := bd_7_4 hB_G
      have g_27 : (G_23.1 7 4).toInt = (G.1 7 4).toInt := (congrArg Int32.toInt (show G_23.1 7 4 = (G.1 7 4) from ((gp_ne eG_23 (fun q => absurd q.1 (Nat.ne_of_beq_eq_false rfl))).trans ((hq_20.i9 7 4 rfl rfl).trans (hq_6.i9 7 4 rfl rfl)))))
      have g_28 : (G_23.1 7 6).toInt = (G.1 7 6).toInt := (congrArg Int32.toInt (show G_23.1 7 6 = (G.1 7 6) from ((gp_ne eG_23 (fun q => absurd q.1 (Nat.ne_of_beq_eq_false rfl))).trans ((hq_20.i9 7 6 rfl rfl).trans ((hq_6.i9 7 6 rfl rfl).trans (rfl))))))
      have b_29 : 0 ≤ (G.1 7 7).toInt ∧ (G.1 7 7).toInt ≤ 400 := bd_7_7 hB_G
      have g_30 : (G_23.1 7 7).toInt = (G.1 7 7).toInt := (congrArg Int32.toInt (show G_23.1 7 7 = (G.1 7 7) from ((gp_ne eG_23 (fun q => absurd q.1 (Nat.ne_of_beq_eq_false rfl))).trans ((hq_20.i9 7 7 rfl rfl).trans (hq_6.i9 7 7 rfl rfl)))))
      refine S_calli (va_runV (As := [.int p0, .int x_9]) (rest := [.int x_9, .ref (a 47)]) ⟨hx, hb, hml, hown, hts⟩ (k_wLeaves_2 l D k A a z G_23 p0 x_9 ((((congrFun (congrFun (congrArg (fun q => q.2.2) eG_23) 0) 0).trans ((hq_20.r9 0 0 rfl rfl).trans (hq_6.r9 0 0 rfl rfl)))).trans (hv_0_0)) ((((congrFun (congrFun (congrArg (fun q => q.2.2) eG_23) 0) 1).trans ((hq_20.r9 0 1 rfl rfl).trans (hq_6.r9 0 1 rfl rfl)))).trans (hv_0_1)) ((((congrFun (congrFun (congrArg (fun q => q.2.2) eG_23) 6) 4).trans ((hq_20.r9 6 4 rfl rfl).trans (hq_6.r9 6 4 rfl rfl)))).trans (hv_6_4)) ((by first | exact ⟨((by first | (clear ha_p1 b_2 ty_4 hn_12 f_11 c_13 c_16; omega) | omega)), ⟨((by first | (clear ha_p1 b_2 ty_4 hn_12 f_11 c_13 c_16; omega) | omega)), ((by first | (clear ha_p1 b_2 ty_4 hn_12 f_11 c_13 c_16; omega) | omega))⟩⟩ | omega))) (cwV 2 hts (gd_V hgd m1154 m1156 m42 m117 m1157) rfl rfl rfl hd_X11_leavesWay ⟨Nat.le_of_ble_eq_true rfl, Nat.le_of_ble_eq_true rfl⟩) (pre_W hW hB_G_23 hK hZ hS kd_0 rfl) rfl rfl hl.1 rfl (lv_room (Nat.le_of_ble_eq_true rfl)) dX11_winningRule_62 ⟨Nat.le_of_ble_eq_true rfl, Nat.le_of_ble_eq_true rfl⟩) hS (fun r_31 G_32 H locs hpo hW hS => ?_)
      have hX_35 : P_wLeaves_2 p0 x_9 G_23 r_31 G_32 := hpo
      obtain ⟨hB_G_32, hq_33, f_36, hp_34, -⟩ := hpo
      have hF := hF.call9 hq_33 rfl rfl
      refine S_zast hx hb hK hW hS kd_47 (vin ((by first | (clear hci b_1 b_2 ty_4 hn_12 b_24 g_25 b_26 g_27 g_28 b_29 g_30 f_36 hp_34; omega) | omega)) ((by first | (clear hci b_1 b_2 ty_4 hn_12 b_24 g_25 b_26 g_27 g_28 b_29 g_30 f_36 hp_34; omega) | omega))) dX11_winningRule_65 (fun G_37 H locs eG_37 hW hS => ?_)
      have hB_G_37 : Bd G_37 := hB_G_32.put (lo := 0) (hi := 1) eG_37 rfl rfl rfl nz_bool.1 nz_bool.2 (hB_G_32.2.put eG_37 rfl)
      have hF := hF.put eG_37 (Or.inl (by decide))
      obtain ⟨y_38, ey_38⟩ : ∃ q, q = x_9 + (-1) := ⟨_, rfl⟩
      have ty_38 : y_38.toInt = x_9.toInt + (-1) := xI_add rfl rfl ey_38 ((by first | (clear hci b_1 b_2 ty_4 hn_12 b_24 g_25 b_26 g_27 g_28 b_29 g_30 f_36 hp_34; omega) | omega)) ((by first | (clear hci b_1 b_2 ty_4 hn_12 b_24 g_25 b_26 g_27 g_28 b_29 g_30 f_36 hp_34; omega) | omega))
      refine lv_iinc (v := y_38) (lv' := [(4, .int y_38), (3, .int y_4), (0, .ref (a 0)), (1, .int p0), (2, .int p1)]) hx hb dX11_winningRule_66 hl (k := 0) rfl (by rw [ey_38]; rfl) (lt_b rfl) rfl (fun ls hl => ?_)
      refine lv_goto (tgt := 15) hx hb dX11_winningRule_69 rfl ?_
      exact ih_7 (y_38.toInt - (-1) : Int).toNat ((by first | (clear hci b_1 b_2 ty_4 b_24 g_25 b_26 g_27 g_28 b_29 g_30 f_36 hp_34; omega) | omega)) _ _ _ ⟨G_37, y_38, (Int.toNat_of_nonneg ((by first | (clear hci b_1 b_2 ty_4 hn_12 b_24 g_25 b_26 g_27 g_28 b_29 g_30 f_36 hp_34; omega) | omega))), ⟨(by first | (clear hci b_1 b_2 ty_4 hn_12 b_24 g_25 b_26 g_27 g_28 b_29 g_30 f_36 hp_34; omega) | omega), (by first | (clear hci b_1 b_2 ty_4 hn_12 b_24 g_25 b_26 g_27 g_28 b_29 g_30 f_36 hp_34; omega) | omega)⟩, (hX_10.st (St_k_wWin_2_1_mk ⟨x_9, G_5, y_38, G_37, rfl, rfl, f_11, hB_G_5, ⟨c_13, ⟨y_15, ey_15, (Or.inl ⟨c_16, ⟨r_18, G_19, hX_22, ⟨G_23, hB_G_23, (Fr.put (rs := [46]) (fs := []) Fr.rf eG_23 (Or.inl (by decide))), rw_ast eG_23, ⟨r_31, G_32, hX_35, ⟨y_38, ty_38, ⟨rfl, (Fr.put (rs := [47]) (fs := []) Fr.rf eG_37 (Or.inl (by decide))), rw_ast eG_37⟩⟩⟩⟩⟩⟩)⟩⟩⟩)), hW, hB_G_37, hF, (Fr.put (rs := [40, 42, 43, 46, 47]) (fs := []) (Fr.call9 (rs := [40, 42, 43, 46, 47]) (fs := []) (Fr.put (rs := [40, 42, 43, 46, 47]) (fs := []) (Fr.call9 (rs := [40, 42, 43, 46, 47]) (fs := []) (Fr.call9 (rs := [40, 42, 43, 46, 47]) (fs := []) Fr.rf hq_6 rfl rfl) hq_20 rfl rfl) eG_23 (Or.inl (by decide))) hq_33 rfl rfl) eG_37 (Or.inl (by decide))), hS, lv_sub hl [0, 1, 2, 3, 4] rfl⟩

set_option maxHeartbeats 4000000 in
set_option maxRecDepth 100000 in
theorem k_wLSight_2 (l : Launch) (D : va_G) (k : KT) (A : Nat → Prop) (a : Nat → Nat) (z : SK) (G : GS) (p0 : Int32) (p1 : Int32) (p2 : Int32) (ha_p0 : 0 ≤ p0.toInt ∧ p0.toInt ≤ 19) (ha_p2 : -3 ≤ p2.toInt ∧ p2.toInt ≤ 3) (hv_0_0 : G.2.2 0 0 = 2) (hv_0_1 : G.2.2 0 1 = 1) (hv_6_4 : G.2.2 6 4 = 2) : Met l yX11_isLawfulSight (WS yX11_isLawfulSight cX11_isLawfulSight 5 (some .boolean)) ({ frames := 4, cells := 0, slots := 0, locals := 96 }) (va_Pc [.ref (a 0), .int p0, .int p1, .int p2] (cW D k A a z G)) (va_Qi (fun (r : Int32) (G1 : GS) => P_wLSight_2 p0 p1 p2 G r G1) (fun (G1 : GS) t => Wd D k A a G1 t.heap) A) 0 0 A := by
  refine Met.ofW (cc := cX11_isLawfulSight) (maxL := 5) (ret := (some .boolean)) (by decide) rfl ?_
  intro p e s m args below meth c s₁ B hml hv
  obtain ⟨rfl, hW, hB_G, hK, hZ⟩ := hv
  have hx := B.exec
  have hb := B.bytes
  have hr := B.returns
  have hts := atoms_spec (ws := WS yX11_isLawfulSight cX11_isLawfulSight 5 (some .boolean)) B.pre
  have hgd : ∀ w ∈ gd, w ∈ WS yX11_isLawfulSight cX11_isLawfulSight 5 (some .boolean) := fun w h => List.mem_cons_of_mem _ h
  have hg : ∀ w ∈ gd, w.before _ s = true := fun w h => hts w (hgd w h)
  have hown : s.vm.findClass RX11 = some m.cls := findClass_of_methodNamed B.named
  have hS : va_S A s.heap s.heap [] := va_S.rf
  have hF : Fr [37, 38, 39] [(6, 3)] G G := Fr.rf
  have hl := lv_entry ([.ref (a 0), .int p0, .int p1, .int p2]) (n := 5) (Nat.le_of_ble_eq_true rfl)
  rw [lg_entry_eq]
  generalize (lg_sl ([.ref (a 0), .int p0, .int p1, .int p2]) ++ List.replicate (5 - (lg_sl ([.ref (a 0), .int p0, .int p1, .int p2])).length) Slot.unset).toArray = ls at hl ⊢
  have hl : lv_has ls 5 [(0, .ref (a 0)), (1, .int p0), (2, .int p1), (3, .int p2)] := hl
  refine lv_aload_n hx hb dX11_isLawfulSight_0 rfl (lv_at hl 0 rfl) ?_
  refine S_getR (n := 31) (C := RX11) (T := TX11) (N := 13) hx hb hg iX11 hown hK hW kd_0 rfl 9 (lt_b rfl) (hg (Cond.fieldLink RX11 72 "SlabWalk" "sights" "LSlabWalk$Sights;") m579) (fun _ h9 => h9) rfl dX11_isLawfulSight_1 ?_
  refine S_getR (n := 63) (C := RX8) (T := TX8) (N := 7) hx hb hg iX8 hown hK hW kd_31 rfl 2 (lt_b rfl) (hg (Cond.fieldLink RX11 359 "SlabWalk$Sights" "heel" "[I") m525) (fun _ h9 => h9) rfl dX11_isLawfulSight_4 ?_
  refine lv_iload_n hx hb dX11_isLawfulSight_7 rfl (lv_at hl 1 rfl) ?_
  refine S_iald hx hb hK hW kd_63 (vin (by omega) (by omega)) dX11_isLawfulSight_8 (fun y_1 ey_1 => ?_)
  refine lv_iload_n hx hb dX11_isLawfulSight_9 rfl (lv_at hl 3 rfl) ?_
  refine lv_iadd hx hb dX11_isLawfulSight_10 ?_
  refine lv_topi (fun y_2 ey_2 => ?_)
  refine lv_istore (lv' := [(4, .int y_2), (0, .ref (a 0)), (1, .int p0), (2, .int p1), (3, .int p2)]) hx hb dX11_isLawfulSight_11 hl (lt_b rfl) rfl (fun ls hl => ?_)
  refine lv_aload_n hx hb dX11_isLawfulSight_13 rfl (lv_at hl 1 rfl) ?_
  refine S_getR (n := 6) (C := RX11) (T := TX11) (N := 13) hx hb hg iX11 hown hK hW kd_0 rfl 4 (lt_b rfl) (hg (Cond.fieldLink RX11 37 "SlabWalk" "lines" "LSlabWalk$Lines;") m574) (fun _ h9 => h9) rfl dX11_isLawfulSight_14 ?_
  refine lv_aload_n hx hb dX11_isLawfulSight_17 rfl (lv_at hl 1 rfl) ?_
  refine S_getR (n := 31) (C := RX11) (T := TX11) (N := 13) hx hb hg iX11 hown hK hW kd_0 rfl 9 (lt_b rfl) (hg (Cond.fieldLink RX11 72 "SlabWalk" "sights" "LSlabWalk$Sights;") m579) (fun _ h9 => h9) rfl dX11_isLawfulSight_18 ?_
  refine S_getR (n := 62) (C := RX8) (T := TX8) (N := 7) hx hb hg iX8 hown hK hW kd_31 rfl 1 (lt_b rfl) (hg (Cond.fieldLink RX11 362 "SlabWalk$Sights" "street" "[I") m523) (fun _ h9 => h9) rfl dX11_isLawfulSight_21 ?_
  refine lv_iload_n hx hb dX11_isLawfulSight_24 rfl (lv_at hl 2 rfl) ?_
  refine S_iald hx hb hK hW kd_62 (vin (by omega) (by omega)) dX11_isLawfulSight_25 (fun y_3 ey_3 => ?_)
  refine lv_aload_n hx hb dX11_isLawfulSight_26 rfl (lv_at hl 1 rfl) ?_
  refine S_calli (va_runV (As := []) (rest := [.int y_3, .ref (a 6)]) ⟨hx, hb, hml, hown, hts⟩ (k_wToday l D k A a z G  ) (cwV 0 hts (gd_V hgd m911 m913 m27 m117 m914) rfl rfl rfl hd_X11_today ⟨Nat.le_of_ble_eq_true rfl, Nat.le_of_ble_eq_true rfl⟩) (pre_W hW hB_G hK hZ hS kd_0 rfl) rfl rfl hl.1 rfl (lv_room (Nat.le_of_ble_eq_true rfl)) dX11_isLawfulSight_27 ⟨Nat.le_of_ble_eq_true rfl, Nat.le_of_ble_eq_true rfl⟩) hS (fun r_4 G_5 H locs hpo hW hS => ?_)
  have hX_8 : P_wToday G r_4 G_5 := hpo
  obtain ⟨hB_G_5, hq_6, -⟩ := hpo
  have hF := hF.call9 hq_6 rfl rfl
  refine S_callv (va_runV (As := [.int y_3, .int r_4]) (rest := []) ⟨hx, hb, hml, hown, hts⟩ (k_lFind_2 l D k A a z G_5 y_3 r_4 (((hq_6.r9 6 4 rfl rfl)).trans (hv_6_4))) (cwV 2 hts (gd_V hgd m915 m916 m917 m122 m918) rfl rfl rfl hd_X3_findFor ⟨Nat.le_of_ble_eq_true rfl, Nat.le_of_ble_eq_true rfl⟩) (pre_W hW hB_G_5 hK hZ hS kd_6 rfl) rfl rfl hl.1 rfl (lv_room (Nat.le_of_ble_eq_true rfl)) dX11_isLawfulSight_30 ⟨Nat.le_of_ble_eq_true rfl, Nat.le_of_ble_eq_true rfl⟩) hS (fun G_10 H locs hpo hW hS => ?_)
  have hX_13 : P_lFind_2 y_3 r_4 G_5 G_10 := hpo
  obtain ⟨hB_G_10, hq_11, -⟩ := hpo
  have hF := hF.call9 hq_11 rfl rfl
  refine lv_aload_n hx hb dX11_isLawfulSight_33 rfl (lv_at hl 1 rfl) ?_
  refine S_getR (n := 6) (C := RX11) (T := TX11) (N := 13) hx hb hg iX11 hown hK hW kd_0 rfl 4 (lt_b rfl) (hg (Cond.fieldLink RX11 37 "SlabWalk" "lines" "LSlabWalk$Lines;") m574) (fun _ h9 => h9) rfl dX11_isLawfulSight_34 ?_
  refine lv_aload_n hx hb dX11_isLawfulSight_37 rfl (lv_at hl 1 rfl) ?_
  refine S_getR (n := 31) (C := RX11) (T := TX11) (N := 13) hx hb hg iX11 hown hK hW kd_0 rfl 9 (lt_b rfl) (hg (Cond.fieldLink RX11 72 "SlabWalk" "sights" "LSlabWalk$Sights;") m579) (fun _ h9 => h9) rfl dX11_isLawfulSight_38 ?_
  refine S_getR (n := 61) (C := RX8) (T := TX8) (N := 7) hx hb hg iX8 hown hK hW kd_31 rfl 0 (lt_b rfl) (hg (Cond.fieldLink RX11 365 "SlabWalk$Sights" "walker" "[I") m521) (fun _ h9 => h9) rfl dX11_isLawfulSight_41 ?_
  refine lv_iload_n hx hb dX11_isLawfulSight_44 rfl (lv_at hl 2 rfl) ?_
  refine S_iald hx hb hK hW kd_61 (vin (by omega) (by omega)) dX11_isLawfulSight_45 (fun y_14 ey_14 => ?_)
  refine lv_aload_n hx hb dX11_isLawfulSight_46 rfl (lv_at hl 1 rfl) ?_
  refine S_getR (n := 31) (C := RX11) (T := TX11) (N := 13) hx hb hg iX11 hown hK hW kd_0 rfl 9 (lt_b rfl) (hg (Cond.fieldLink RX11 72 "SlabWalk" "sights" "LSlabWalk$Sights;") m579) (fun _ h9 => h9) rfl dX11_isLawfulSight_47 ?_
  refine S_getR (n := 62) (C := RX8) (T := TX8) (N := 7) hx hb hg iX8 hown hK hW kd_31 rfl 1 (lt_b rfl) (hg (Cond.fieldLink RX11 362 "SlabWalk$Sights" "street" "[I") m523) (fun _ h9 => h9) rfl dX11_isLawfulSight_50 ?_
  refine lv_iload_n hx hb dX11_isLawfulSight_53 rfl (lv_at hl 2 rfl) ?_
  refine S_iald hx hb hK hW kd_62 (vin (by omega) (by omega)) dX11_isLawfulSight_54 (fun y_15 ey_15 => ?_)
  refine ic_1 hx hb dX11_isLawfulSight_55 ?_
  refine lv_iload_n hx hb dX11_isLawfulSight_56 rfl (lv_at hl 3 rfl) ?_
  refine lv_ishl hx hb dX11_isLawfulSight_57 ?_
  refine lv_topi (fun y_16 ey_16 => ?_)
  refine lv_iload hx hb dX11_isLawfulSight_58 (lv_at hl 0 rfl) ?_
  refine S_calli (va_runV (As := [.int y_14, .int y_15, .int y_16, .int y_2]) (rest := []) ⟨hx, hb, hml, hown, hts⟩ (k_lIsLawful_2 l D k A a z G_10 y_14 y_15 y_16 y_2 ((((hq_11.r9 6 4 rfl rfl).trans (hq_6.r9 6 4 rfl rfl))).trans (hv_6_4))) (cwV 4 hts (gd_V hgd m961 m962 m963 m122 m964) rfl rfl rfl hd_X3_isLawful ⟨Nat.le_of_ble_eq_true rfl, Nat.le_of_ble_eq_true rfl⟩) (pre_W hW hB_G_10 hK hZ hS kd_6 rfl) rfl rfl hl.1 rfl (lv_room (Nat.le_of_ble_eq_true rfl)) dX11_isLawfulSight_60 ⟨Nat.le_of_ble_eq_true rfl, Nat.le_of_ble_eq_true rfl⟩) hS (fun r_17 G_18 H locs hpo hW hS => ?_)
  have hX_21 : P_lIsLawful_2 y_14 y_15 y_16 y_2 G_10 r_17 G_18 := hpo
  obtain ⟨hB_G_18, hq_19, f_22, -⟩ := hpo
  have hF := hF.call9 hq_19 rfl rfl
  exact W.zret (v := r_17) hx hb hr (nar_z (by omega) (by omega)) (fun t ht _ => ⟨⟨r_17, G_18, rfl, (P_wLSight_2_mk ⟨hB_G_18, hF, ⟨by omega, by omega⟩, ⟨y_1, ey_1, ⟨y_2, ey_2, ⟨y_3, ey_3, ⟨r_4, G_5, hX_8, ⟨G_10, hX_13, ⟨y_14, ey_14, ⟨y_15, ey_15, ⟨y_16, ey_16, ⟨r_17, G_18, hX_21, ⟨rfl, rfl⟩⟩⟩⟩⟩⟩⟩⟩⟩⟩⟩), wd_t ht hW⟩, hS.F ht⟩) hS.2.2 dX11_isLawfulSight_63

set_option maxHeartbeats 4000000 in
set_option maxRecDepth 100000 in
theorem k_wFitsAll_2 (l : Launch) (D : va_G) (k : KT) (A : Nat → Prop) (a : Nat → Nat) (z : SK) (G : GS) (p0 : Int32) (p1 : Int32) (hv_0_0 : G.2.2 0 0 = 2) (hv_0_1 : G.2.2 0 1 = 1) (hv_6_4 : G.2.2 6 4 = 2) : Met l yX11_fitsAll (WS yX11_fitsAll cX11_fitsAll 4 (some .boolean)) ({ frames := 5, cells := 0, slots := 0, locals := 120 }) (va_Pc [.ref (a 0), .int p0, .int p1] (cW D k A a z G)) (va_Qi (fun (r : Int32) (G1 : GS) => P_wFitsAll_2 p0 p1 G r G1) (fun (G1 : GS) t => Wd D k A a G1 t.heap) A) 0 0 A := by
  refine Met.ofW (cc := cX11_fitsAll) (maxL := 4) (ret := (some .boolean)) (by decide) rfl ?_
  intro p e s m args below meth c s₁ B hml hv
  obtain ⟨rfl, hW, hB_G, hK, hZ⟩ := hv
  have hx := B.exec
  have hb := B.bytes
  have hr := B.returns
  have hts := atoms_spec (ws := WS yX11_fitsAll cX11_fitsAll 4 (some .boolean)) B.pre
  have hgd : ∀ w ∈ gd, w ∈ WS yX11_fitsAll cX11_fitsAll 4 (some .boolean) := fun w h => List.mem_cons_of_mem _ h
  have hg : ∀ w ∈ gd, w.before _ s = true := fun w h => hts w (hgd w h)
  have hown : s.vm.findClass RX11 = some m.cls := findClass_of_methodNamed B.named
  have hS : va_S A s.heap s.heap [] := va_S.rf
  have hF : Fr [37, 38, 39] [(6, 3)] G G := Fr.rf
  have hl := lv_entry ([.ref (a 0), .int p0, .int p1]) (n := 4) (Nat.le_of_ble_eq_true rfl)
  rw [lg_entry_eq]
  generalize (lg_sl ([.ref (a 0), .int p0, .int p1]) ++ List.replicate (4 - (lg_sl ([.ref (a 0), .int p0, .int p1])).length) Slot.unset).toArray = ls at hl ⊢
  have hl : lv_has ls 4 [(0, .ref (a 0)), (1, .int p0), (2, .int p1)] := hl
  refine ic_0 hx hb dX11_fitsAll_0 ?_
  refine lv_istore_n (lv' := [(3, .int 0), (0, .ref (a 0)), (1, .int p0), (2, .int p1)]) hx hb dX11_fitsAll_1 rfl hl (lt_b rfl) rfl (fun ls hl => ?_)
  have qc_7 : (0 : Int32).toInt = 0 := rfl
  refine loop_N (Inv := fun n H locs ls => ∃ (G_1 : GS) (x_5 : Int32), (n : Int) = 20 - x_5.toInt ∧ (0 ≤ x_5.toInt ∧ x_5.toInt ≤ 20) ∧ Rc (St_k_wFitsAll_2_1 p0 p1 G) (0, G) (x_5, G_1) ∧ Wd D k A a G_1 H ∧ Bd G_1 ∧ Fr [37, 38, 39] [(6, 3)] G G_1 ∧ Fr [37, 38, 39] [(6, 3)] G G_1 ∧ va_S A s.heap H locs ∧ lv_has ls 4 [(3, .int x_5), (0, .ref (a 0)), (1, .int p0), (2, .int p1)]) (fun n_4 H locs ls ih_3 hI => ?_) (20 - 0 : Int).toNat ⟨G, 0, (Int.toNat_of_nonneg (by omega)), ⟨by omega, by omega⟩, Rc.rf, hW, hB_G, hF, Fr.rf, hS, lv_sub hl [0, 1, 2, 3] rfl⟩
  obtain ⟨G_1, x_5, hn_9, f_8, hX_6, hW, hB_G_1, hF, hq_2, hS, hl⟩ := hI
  refine lv_iload_n hx hb dX11_fitsAll_2 rfl (lv_at hl 0 rfl) ?_
  refine lv_aload_n hx hb dX11_fitsAll_3 rfl (lv_at hl 1 rfl) ?_
  refine S_getR (n := 31) (C := RX11) (T := TX11) (N := 13) hx hb hg iX11 hown hK hW kd_0 rfl 9 (lt_b rfl) (hg (Cond.fieldLink RX11 72 "SlabWalk" "sights" "LSlabWalk$Sights;") m579) (fun _ h9 => h9) rfl dX11_fitsAll_4 ?_
  have b_10 : 0 ≤ (G.1 31 5).toInt ∧ (G.1 31 5).toInt ≤ 20 := bd_31_5 hB_G
  refine S_getI (v := (G.1 31 5)) (C := RX8) (T := TX8) (N := 7) hx hb hg iX8 hown hK hW kd_31 rfl 5 (lt_b rfl) (hg (Cond.fieldLink RX11 285 "SlabWalk$Sights" "count" "I") m529) (fun _ h9 => h9) rfl (hq_2.i9 31 5 rfl rfl) dX11_fitsAll_7 ?_
  refine lv_icmp_ge (tgt := 43) hx hb dX11_fitsAll_10 rfl (fun c_11 => ?_) (fun c_11 => ?_)
  · have c_11 : (G.1 31 5).toInt ≤ x_5.toInt := xI_le rfl rfl c_11
    refine ic_1 hx hb dX11_fitsAll_43 ?_
    exact W.zret (v := 1) hx hb hr (by decide) (fun t ht _ => ⟨⟨1, G_1, rfl, (P_wFitsAll_2_mk ⟨hB_G_1, hF, ⟨by decide, by decide⟩, ⟨x_5, G_1, hX_6, f_8, hB_G_1, hq_2, (Or.inl ⟨c_11, ⟨rfl, rfl⟩⟩)⟩⟩), wd_t ht hW⟩, hS.F ht⟩) hS.2.2 dX11_fitsAll_44
  · have c_11 : x_5.toInt < (G.1 31 5).toInt := xI_nle rfl rfl c_11
    refine lv_aload_n hx hb dX11_fitsAll_13 rfl (lv_at hl 1 rfl) ?_
    refine S_getR (n := 31) (C := RX11) (T := TX11) (N := 13) hx hb hg iX11 hown hK hW kd_0 rfl 9 (lt_b rfl) (hg (Cond.fieldLink RX11 72 "SlabWalk" "sights" "LSlabWalk$Sights;") m579) (fun _ h9 => h9) rfl dX11_fitsAll_14 ?_
    refine lv_iload_n hx hb dX11_fitsAll_17 rfl (lv_at hl 0 rfl) ?_
    refine lv_iload_n hx hb dX11_fitsAll_18 rfl (lv_at hl 3 rfl) ?_
    refine S_calli (va_runV (As := [.int x_5, .int p1]) (rest := []) ⟨hx, hb, hml, hown, hts⟩ (k_sCounts l D k A a z G_1 x_5 p1 ⟨by omega, by omega⟩) (cwV 2 hts (gd_V hgd m1271 m1272 m1273 m128 m1274) rfl rfl rfl hd_X8_counts ⟨Nat.le_of_ble_eq_true rfl, Nat.le_of_ble_eq_true rfl⟩) (pre_W hW hB_G_1 hK hZ hS kd_31 rfl) rfl rfl hl.1 rfl (lv_room (Nat.le_of_ble_eq_true rfl)) dX11_fitsAll_19 ⟨Nat.le_of_ble_eq_true rfl, Nat.le_of_ble_eq_true rfl⟩) hS (fun r_12 G_13 H locs hpo hW hS => ?_)
    have hX_16 : P_sCounts x_5 p1 G_1 r_12 G_13 := hpo
    obtain ⟨hB_G_13, hq_14, f_17, -⟩ := hpo
    have hF := hF.call9 hq_14 rfl rfl
    refine lv_if_eq (tgt := 37) hx hb dX11_fitsAll_22 rfl (fun c_18 => ?_) (fun c_18 => ?_)
    · have c_18 : r_12.toInt = 0 := xI_eq rfl rfl c_18
      obtain ⟨y_19, ey_19⟩ : ∃ q, q = x_5 + 1 := ⟨_, rfl⟩
      have ty_19 : y_19.toInt = x_5.toInt + 1 := xI_add rfl rfl ey_19 ((by first | (clear hn_9 f_17 c_18; omega) | omega)) ((by first | (clear hn_9 f_17 c_18; omega) | omega))
      refine lv_iinc (v := y_19) (lv' := [(3, .int y_19), (0, .ref (a 0)), (1, .int p0), (2, .int p1)]) hx hb dX11_fitsAll_37 hl (k := 0) rfl (by rw [ey_19]; rfl) (lt_b rfl) rfl (fun ls hl => ?_)
      refine lv_goto (tgt := 2) hx hb dX11_fitsAll_40 rfl ?_
      exact ih_3 (20 - y_19.toInt : Int).toNat (by omega) _ _ _ ⟨G_13, y_19, (Int.toNat_of_nonneg ((by first | (clear hn_9 f_17 c_18; omega) | omega))), ⟨(by first | (clear hn_9 f_17 c_18; omega) | omega), (by first | (clear hn_9 f_17 c_18; omega) | omega)⟩, (hX_6.st (St_k_wFitsAll_2_1_mk ⟨x_5, G_1, y_19, G_13, rfl, rfl, f_8, hB_G_1, ⟨c_11, ⟨r_12, G_13, hX_16, (Or.inl ⟨c_18, ⟨y_19, ty_19, ⟨rfl, rfl⟩⟩⟩)⟩⟩⟩)), hW, hB_G_13, hF, (Fr.call9 (rs := [37, 38, 39]) (fs := [(6, 3)]) (Fr.call9 (rs := [37, 38, 39]) (fs := [(6, 3)]) Fr.rf hq_2 rfl rfl) hq_14 rfl rfl), hS, lv_sub hl [0, 1, 2, 3] rfl⟩
    · have c_18 : r_12.toInt ≠ 0 := xI_ne rfl rfl c_18
      refine lv_aload_n hx hb dX11_fitsAll_25 rfl (lv_at hl 1 rfl) ?_
      refine lv_iload_n hx hb dX11_fitsAll_26 rfl (lv_at hl 0 rfl) ?_
      refine lv_iload_n hx hb dX11_fitsAll_27 rfl (lv_at hl 2 rfl) ?_
      refine ic_0 hx hb dX11_fitsAll_28 ?_
      refine S_calli (va_runV (As := [.int x_5, .int p0, .int 0]) (rest := []) ⟨hx, hb, hml, hown, hts⟩ (k_wLSight_2 l D k A a z G_13 x_5 p0 0 ⟨(by first | (clear hn_9 f_17 c_18; omega) | omega), (by first | (clear hn_9 f_17 c_18; omega) | omega)⟩ ⟨by decide, by decide⟩ ((((hq_14.r9 0 0 rfl rfl).trans (hq_2.r9 0 0 rfl rfl))).trans (hv_0_0)) ((((hq_14.r9 0 1 rfl rfl).trans (hq_2.r9 0 1 rfl rfl))).trans (hv_0_1)) ((((hq_14.r9 6 4 rfl rfl).trans (hq_2.r9 6 4 rfl rfl))).trans (hv_6_4))) (cwV 3 hts (gd_V hgd m1275 m1277 m46 m117 m1278) rfl rfl rfl hd_X11_isLawfulSight ⟨Nat.le_of_ble_eq_true rfl, Nat.le_of_ble_eq_true rfl⟩) (pre_W hW hB_G_13 hK hZ hS kd_0 rfl) rfl rfl hl.1 rfl (lv_room (Nat.le_of_ble_eq_true rfl)) dX11_fitsAll_29 ⟨Nat.le_of_ble_eq_true rfl, Nat.le_of_ble_eq_true rfl⟩) hS (fun r_20 G_21 H locs hpo hW hS => ?_)
      have hX_24 : P_wLSight_2 x_5 p0 0 G_13 r_20 G_21 := hpo
      obtain ⟨hB_G_21, hq_22, f_25, -⟩ := hpo
      have hF := hF.call9 hq_22 rfl rfl
      refine lv_if_ne (tgt := 37) hx hb dX11_fitsAll_32 rfl (fun c_26 => ?_) (fun c_26 => ?_)
      · have c_26 : r_20.toInt ≠ 0 := xI_ne rfl rfl c_26
        obtain ⟨y_27, ey_27⟩ : ∃ q, q = x_5 + 1 := ⟨_, rfl⟩
        have ty_27 : y_27.toInt = x_5.toInt + 1 := xI_add rfl rfl ey_27 ((by first | (clear hn_9 f_17 c_18 f_25 c_26; omega) | omega)) ((by first | (clear hn_9 f_17 c_18 f_25 c_26; omega) | omega))
        refine lv_iinc (v := y_27) (lv' := [(3, .int y_27), (0, .ref (a 0)), (1, .int p0), (2, .int p1)]) hx hb dX11_fitsAll_37 hl (k := 0) rfl (by rw [ey_27]; rfl) (lt_b rfl) rfl (fun ls hl => ?_)
        refine lv_goto (tgt := 2) hx hb dX11_fitsAll_40 rfl ?_
        exact ih_3 (20 - y_27.toInt : Int).toNat ((by first | (clear f_17 c_18 f_25 c_26; omega) | omega)) _ _ _ ⟨G_21, y_27, (Int.toNat_of_nonneg ((by first | (clear hn_9 f_17 c_18 f_25 c_26; omega) | omega))), ⟨(by first | (clear hn_9 f_17 c_18 f_25 c_26; omega) | omega), (by first | (clear hn_9 f_17 c_18 f_25 c_26; omega) | omega)⟩, (hX_6.st (St_k_wFitsAll_2_1_mk ⟨x_5, G_1, y_27, G_21, rfl, rfl, f_8, hB_G_1, ⟨c_11, ⟨r_12, G_13, hX_16, (Or.inr ⟨c_18, ⟨r_20, G_21, hX_24, ⟨c_26, ⟨y_27, ty_27, ⟨rfl, rfl⟩⟩⟩⟩⟩)⟩⟩⟩)), hW, hB_G_21, hF, (Fr.call9 (rs := [37, 38, 39]) (fs := [(6, 3)]) (Fr.call9 (rs := [37, 38, 39]) (fs := [(6, 3)]) (Fr.call9 (rs := [37, 38, 39]) (fs := [(6, 3)]) Fr.rf hq_2 rfl rfl) hq_14 rfl rfl) hq_22 rfl rfl), hS, lv_sub hl [0, 1, 2, 3] rfl⟩
      · have c_26 : r_20.toInt = 0 := xI_eq rfl rfl c_26
        refine ic_0 hx hb dX11_fitsAll_35 ?_
        exact W.zret (v := 0) hx hb hr (by decide) (fun t ht _ => ⟨⟨0, G_21, rfl, (P_wFitsAll_2_mk ⟨hB_G_21, hF, ⟨by decide, by decide⟩, ⟨x_5, G_1, hX_6, f_8, hB_G_1, hq_2, (Or.inr ⟨c_11, ⟨r_12, G_13, hX_16, ⟨c_18, ⟨r_20, G_21, hX_24, ⟨c_26, ⟨rfl, rfl⟩⟩⟩⟩⟩⟩)⟩⟩), wd_t ht hW⟩, hS.F ht⟩) hS.2.2 dX11_fitsAll_36

set_option maxHeartbeats 4000000 in
set_option maxRecDepth 100000 in
theorem k_wNear_2 (l : Launch) (D : va_G) (k : KT) (A : Nat → Prop) (a : Nat → Nat) (z : SK) (G : GS) (p0 : Int32) (p1 : Int32) (p2 : Int32) (ha_p0 : 0 ≤ p0.toInt ∧ p0.toInt ≤ 19) (ha_p2 : 0 ≤ p2.toInt ∧ p2.toInt ≤ 1) (hv_0_0 : G.2.2 0 0 = 2) (hv_0_1 : G.2.2 0 1 = 1) (hv_6_4 : G.2.2 6 4 = 2) : Met l yX11_heelsNear (WS yX11_heelsNear cX11_heelsNear 6 (some .int)) ({ frames := 5, cells := 0, slots := 0, locals := 120 }) (va_Pc [.ref (a 0), .int p0, .int p1, .int p2] (cW D k A a z G)) (va_Qi (fun (r : Int32) (G1 : GS) => P_wNear_2 p0 p1 p2 G r G1) (fun (G1 : GS) t => Wd D k A a G1 t.heap) A) 0 0 A := by
  refine Met.ofW (cc := cX11_heelsNear) (maxL := 6) (ret := (some .int)) (by decide) rfl ?_
  intro p e s m args below meth c s₁ B hml hv
  obtain ⟨rfl, hW, hB_G, hK, hZ⟩ := hv
  have hx := B.exec
  have hb := B.bytes
  have hr := B.returns
  have hts := atoms_spec (ws := WS yX11_heelsNear cX11_heelsNear 6 (some .int)) B.pre
  have hgd : ∀ w ∈ gd, w ∈ WS yX11_heelsNear cX11_heelsNear 6 (some .int) := fun w h => List.mem_cons_of_mem _ h
  have hg : ∀ w ∈ gd, w.before _ s = true := fun w h => hts w (hgd w h)
  have hown : s.vm.findClass RX11 = some m.cls := findClass_of_methodNamed B.named
  have hS : va_S A s.heap s.heap [] := va_S.rf
  have hF : Fr [37, 38, 39] [(6, 3)] G G := Fr.rf
  have hl := lv_entry ([.ref (a 0), .int p0, .int p1, .int p2]) (n := 6) (Nat.le_of_ble_eq_true rfl)
  rw [lg_entry_eq]
  generalize (lg_sl ([.ref (a 0), .int p0, .int p1, .int p2]) ++ List.replicate (6 - (lg_sl ([.ref (a 0), .int p0, .int p1, .int p2])).length) Slot.unset).toArray = ls at hl ⊢
  have hl : lv_has ls 6 [(0, .ref (a 0)), (1, .int p0), (2, .int p1), (3, .int p2)] := hl
  refine ic_0 hx hb dX11_heelsNear_0 ?_
  refine lv_istore (lv' := [(4, .int 0), (0, .ref (a 0)), (1, .int p0), (2, .int p1), (3, .int p2)]) hx hb dX11_heelsNear_1 hl (lt_b rfl) rfl (fun ls hl => ?_)
  refine lv_bipush (v := (-3)) hx hb dX11_heelsNear_3 (by decide) ?_
  refine lv_istore (lv' := [(5, .int (-3)), (4, .int 0), (0, .ref (a 0)), (1, .int p0), (2, .int p1), (3, .int p2)]) hx hb dX11_heelsNear_5 hl (lt_b rfl) rfl (fun ls hl => ?_)
  have qc_8 : ((-3) : Int32).toInt = (-3) := rfl
  have qc_9 : (0 : Int32).toInt = 0 := rfl
  refine loop_N (Inv := fun n H locs ls => ∃ (G_1 : GS) (x_5 : Int32) (x_6 : Int32), (n : Int) = 4 - x_5.toInt ∧ ((-3) ≤ x_5.toInt ∧ x_5.toInt ≤ 4) ∧ Rc (St_k_wNear_2_1 p0 p1 p2) ((-3), 0, G) (x_5, x_6, G_1) ∧ Wd D k A a G_1 H ∧ Bd G_1 ∧ Fr [37, 38, 39] [(6, 3)] G G_1 ∧ Fr [37, 38, 39] [(6, 3)] G G_1 ∧ va_S A s.heap H locs ∧ lv_has ls 6 [(5, .int x_5), (4, .int x_6), (0, .ref (a 0)), (1, .int p0), (2, .int p1), (3, .int p2)]) (fun n_4 H locs ls ih_3 hI => ?_) (4 - (-3) : Int).toNat ⟨G, (-3), 0, (Int.toNat_of_nonneg (by omega)), ⟨by omega, by omega⟩, Rc.rf, hW, hB_G, hF, Fr.rf, hS, lv_sub hl [0, 1, 2, 3, 4, 5] rfl⟩
  obtain ⟨G_1, x_5, x_6, hn_11, f_10, hX_7, hW, hB_G_1, hF, hq_2, hS, hl⟩ := hI
  refine lv_iload hx hb dX11_heelsNear_7 (lv_at hl 0 rfl) ?_
  refine ic_3 hx hb dX11_heelsNear_9 ?_
  refine lv_icmp_gt (tgt := 77) hx hb dX11_heelsNear_10 rfl (fun c_12 => ?_) (fun c_12 => ?_)
  · have c_12 : 3 < x_5.toInt := xI_lt rfl rfl c_12
    refine lv_iload hx hb dX11_heelsNear_77 (lv_at hl 1 rfl) ?_
    exact W.iret (v := x_6) hx hb hr (fun t ht _ => ⟨⟨x_6, G_1, rfl, (P_wNear_2_mk ⟨hB_G_1, hF, ⟨x_5, x_6, G_1, hX_7, f_10, hB_G_1, hq_2, ⟨c_12, ⟨rfl, rfl⟩⟩⟩⟩), wd_t ht hW⟩, hS.F ht⟩) hS.2.2 dX11_heelsNear_79
  · have c_12 : x_5.toInt ≤ 3 := xI_nlt rfl rfl c_12
    refine lv_aload_n hx hb dX11_heelsNear_13 rfl (lv_at hl 2 rfl) ?_
    refine S_getV (n := 2) (C := RX11) (T := TX11) (N := 13) hx hb hg iX11 hown hK hW kd_0 rfl 0 (lt_b rfl) (hg (Cond.fieldLink RX11 10 "SlabWalk" "paving" "LSlabWalk$Paving;") m570) (fun _ h9 => h9) rfl (((hq_2.r9 0 0 rfl rfl)).trans (hv_0_0)) dX11_heelsNear_14 ?_
    refine lv_aload_n hx hb dX11_heelsNear_17 rfl (lv_at hl 2 rfl) ?_
    refine S_getR (n := 31) (C := RX11) (T := TX11) (N := 13) hx hb hg iX11 hown hK hW kd_0 rfl 9 (lt_b rfl) (hg (Cond.fieldLink RX11 72 "SlabWalk" "sights" "LSlabWalk$Sights;") m579) (fun _ h9 => h9) rfl dX11_heelsNear_18 ?_
    refine S_getR (n := 61) (C := RX8) (T := TX8) (N := 7) hx hb hg iX8 hown hK hW kd_31 rfl 0 (lt_b rfl) (hg (Cond.fieldLink RX11 365 "SlabWalk$Sights" "walker" "[I") m521) (fun _ h9 => h9) rfl dX11_heelsNear_21 ?_
    refine lv_iload_n hx hb dX11_heelsNear_24 rfl (lv_at hl 3 rfl) ?_
    refine S_iald hx hb hK hW kd_61 (vin ((by first | (clear ha_p2 hn_11 f_10 c_12; omega) | omega)) ((by first | (clear ha_p2 hn_11 f_10 c_12; omega) | omega))) dX11_heelsNear_25 (fun y_13 ey_13 => ?_)
    refine lv_aload_n hx hb dX11_heelsNear_26 rfl (lv_at hl 2 rfl) ?_
    refine S_getR (n := 31) (C := RX11) (T := TX11) (N := 13) hx hb hg iX11 hown hK hW kd_0 rfl 9 (lt_b rfl) (hg (Cond.fieldLink RX11 72 "SlabWalk" "sights" "LSlabWalk$Sights;") m579) (fun _ h9 => h9) rfl dX11_heelsNear_27 ?_
    refine S_getR (n := 62) (C := RX8) (T := TX8) (N := 7) hx hb hg iX8 hown hK hW kd_31 rfl 1 (lt_b rfl) (hg (Cond.fieldLink RX11 362 "SlabWalk$Sights" "street" "[I") m523) (fun _ h9 => h9) rfl dX11_heelsNear_30 ?_
    refine lv_iload_n hx hb dX11_heelsNear_33 rfl (lv_at hl 3 rfl) ?_
    refine S_iald hx hb hK hW kd_62 (vin ((by first | (clear ha_p2 hn_11 f_10 c_12; omega) | omega)) ((by first | (clear ha_p2 hn_11 f_10 c_12; omega) | omega))) dX11_heelsNear_34 (fun y_14 ey_14 => ?_)
    refine lv_aload_n hx hb dX11_heelsNear_35 rfl (lv_at hl 2 rfl) ?_
    refine S_getR (n := 31) (C := RX11) (T := TX11) (N := 13) hx hb hg iX11 hown hK hW kd_0 rfl 9 (lt_b rfl) (hg (Cond.fieldLink RX11 72 "SlabWalk" "sights" "LSlabWalk$Sights;") m579) (fun _ h9 => h9) rfl dX11_heelsNear_36 ?_
    refine S_getR (n := 63) (C := RX8) (T := TX8) (N := 7) hx hb hg iX8 hown hK hW kd_31 rfl 2 (lt_b rfl) (hg (Cond.fieldLink RX11 359 "SlabWalk$Sights" "heel" "[I") m525) (fun _ h9 => h9) rfl dX11_heelsNear_39 ?_
    refine lv_iload_n hx hb dX11_heelsNear_42 rfl (lv_at hl 3 rfl) ?_
    refine S_iald hx hb hK hW kd_63 (vin ((by first | (clear ha_p2 hn_11 f_10 c_12; omega) | omega)) ((by first | (clear ha_p2 hn_11 f_10 c_12; omega) | omega))) dX11_heelsNear_43 (fun y_15 ey_15 => ?_)
    refine lv_iload hx hb dX11_heelsNear_44 (lv_at hl 0 rfl) ?_
    refine lv_iadd hx hb dX11_heelsNear_46 ?_
    refine lv_topi (fun y_16 ey_16 => ?_)
    have b_17 : 0 ≤ (G.1 2 10).toInt ∧ (G.1 2 10).toInt ≤ 4 := bd_2_10 hB_G
    have g_18 : (G_1.1 2 10).toInt = (G.1 2 10).toInt := (congrArg Int32.toInt (show G_1.1 2 10 = (G.1 2 10) from (hq_2.i9 2 10 rfl rfl)))
    refine S_calli (va_runV (As := [.int y_13, .int y_14, .int y_16]) (rest := []) ⟨hx, hb, hml, hown, hts⟩ (k_stands_2 l D k A a z G_1 y_13 y_14 y_16 ) (cwV 3 hts (gd_V hgd m1121 m966 m967 m118 m968) rfl rfl rfl hd_X6_stands ⟨Nat.le_of_ble_eq_true rfl, Nat.le_of_ble_eq_true rfl⟩) (pre_W hW hB_G_1 hK hZ hS kd_2 rfl) rfl rfl hl.1 rfl (lv_room (Nat.le_of_ble_eq_true rfl)) dX11_heelsNear_47 ⟨Nat.le_of_ble_eq_true rfl, Nat.le_of_ble_eq_true rfl⟩) hS (fun r_19 G_20 H locs hpo hW hS => ?_)
    have hX_23 : P_stands_2 y_13 y_14 y_16 G_1 r_19 G_20 := hpo
    obtain ⟨hB_G_20, hq_21, f_24, hp_22, -⟩ := hpo
    have hF := hF.call9 hq_21 rfl rfl
    refine lv_if_eq (tgt := 71) hx hb dX11_heelsNear_50 rfl (fun c_25 => ?_) (fun c_25 => ?_)
    · have c_25 : r_19.toInt = 0 := xI_eq rfl rfl c_25
      obtain ⟨y_26, ey_26⟩ : ∃ q, q = x_5 + 1 := ⟨_, rfl⟩
      have ty_26 : y_26.toInt = x_5.toInt + 1 := xI_add rfl rfl ey_26 ((by first | (clear ha_p0 ha_p2 hn_11 b_17 g_18 f_24 hp_22 c_25; omega) | omega)) ((by first | (clear ha_p0 ha_p2 hn_11 b_17 g_18 f_24 hp_22 c_25; omega) | omega))
      refine lv_iinc (v := y_26) (lv' := [(5, .int y_26), (4, .int x_6), (0, .ref (a 0)), (1, .int p0), (2, .int p1), (3, .int p2)]) hx hb dX11_heelsNear_71 hl (k := 0) rfl (by rw [ey_26]; rfl) (lt_b rfl) rfl (fun ls hl => ?_)
      refine lv_goto (tgt := 7) hx hb dX11_heelsNear_74 rfl ?_
      exact ih_3 (4 - y_26.toInt : Int).toNat ((by first | (clear ha_p0 ha_p2 b_17 g_18 f_24 hp_22 c_25; omega) | omega)) _ _ _ ⟨G_20, y_26, x_6, (Int.toNat_of_nonneg ((by first | (clear ha_p0 ha_p2 hn_11 b_17 g_18 f_24 hp_22 c_25; omega) | omega))), ⟨(by first | (clear ha_p0 ha_p2 hn_11 b_17 g_18 f_24 hp_22 c_25; omega) | omega), (by first | (clear ha_p0 ha_p2 hn_11 b_17 g_18 f_24 hp_22 c_25; omega) | omega)⟩, (hX_7.st (St_k_wNear_2_1_mk ⟨x_5, x_6, G_1, y_26, x_6, G_20, rfl, rfl, f_10, hB_G_1, ⟨c_12, ⟨y_13, ey_13, ⟨y_14, ey_14, ⟨y_15, ey_15, ⟨y_16, ey_16, ⟨r_19, G_20, hX_23, (Or.inl ⟨c_25, ⟨y_26, ty_26, ⟨rfl, rfl, rfl⟩⟩⟩)⟩⟩⟩⟩⟩⟩⟩)), hW, hB_G_20, hF, (Fr.call9 (rs := [37, 38, 39]) (fs := [(6, 3)]) (Fr.call9 (rs := [37, 38, 39]) (fs := [(6, 3)]) Fr.rf hq_2 rfl rfl) hq_21 rfl rfl), hS, lv_sub hl [0, 1, 2, 3, 4, 5] rfl⟩
    · have c_25 : r_19.toInt ≠ 0 := xI_ne rfl rfl c_25
      refine lv_iload_n hx hb dX11_heelsNear_53 rfl (lv_at hl 5 rfl) ?_
      refine lv_if_eq (tgt := 68) hx hb dX11_heelsNear_54 rfl (fun c_27 => ?_) (fun c_27 => ?_)
      · have c_27 : p2.toInt = 0 := xI_eq rfl rfl c_27
        obtain ⟨y_28, ey_28⟩ : ∃ q, q = x_6 + 1 := ⟨_, rfl⟩
        refine lv_iinc (v := y_28) (lv' := [(4, .int y_28), (5, .int x_5), (0, .ref (a 0)), (1, .int p0), (2, .int p1), (3, .int p2)]) hx hb dX11_heelsNear_68 hl (k := 1) rfl (by rw [ey_28]; rfl) (lt_b rfl) rfl (fun ls hl => ?_)
        obtain ⟨y_29, ey_29⟩ : ∃ q, q = x_5 + 1 := ⟨_, rfl⟩
        have ty_29 : y_29.toInt = x_5.toInt + 1 := xI_add rfl rfl ey_29 ((by first | (clear ha_p0 ha_p2 hn_11 b_17 g_18 f_24 hp_22 c_25 c_27; omega) | omega)) ((by first | (clear ha_p0 ha_p2 hn_11 b_17 g_18 f_24 hp_22 c_25 c_27; omega) | omega))
        refine lv_iinc (v := y_29) (lv' := [(5, .int y_29), (4, .int y_28), (0, .ref (a 0)), (1, .int p0), (2, .int p1), (3, .int p2)]) hx hb dX11_heelsNear_71 hl (k := 1) rfl (by rw [ey_29]; rfl) (lt_b rfl) rfl (fun ls hl => ?_)
        refine lv_goto (tgt := 7) hx hb dX11_heelsNear_74 rfl ?_
        exact ih_3 (4 - y_29.toInt : Int).toNat ((by first | (clear ha_p0 ha_p2 b_17 g_18 f_24 hp_22 c_25 c_27; omega) | omega)) _ _ _ ⟨G_20, y_29, y_28, (Int.toNat_of_nonneg ((by first | (clear ha_p0 ha_p2 hn_11 b_17 g_18 f_24 hp_22 c_25 c_27; omega) | omega))), ⟨(by first | (clear ha_p0 ha_p2 hn_11 b_17 g_18 f_24 hp_22 c_25 c_27; omega) | omega), (by first | (clear ha_p0 ha_p2 hn_11 b_17 g_18 f_24 hp_22 c_25 c_27; omega) | omega)⟩, (hX_7.st (St_k_wNear_2_1_mk ⟨x_5, x_6, G_1, y_29, y_28, G_20, rfl, rfl, f_10, hB_G_1, ⟨c_12, ⟨y_13, ey_13, ⟨y_14, ey_14, ⟨y_15, ey_15, ⟨y_16, ey_16, ⟨r_19, G_20, hX_23, (Or.inr ⟨c_25, (Or.inl ⟨c_27, ⟨y_28, ey_28, ⟨y_29, ty_29, ⟨rfl, rfl, rfl⟩⟩⟩⟩)⟩)⟩⟩⟩⟩⟩⟩⟩)), hW, hB_G_20, hF, (Fr.call9 (rs := [37, 38, 39]) (fs := [(6, 3)]) (Fr.call9 (rs := [37, 38, 39]) (fs := [(6, 3)]) Fr.rf hq_2 rfl rfl) hq_21 rfl rfl), hS, lv_sub hl [0, 1, 2, 3, 4, 5] rfl⟩
      · have c_27 : p2.toInt ≠ 0 := xI_ne rfl rfl c_27
        refine lv_aload_n hx hb dX11_heelsNear_57 rfl (lv_at hl 2 rfl) ?_
        refine lv_iload_n hx hb dX11_heelsNear_58 rfl (lv_at hl 3 rfl) ?_
        refine lv_iload_n hx hb dX11_heelsNear_59 rfl (lv_at hl 4 rfl) ?_
        refine lv_iload hx hb dX11_heelsNear_60 (lv_at hl 0 rfl) ?_
        refine S_calli (va_runV (As := [.int p0, .int p1, .int x_5]) (rest := []) ⟨hx, hb, hml, hown, hts⟩ (k_wLSight_2 l D k A a z G_20 p0 p1 x_5 ⟨(by first | (clear ha_p2 hn_11 f_10 c_12 b_17 g_18 f_24 hp_22 c_25 c_27; omega) | omega), (by first | (clear ha_p2 hn_11 f_10 c_12 b_17 g_18 f_24 hp_22 c_25 c_27; omega) | omega)⟩ ⟨(by first | (clear ha_p0 ha_p2 hn_11 b_17 g_18 f_24 hp_22 c_25 c_27; omega) | omega), (by first | (clear ha_p0 ha_p2 hn_11 b_17 g_18 f_24 hp_22 c_25 c_27; omega) | omega)⟩ ((((hq_21.r9 0 0 rfl rfl).trans (hq_2.r9 0 0 rfl rfl))).trans (hv_0_0)) ((((hq_21.r9 0 1 rfl rfl).trans (hq_2.r9 0 1 rfl rfl))).trans (hv_0_1)) ((((hq_21.r9 6 4 rfl rfl).trans (hq_2.r9 6 4 rfl rfl))).trans (hv_6_4))) (cwV 3 hts (gd_V hgd m1275 m1277 m46 m117 m1278) rfl rfl rfl hd_X11_isLawfulSight ⟨Nat.le_of_ble_eq_true rfl, Nat.le_of_ble_eq_true rfl⟩) (pre_W hW hB_G_20 hK hZ hS kd_0 rfl) rfl rfl hl.1 rfl (lv_room (Nat.le_of_ble_eq_true rfl)) dX11_heelsNear_62 ⟨Nat.le_of_ble_eq_true rfl, Nat.le_of_ble_eq_true rfl⟩) hS (fun r_30 G_31 H locs hpo hW hS => ?_)
        have hX_34 : P_wLSight_2 p0 p1 x_5 G_20 r_30 G_31 := hpo
        obtain ⟨hB_G_31, hq_32, f_35, -⟩ := hpo
        have hF := hF.call9 hq_32 rfl rfl
        refine lv_if_eq (tgt := 71) hx hb dX11_heelsNear_65 rfl (fun c_36 => ?_) (fun c_36 => ?_)
        · have c_36 : r_30.toInt = 0 := xI_eq rfl rfl c_36
          obtain ⟨y_37, ey_37⟩ : ∃ q, q = x_5 + 1 := ⟨_, rfl⟩
          have ty_37 : y_37.toInt = x_5.toInt + 1 := xI_add rfl rfl ey_37 ((by first | (clear ha_p0 ha_p2 hn_11 b_17 g_18 f_24 hp_22 c_25 c_27 f_35 c_36; omega) | omega)) ((by first | (clear ha_p0 ha_p2 hn_11 b_17 g_18 f_24 hp_22 c_25 c_27 f_35 c_36; omega) | omega))
          refine lv_iinc (v := y_37) (lv' := [(5, .int y_37), (4, .int x_6), (0, .ref (a 0)), (1, .int p0), (2, .int p1), (3, .int p2)]) hx hb dX11_heelsNear_71 hl (k := 0) rfl (by rw [ey_37]; rfl) (lt_b rfl) rfl (fun ls hl => ?_)
          refine lv_goto (tgt := 7) hx hb dX11_heelsNear_74 rfl ?_
          exact ih_3 (4 - y_37.toInt : Int).toNat ((by first | (clear ha_p0 ha_p2 b_17 g_18 f_24 hp_22 c_25 c_27 f_35 c_36; omega) | omega)) _ _ _ ⟨G_31, y_37, x_6, (Int.toNat_of_nonneg ((by first | (clear ha_p0 ha_p2 hn_11 b_17 g_18 f_24 hp_22 c_25 c_27 f_35 c_36; omega) | omega))), ⟨(by first | (clear ha_p0 ha_p2 hn_11 b_17 g_18 f_24 hp_22 c_25 c_27 f_35 c_36; omega) | omega), (by first | (clear ha_p0 ha_p2 hn_11 b_17 g_18 f_24 hp_22 c_25 c_27 f_35 c_36; omega) | omega)⟩, (hX_7.st (St_k_wNear_2_1_mk ⟨x_5, x_6, G_1, y_37, x_6, G_31, rfl, rfl, f_10, hB_G_1, ⟨c_12, ⟨y_13, ey_13, ⟨y_14, ey_14, ⟨y_15, ey_15, ⟨y_16, ey_16, ⟨r_19, G_20, hX_23, (Or.inr ⟨c_25, (Or.inr ⟨c_27, ⟨r_30, G_31, hX_34, (Or.inl ⟨c_36, ⟨y_37, ty_37, ⟨rfl, rfl, rfl⟩⟩⟩)⟩⟩)⟩)⟩⟩⟩⟩⟩⟩⟩)), hW, hB_G_31, hF, (Fr.call9 (rs := [37, 38, 39]) (fs := [(6, 3)]) (Fr.call9 (rs := [37, 38, 39]) (fs := [(6, 3)]) (Fr.call9 (rs := [37, 38, 39]) (fs := [(6, 3)]) Fr.rf hq_2 rfl rfl) hq_21 rfl rfl) hq_32 rfl rfl), hS, lv_sub hl [0, 1, 2, 3, 4, 5] rfl⟩
        · have c_36 : r_30.toInt ≠ 0 := xI_ne rfl rfl c_36
          obtain ⟨y_38, ey_38⟩ : ∃ q, q = x_6 + 1 := ⟨_, rfl⟩
          refine lv_iinc (v := y_38) (lv' := [(4, .int y_38), (5, .int x_5), (0, .ref (a 0)), (1, .int p0), (2, .int p1), (3, .int p2)]) hx hb dX11_heelsNear_68 hl (k := 1) rfl (by rw [ey_38]; rfl) (lt_b rfl) rfl (fun ls hl => ?_)
          obtain ⟨y_39, ey_39⟩ : ∃ q, q = x_5 + 1 := ⟨_, rfl⟩
          have ty_39 : y_39.toInt = x_5.toInt + 1 := xI_add rfl rfl ey_39 ((by first | (clear ha_p0 ha_p2 hn_11 b_17 g_18 f_24 hp_22 c_25 c_27 f_35 c_36; omega) | omega)) ((by first | (clear ha_p0 ha_p2 hn_11 b_17 g_18 f_24 hp_22 c_25 c_27 f_35 c_36; omega) | omega))
          refine lv_iinc (v := y_39) (lv' := [(5, .int y_39), (4, .int y_38), (0, .ref (a 0)), (1, .int p0), (2, .int p1), (3, .int p2)]) hx hb dX11_heelsNear_71 hl (k := 1) rfl (by rw [ey_39]; rfl) (lt_b rfl) rfl (fun ls hl => ?_)
          refine lv_goto (tgt := 7) hx hb dX11_heelsNear_74 rfl ?_
          exact ih_3 (4 - y_39.toInt : Int).toNat ((by first | (clear ha_p0 ha_p2 b_17 g_18 f_24 hp_22 c_25 c_27 f_35 c_36; omega) | omega)) _ _ _ ⟨G_31, y_39, y_38, (Int.toNat_of_nonneg ((by first | (clear ha_p0 ha_p2 hn_11 b_17 g_18 f_24 hp_22 c_25 c_27 f_35 c_36; omega) | omega))), ⟨(by first | (clear ha_p0 ha_p2 hn_11 b_17 g_18 f_24 hp_22 c_25 c_27 f_35 c_36; omega) | omega), (by first | (clear ha_p0 ha_p2 hn_11 b_17 g_18 f_24 hp_22 c_25 c_27 f_35 c_36; omega) | omega)⟩, (hX_7.st (St_k_wNear_2_1_mk ⟨x_5, x_6, G_1, y_39, y_38, G_31, rfl, rfl, f_10, hB_G_1, ⟨c_12, ⟨y_13, ey_13, ⟨y_14, ey_14, ⟨y_15, ey_15, ⟨y_16, ey_16, ⟨r_19, G_20, hX_23, (Or.inr ⟨c_25, (Or.inr ⟨c_27, ⟨r_30, G_31, hX_34, (Or.inr ⟨c_36, ⟨y_38, ey_38, ⟨y_39, ty_39, ⟨rfl, rfl, rfl⟩⟩⟩⟩)⟩⟩)⟩)⟩⟩⟩⟩⟩⟩⟩)), hW, hB_G_31, hF, (Fr.call9 (rs := [37, 38, 39]) (fs := [(6, 3)]) (Fr.call9 (rs := [37, 38, 39]) (fs := [(6, 3)]) (Fr.call9 (rs := [37, 38, 39]) (fs := [(6, 3)]) Fr.rf hq_2 rfl rfl) hq_21 rfl rfl) hq_32 rfl rfl), hS, lv_sub hl [0, 1, 2, 3, 4, 5] rfl⟩
