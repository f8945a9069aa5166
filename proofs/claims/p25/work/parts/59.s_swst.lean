theorem m2 : Cond.selects RX11 yX11_putOnTape yX11_putOnTape ∈ gd := gds_1 2 rfl
theorem m271 : Cond.fieldLink RX11 102 "SlabWalk$Tokens" "fault" "I" ∈ gd := gdc_1_9 11 rfl gw_fieldLink
theorem m273 : Cond.fieldLink RX11 107 "SlabWalk$Tokens" "faultPlace" "I" ∈ gd := gdc_1_9 13 rfl gw_fieldLink
theorem m312 : Cond.fieldLink RX11 98 "SlabWalk$Reader" "tokens" "LSlabWalk$Tokens;" ∈ gd := gdc_1_12 4 rfl gw_fieldLink
theorem m531 : Cond.fieldLink RX11 278 "SlabWalk$Sights" "time" "I" ∈ gd := gdc_2_10 15 rfl gw_fieldLink
theorem m573 : Cond.fieldLink RX11 28 "SlabWalk" "reader" "LSlabWalk$Reader;" ∈ gd := gdc_2_13 9 rfl gw_fieldLink
theorem m614 : Cond.methodLink RX11 87 yX11_putOnTape ∈ gd := gdc_3_1 2 rfl gw_methodLink
theorem m616 : Cond.instanceMethod yX11_putOnTape ∈ gd := gdc_3_1 4 rfl gw_instanceMethod
theorem m617 : Cond.code yX11_putOnTape cX11_putOnTape 3 none ∈ gd := gdc_3_1 5 rfl gw_code
theorem m1018 : Cond.constantLong RX11 165 (-1) ∈ gd := gdc_4_11 6 rfl gw_constantLong
theorem m1069 : Cond.methodLink RX11 194 yX11_isEndless ∈ gd := gdc_4_14 9 rfl gw_methodLink
theorem m1070 : Cond.static yX11_isEndless ∈ gd := gdc_4_14 10 rfl gw_static
theorem m1071 : Cond.code yX11_isEndless cX11_isEndless 3 (some .boolean) ∈ gd := gdc_4_14 11 rfl gw_code
theorem m1076 : Cond.methodLink RX11 197 yX11_beginnings ∈ gd := gdc_5_0 0 rfl gw_methodLink
theorem m1077 : Cond.static yX11_beginnings ∈ gd := gdc_5_0 1 rfl gw_static
theorem m1078 : Cond.code yX11_beginnings cX11_beginnings 6 (some .int) ∈ gd := gdc_5_0 2 rfl gw_code
theorem m1079 : Cond.methodLink RX11 295 yX11_commonDivisor ∈ gd := gdc_5_0 3 rfl gw_methodLink
theorem m1080 : Cond.static yX11_commonDivisor ∈ gd := gdc_5_0 4 rfl gw_static
theorem m1081 : Cond.code yX11_commonDivisor cX11_commonDivisor 7 (some .long) ∈ gd := gdc_5_0 5 rfl gw_code
theorem m1082 : Cond.methodLink RX11 368 Lib.Math.max.name ∈ gd := gdc_5_0 6 rfl gw_methodLink
theorem m1178 : Cond.methodLink RX11 249 yX1_keepAct ∈ gd := gdc_5_6 6 rfl gw_methodLink
theorem m1179 : Cond.instanceMethod yX1_keepAct ∈ gd := gdc_5_6 7 rfl gw_instanceMethod
theorem m1180 : Cond.selects RX1 yX1_keepAct yX1_keepAct ∈ gd := gdc_5_6 8 rfl gw_selects
theorem m1181 : Cond.code yX1_keepAct cX1_keepAct 1 none ∈ gd := gdc_5_6 9 rfl gw_code
theorem m1222 : Cond.methodLink RX11 265 yX1_takeBack ∈ gd := gdc_5_9 2 rfl gw_methodLink
theorem m1223 : Cond.instanceMethod yX1_takeBack ∈ gd := gdc_5_9 3 rfl gw_instanceMethod
theorem m1224 : Cond.selects RX1 yX1_takeBack yX1_takeBack ∈ gd := gdc_5_9 4 rfl gw_selects
theorem m1225 : Cond.code yX1_takeBack cX1_takeBack 1 (some .boolean) ∈ gd := gdc_5_9 5 rfl gw_code
theorem m1230 : Cond.methodLink RX11 268 yX1_doAgain ∈ gd := gdc_5_9 10 rfl gw_methodLink
theorem m1231 : Cond.instanceMethod yX1_doAgain ∈ gd := gdc_5_9 11 rfl gw_instanceMethod
theorem m1232 : Cond.selects RX1 yX1_doAgain yX1_doAgain ∈ gd := gdc_5_9 12 rfl gw_selects
theorem m1233 : Cond.code yX1_doAgain cX1_doAgain 1 (some .boolean) ∈ gd := gdc_5_9 13 rfl gw_code
theorem m1254 : Cond.methodLink RX11 275 yX8_takeFrom ∈ gd := gdc_5_11 2 rfl gw_methodLink
theorem m1255 : Cond.instanceMethod yX8_takeFrom ∈ gd := gdc_5_11 3 rfl gw_instanceMethod
theorem m1256 : Cond.selects RX8 yX8_takeFrom yX8_takeFrom ∈ gd := gdc_5_11 4 rfl gw_selects
theorem m1257 : Cond.code yX8_takeFrom cX8_takeFrom 2 (some .boolean) ∈ gd := gdc_5_11 5 rfl gw_code
theorem m1262 : Cond.constant RX11 281 100000 ∈ gd := gdc_5_11 10 rfl gw_constant
theorem m1291 : Cond.methodLink RX11 299 yX1_keepIn ∈ gd := gdc_5_13 7 rfl gw_methodLink
theorem m1292 : Cond.instanceMethod yX1_keepIn ∈ gd := gdc_5_13 8 rfl gw_instanceMethod
theorem m1293 : Cond.selects RX1 yX1_keepIn yX1_keepIn ∈ gd := gdc_5_13 9 rfl gw_selects
theorem m1294 : Cond.code yX1_keepIn cX1_keepIn 2 (some .boolean) ∈ gd := gdc_5_13 10 rfl gw_code
theorem m1299 : Cond.methodLink RX11 302 yX1_bringFrom ∈ gd := gdc_5_13 15 rfl gw_methodLink
theorem m1300 : Cond.instanceMethod yX1_bringFrom ∈ gd := gdc_5_14 0 rfl gw_instanceMethod
theorem m1301 : Cond.selects RX1 yX1_bringFrom yX1_bringFrom ∈ gd := gdc_5_14 1 rfl gw_selects
theorem m1302 : Cond.code yX1_bringFrom cX1_bringFrom 2 (some .boolean) ∈ gd := gdc_5_14 2 rfl gw_code
noncomputable def rbX11_back_0 : List (Nat × List Nat) := [(0, [42]), (1, [180, 0, 65]), (4, [27]), (5, [182, 1, 46]), (8, [153, 0, 10]), (11, [42]), (12, [182, 0, 131]), (15, [167, 0, 4]), (18, [2]), (19, [172])]
theorem rcX11_back_0 : dgo (lb cX11_back) 0 rbX11_back_0 = true := by decide +kernel
theorem dX11_back_0 : decode cX11_back 0 = .ok (.aload_n 0, 1) := dk_42 (dw rcX11_back_0 0 rfl)
theorem dX11_back_1 : decode cX11_back 1 = .ok (.getfield 65, 3) := dk_180 (dw rcX11_back_0 1 rfl) rfl
theorem dX11_back_4 : decode cX11_back 4 = .ok (.iload_n 1, 1) := dk_27 (dw rcX11_back_0 2 rfl)
theorem dX11_back_5 : decode cX11_back 5 = .ok (.invokevirtual 302, 3) := dk_182 (dw rcX11_back_0 3 rfl) rfl
theorem dX11_back_8 : decode cX11_back 8 = .ok (.ifCond .eq 10, 3) := dk_153 (dw rcX11_back_0 4 rfl) rfl
theorem dX11_back_11 : decode cX11_back 11 = .ok (.aload_n 0, 1) := dk_42 (dw rcX11_back_0 5 rfl)
theorem dX11_back_12 : decode cX11_back 12 = .ok (.invokevirtual 131, 3) := dk_182 (dw rcX11_back_0 6 rfl) rfl
theorem dX11_back_15 : decode cX11_back 15 = .ok (.goto 4, 3) := dk_167 (dw rcX11_back_0 7 rfl) rfl
theorem dX11_back_18 : decode cX11_back 18 = .ok (.iconst (-1), 1) := dk_2 (dw rcX11_back_0 8 rfl)
theorem dX11_back_19 : decode cX11_back 19 = .ok (.ireturn, 1) := dk_172 (dw rcX11_back_0 9 rfl)
noncomputable def rbX11_begin_0 : List (Nat × List Nat) := [(0, [27]), (1, [28]), (2, [29]), (3, [184, 0, 194]), (6, [153, 0, 16]), (9, [21, 4]), (11, [4]), (12, [161, 0, 10]), (15, [21, 4]), (17, [16, 99]), (19, [164, 0, 5]), (22, [2]), (23, [172]), (24, [27]), (25, [28]), (26, [29]), (27, [21, 4]), (29, [184, 0, 197]), (32, [172])]
theorem rcX11_begin_0 : dgo (lb cX11_begin) 0 rbX11_begin_0 = true := by decide +kernel
theorem dX11_begin_0 : decode cX11_begin 0 = .ok (.iload_n 1, 1) := dk_27 (dw rcX11_begin_0 0 rfl)
theorem dX11_begin_1 : decode cX11_begin 1 = .ok (.iload_n 2, 1) := dk_28 (dw rcX11_begin_0 1 rfl)
theorem dX11_begin_2 : decode cX11_begin 2 = .ok (.iload_n 3, 1) := dk_29 (dw rcX11_begin_0 2 rfl)
theorem dX11_begin_3 : decode cX11_begin 3 = .ok (.invokestatic 194, 3) := dk_184 (dw rcX11_begin_0 3 rfl) rfl
theorem dX11_begin_6 : decode cX11_begin 6 = .ok (.ifCond .eq 16, 3) := dk_153 (dw rcX11_begin_0 4 rfl) rfl
theorem dX11_begin_9 : decode cX11_begin 9 = .ok (.iload 4, 2) := dk_21 (dw rcX11_begin_0 5 rfl)
theorem dX11_begin_11 : decode cX11_begin 11 = .ok (.iconst 1, 1) := dk_4 (dw rcX11_begin_0 6 rfl)
theorem dX11_begin_12 : decode cX11_begin 12 = .ok (.if_icmp .lt 10, 3) := dk_161 (dw rcX11_begin_0 7 rfl) rfl
theorem dX11_begin_15 : decode cX11_begin 15 = .ok (.iload 4, 2) := dk_21 (dw rcX11_begin_0 8 rfl)
theorem dX11_begin_17 : decode cX11_begin 17 = .ok (.bipush 99, 2) := dk_16 (dw rcX11_begin_0 9 rfl) rfl
theorem dX11_begin_19 : decode cX11_begin 19 = .ok (.if_icmp .le 5, 3) := dk_164 (dw rcX11_begin_0 10 rfl) rfl
theorem dX11_begin_22 : decode cX11_begin 22 = .ok (.iconst (-1), 1) := dk_2 (dw rcX11_begin_0 11 rfl)
theorem dX11_begin_23 : decode cX11_begin 23 = .ok (.ireturn, 1) := dk_172 (dw rcX11_begin_0 12 rfl)
theorem dX11_begin_24 : decode cX11_begin 24 = .ok (.iload_n 1, 1) := dk_27 (dw rcX11_begin_0 13 rfl)
theorem dX11_begin_25 : decode cX11_begin 25 = .ok (.iload_n 2, 1) := dk_28 (dw rcX11_begin_0 14 rfl)
theorem dX11_begin_26 : decode cX11_begin 26 = .ok (.iload_n 3, 1) := dk_29 (dw rcX11_begin_0 15 rfl)
theorem dX11_begin_27 : decode cX11_begin 27 = .ok (.iload 4, 2) := dk_21 (dw rcX11_begin_0 16 rfl)
theorem dX11_begin_29 : decode cX11_begin 29 = .ok (.invokestatic 197, 3) := dk_184 (dw rcX11_begin_0 17 rfl) rfl
theorem dX11_begin_32 : decode cX11_begin 32 = .ok (.ireturn, 1) := dk_172 (dw rcX11_begin_0 18 rfl)
noncomputable def rbX11_beginnings_0 : List (Nat × List Nat) := [(0, [26]), (1, [27]), (2, [96]), (3, [54, 4]), (5, [21, 4]), (7, [133]), (8, [29]), (9, [133]), (10, [184, 1, 39]), (13, [136]), (14, [54, 5]), (16, [27]), (17, [153, 0, 8]), (20, [21, 5]), (22, [154, 0, 6]), (25, [21, 4]), (27, [172]), (28, [3]), (29, [21, 5]), (31, [27]), (32, [100]), (33, [28]), (34, [100]), (35, [4])]
theorem rcX11_beginnings_0 : dgo (lb cX11_beginnings) 0 rbX11_beginnings_0 = true := by decide +kernel
theorem dX11_beginnings_0 : decode cX11_beginnings 0 = .ok (.iload_n 0, 1) := dk_26 (dw rcX11_beginnings_0 0 rfl)
theorem dX11_beginnings_1 : decode cX11_beginnings 1 = .ok (.iload_n 1, 1) := dk_27 (dw rcX11_beginnings_0 1 rfl)
theorem dX11_beginnings_2 : decode cX11_beginnings 2 = .ok (.iadd, 1) := dk_96 (dw rcX11_beginnings_0 2 rfl)
theorem dX11_beginnings_3 : decode cX11_beginnings 3 = .ok (.istore 4, 2) := dk_54 (dw rcX11_beginnings_0 3 rfl)
theorem dX11_beginnings_5 : decode cX11_beginnings 5 = .ok (.iload 4, 2) := dk_21 (dw rcX11_beginnings_0 4 rfl)
theorem dX11_beginnings_7 : decode cX11_beginnings 7 = .ok (.i2l, 1) := dk_133 (dw rcX11_beginnings_0 5 rfl)
theorem dX11_beginnings_8 : decode cX11_beginnings 8 = .ok (.iload_n 3, 1) := dk_29 (dw rcX11_beginnings_0 6 rfl)
theorem dX11_beginnings_9 : decode cX11_beginnings 9 = .ok (.i2l, 1) := dk_133 (dw rcX11_beginnings_0 7 rfl)
theorem dX11_beginnings_10 : decode cX11_beginnings 10 = .ok (.invokestatic 295, 3) := dk_184 (dw rcX11_beginnings_0 8 rfl) rfl
theorem dX11_beginnings_13 : decode cX11_beginnings 13 = .ok (.l2i, 1) := dk_136 (dw rcX11_beginnings_0 9 rfl)
theorem dX11_beginnings_14 : decode cX11_beginnings 14 = .ok (.istore 5, 2) := dk_54 (dw rcX11_beginnings_0 10 rfl)
theorem dX11_beginnings_16 : decode cX11_beginnings 16 = .ok (.iload_n 1, 1) := dk_27 (dw rcX11_beginnings_0 11 rfl)
theorem dX11_beginnings_17 : decode cX11_beginnings 17 = .ok (.ifCond .eq 8, 3) := dk_153 (dw rcX11_beginnings_0 12 rfl) rfl
theorem dX11_beginnings_20 : decode cX11_beginnings 20 = .ok (.iload 5, 2) := dk_21 (dw rcX11_beginnings_0 13 rfl)
theorem dX11_beginnings_22 : decode cX11_beginnings 22 = .ok (.ifCond .ne 6, 3) := dk_154 (dw rcX11_beginnings_0 14 rfl) rfl
theorem dX11_beginnings_25 : decode cX11_beginnings 25 = .ok (.iload 4, 2) := dk_21 (dw rcX11_beginnings_0 15 rfl)
theorem dX11_beginnings_27 : decode cX11_beginnings 27 = .ok (.ireturn, 1) := dk_172 (dw rcX11_beginnings_0 16 rfl)
theorem dX11_beginnings_28 : decode cX11_beginnings 28 = .ok (.iconst 0, 1) := dk_3 (dw rcX11_beginnings_0 17 rfl)
theorem dX11_beginnings_29 : decode cX11_beginnings 29 = .ok (.iload 5, 2) := dk_21 (dw rcX11_beginnings_0 18 rfl)
theorem dX11_beginnings_31 : decode cX11_beginnings 31 = .ok (.iload_n 1, 1) := dk_27 (dw rcX11_beginnings_0 19 rfl)
theorem dX11_beginnings_32 : decode cX11_beginnings 32 = .ok (.isub, 1) := dk_100 (dw rcX11_beginnings_0 20 rfl)
theorem dX11_beginnings_33 : decode cX11_beginnings 33 = .ok (.iload_n 2, 1) := dk_28 (dw rcX11_beginnings_0 21 rfl)
theorem dX11_beginnings_34 : decode cX11_beginnings 34 = .ok (.isub, 1) := dk_100 (dw rcX11_beginnings_0 22 rfl)
theorem dX11_beginnings_35 : decode cX11_beginnings 35 = .ok (.iconst 1, 1) := dk_4 (dw rcX11_beginnings_0 23 rfl)
noncomputable def rbX11_beginnings_36 : List (Nat × List Nat) := [(36, [96]), (37, [184, 1, 112]), (40, [21, 4]), (42, [21, 5]), (44, [108]), (45, [104]), (46, [172])]
theorem rcX11_beginnings_36 : dgo (lb cX11_beginnings) 0 rbX11_beginnings_36 = true := by decide +kernel
theorem dX11_beginnings_36 : decode cX11_beginnings 36 = .ok (.iadd, 1) := dk_96 (dw rcX11_beginnings_36 0 rfl)
theorem dX11_beginnings_37 : decode cX11_beginnings 37 = .ok (.invokestatic 368, 3) := dk_184 (dw rcX11_beginnings_36 1 rfl) rfl
theorem dX11_beginnings_40 : decode cX11_beginnings 40 = .ok (.iload 4, 2) := dk_21 (dw rcX11_beginnings_36 2 rfl)
theorem dX11_beginnings_42 : decode cX11_beginnings 42 = .ok (.iload 5, 2) := dk_21 (dw rcX11_beginnings_36 3 rfl)
theorem dX11_beginnings_44 : decode cX11_beginnings 44 = .ok (.idiv, 1) := dk_108 (dw rcX11_beginnings_36 4 rfl)
theorem dX11_beginnings_45 : decode cX11_beginnings 45 = .ok (.imul, 1) := dk_104 (dw rcX11_beginnings_36 5 rfl)
theorem dX11_beginnings_46 : decode cX11_beginnings 46 = .ok (.ireturn, 1) := dk_172 (dw rcX11_beginnings_36 6 rfl)
noncomputable def rbX11_day_0 : List (Nat × List Nat) := [(0, [42]), (1, [182, 0, 131]), (4, [17, 3, 232]), (7, [161, 0, 5]), (10, [2]), (11, [172]), (12, [42]), (13, [180, 0, 65]), (16, [180, 0, 246]), (19, [16, 6]), (21, [92]), (22, [46]), (23, [4]), (24, [96]), (25, [79]), (26, [42]), (27, [180, 0, 65]), (30, [182, 0, 249]), (33, [42]), (34, [182, 0, 131]), (37, [172])]
theorem rcX11_day_0 : dgo (lb cX11_day) 0 rbX11_day_0 = true := by decide +kernel
theorem dX11_day_0 : decode cX11_day 0 = .ok (.aload_n 0, 1) := dk_42 (dw rcX11_day_0 0 rfl)
theorem dX11_day_1 : decode cX11_day 1 = .ok (.invokevirtual 131, 3) := dk_182 (dw rcX11_day_0 1 rfl) rfl
theorem dX11_day_4 : decode cX11_day 4 = .ok (.sipush 1000, 3) := dk_17 (dw rcX11_day_0 2 rfl) rfl
theorem dX11_day_7 : decode cX11_day 7 = .ok (.if_icmp .lt 5, 3) := dk_161 (dw rcX11_day_0 3 rfl) rfl
theorem dX11_day_10 : decode cX11_day 10 = .ok (.iconst (-1), 1) := dk_2 (dw rcX11_day_0 4 rfl)
theorem dX11_day_11 : decode cX11_day 11 = .ok (.ireturn, 1) := dk_172 (dw rcX11_day_0 5 rfl)
theorem dX11_day_12 : decode cX11_day 12 = .ok (.aload_n 0, 1) := dk_42 (dw rcX11_day_0 6 rfl)
theorem dX11_day_13 : decode cX11_day 13 = .ok (.getfield 65, 3) := dk_180 (dw rcX11_day_0 7 rfl) rfl
theorem dX11_day_16 : decode cX11_day 16 = .ok (.getfield 246, 3) := dk_180 (dw rcX11_day_0 8 rfl) rfl
theorem dX11_day_19 : decode cX11_day 19 = .ok (.bipush 6, 2) := dk_16 (dw rcX11_day_0 9 rfl) rfl
theorem dX11_day_21 : decode cX11_day 21 = .ok (.dup2, 1) := dk_92 (dw rcX11_day_0 10 rfl)
theorem dX11_day_22 : decode cX11_day 22 = .ok (.iaload, 1) := dk_46 (dw rcX11_day_0 11 rfl)
theorem dX11_day_23 : decode cX11_day 23 = .ok (.iconst 1, 1) := dk_4 (dw rcX11_day_0 12 rfl)
theorem dX11_day_24 : decode cX11_day 24 = .ok (.iadd, 1) := dk_96 (dw rcX11_day_0 13 rfl)
theorem dX11_day_25 : decode cX11_day 25 = .ok (.iastore, 1) := dk_79 (dw rcX11_day_0 14 rfl)
theorem dX11_day_26 : decode cX11_day 26 = .ok (.aload_n 0, 1) := dk_42 (dw rcX11_day_0 15 rfl)
theorem dX11_day_27 : decode cX11_day 27 = .ok (.getfield 65, 3) := dk_180 (dw rcX11_day_0 16 rfl) rfl
theorem dX11_day_30 : decode cX11_day 30 = .ok (.invokevirtual 249, 3) := dk_182 (dw rcX11_day_0 17 rfl) rfl
theorem dX11_day_33 : decode cX11_day 33 = .ok (.aload_n 0, 1) := dk_42 (dw rcX11_day_0 18 rfl)
theorem dX11_day_34 : decode cX11_day 34 = .ok (.invokevirtual 131, 3) := dk_182 (dw rcX11_day_0 19 rfl) rfl
theorem dX11_day_37 : decode cX11_day 37 = .ok (.ireturn, 1) := dk_172 (dw rcX11_day_0 20 rfl)
noncomputable def rbX11_end_0 : List (Nat × List Nat) := [(0, [27]), (1, [155, 0, 11]), (4, [27]), (5, [42]), (6, [180, 0, 83]), (9, [164, 0, 5]), (12, [2]), (13, [172]), (14, [42]), (15, [27]), (16, [181, 0, 83]), (19, [27]), (20, [172])]
theorem rcX11_end_0 : dgo (lb cX11_end) 0 rbX11_end_0 = true := by decide +kernel
theorem dX11_end_0 : decode cX11_end 0 = .ok (.iload_n 1, 1) := dk_27 (dw rcX11_end_0 0 rfl)
theorem dX11_end_1 : decode cX11_end 1 = .ok (.ifCond .lt 11, 3) := dk_155 (dw rcX11_end_0 1 rfl) rfl
theorem dX11_end_4 : decode cX11_end 4 = .ok (.iload_n 1, 1) := dk_27 (dw rcX11_end_0 2 rfl)
theorem dX11_end_5 : decode cX11_end 5 = .ok (.aload_n 0, 1) := dk_42 (dw rcX11_end_0 3 rfl)
theorem dX11_end_6 : decode cX11_end 6 = .ok (.getfield 83, 3) := dk_180 (dw rcX11_end_0 4 rfl) rfl
theorem dX11_end_9 : decode cX11_end 9 = .ok (.if_icmp .le 5, 3) := dk_164 (dw rcX11_end_0 5 rfl) rfl
theorem dX11_end_12 : decode cX11_end 12 = .ok (.iconst (-1), 1) := dk_2 (dw rcX11_end_0 6 rfl)
theorem dX11_end_13 : decode cX11_end 13 = .ok (.ireturn, 1) := dk_172 (dw rcX11_end_0 7 rfl)
theorem dX11_end_14 : decode cX11_end 14 = .ok (.aload_n 0, 1) := dk_42 (dw rcX11_end_0 8 rfl)
theorem dX11_end_15 : decode cX11_end 15 = .ok (.iload_n 1, 1) := dk_27 (dw rcX11_end_0 9 rfl)
theorem dX11_end_16 : decode cX11_end 16 = .ok (.putfield 83, 3) := dk_181 (dw rcX11_end_0 10 rfl) rfl
theorem dX11_end_19 : decode cX11_end 19 = .ok (.iload_n 1, 1) := dk_27 (dw rcX11_end_0 11 rfl)
theorem dX11_end_20 : decode cX11_end 20 = .ok (.ireturn, 1) := dk_172 (dw rcX11_end_0 12 rfl)
noncomputable def rbX11_fault_0 : List (Nat × List Nat) := [(0, [27]), (1, [154, 0, 16]), (4, [42]), (5, [180, 0, 28]), (8, [180, 0, 98]), (11, [180, 0, 102]), (14, [167, 0, 22]), (17, [27]), (18, [4]), (19, [160, 0, 16]), (22, [42]), (23, [180, 0, 28]), (26, [180, 0, 98]), (29, [180, 0, 107]), (32, [167, 0, 4]), (35, [2]), (36, [172])]
theorem rcX11_fault_0 : dgo (lb cX11_fault) 0 rbX11_fault_0 = true := by decide +kernel
theorem dX11_fault_0 : decode cX11_fault 0 = .ok (.iload_n 1, 1) := dk_27 (dw rcX11_fault_0 0 rfl)
theorem dX11_fault_1 : decode cX11_fault 1 = .ok (.ifCond .ne 16, 3) := dk_154 (dw rcX11_fault_0 1 rfl) rfl
theorem dX11_fault_4 : decode cX11_fault 4 = .ok (.aload_n 0, 1) := dk_42 (dw rcX11_fault_0 2 rfl)
theorem dX11_fault_5 : decode cX11_fault 5 = .ok (.getfield 28, 3) := dk_180 (dw rcX11_fault_0 3 rfl) rfl
theorem dX11_fault_8 : decode cX11_fault 8 = .ok (.getfield 98, 3) := dk_180 (dw rcX11_fault_0 4 rfl) rfl
theorem dX11_fault_11 : decode cX11_fault 11 = .ok (.getfield 102, 3) := dk_180 (dw rcX11_fault_0 5 rfl) rfl
theorem dX11_fault_14 : decode cX11_fault 14 = .ok (.goto 22, 3) := dk_167 (dw rcX11_fault_0 6 rfl) rfl
theorem dX11_fault_17 : decode cX11_fault 17 = .ok (.iload_n 1, 1) := dk_27 (dw rcX11_fault_0 7 rfl)
theorem dX11_fault_18 : decode cX11_fault 18 = .ok (.iconst 1, 1) := dk_4 (dw rcX11_fault_0 8 rfl)
theorem dX11_fault_19 : decode cX11_fault 19 = .ok (.if_icmp .ne 16, 3) := dk_160 (dw rcX11_fault_0 9 rfl) rfl
theorem dX11_fault_22 : decode cX11_fault 22 = .ok (.aload_n 0, 1) := dk_42 (dw rcX11_fault_0 10 rfl)
theorem dX11_fault_23 : decode cX11_fault 23 = .ok (.getfield 28, 3) := dk_180 (dw rcX11_fault_0 11 rfl) rfl
theorem dX11_fault_26 : decode cX11_fault 26 = .ok (.getfield 98, 3) := dk_180 (dw rcX11_fault_0 12 rfl) rfl
theorem dX11_fault_29 : decode cX11_fault 29 = .ok (.getfield 107, 3) := dk_180 (dw rcX11_fault_0 13 rfl) rfl
theorem dX11_fault_32 : decode cX11_fault 32 = .ok (.goto 4, 3) := dk_167 (dw rcX11_fault_0 14 rfl) rfl
theorem dX11_fault_35 : decode cX11_fault 35 = .ok (.iconst (-1), 1) := dk_2 (dw rcX11_fault_0 15 rfl)
theorem dX11_fault_36 : decode cX11_fault 36 = .ok (.ireturn, 1) := dk_172 (dw rcX11_fault_0 16 rfl)
noncomputable def rbX11_feed_0 : List (Nat × List Nat) := [(0, [42]), (1, [180, 0, 83]), (4, [16, 20]), (6, [96]), (7, [17, 6, 64]), (10, [164, 0, 5]), (13, [2]), (14, [172]), (15, [42]), (16, [27]), (17, [182, 0, 87]), (20, [42]), (21, [28]), (22, [182, 0, 87]), (25, [42]), (26, [29]), (27, [182, 0, 87]), (30, [42]), (31, [21, 4]), (33, [182, 0, 87]), (36, [42]), (37, [21, 5]), (39, [182, 0, 87]), (42, [42])]
theorem rcX11_feed_0 : dgo (lb cX11_feed) 0 rbX11_feed_0 = true := by decide +kernel
theorem dX11_feed_0 : decode cX11_feed 0 = .ok (.aload_n 0, 1) := dk_42 (dw rcX11_feed_0 0 rfl)
theorem dX11_feed_1 : decode cX11_feed 1 = .ok (.getfield 83, 3) := dk_180 (dw rcX11_feed_0 1 rfl) rfl
theorem dX11_feed_4 : decode cX11_feed 4 = .ok (.bipush 20, 2) := dk_16 (dw rcX11_feed_0 2 rfl) rfl
theorem dX11_feed_6 : decode cX11_feed 6 = .ok (.iadd, 1) := dk_96 (dw rcX11_feed_0 3 rfl)
theorem dX11_feed_7 : decode cX11_feed 7 = .ok (.sipush 1600, 3) := dk_17 (dw rcX11_feed_0 4 rfl) rfl
theorem dX11_feed_10 : decode cX11_feed 10 = .ok (.if_icmp .le 5, 3) := dk_164 (dw rcX11_feed_0 5 rfl) rfl
theorem dX11_feed_13 : decode cX11_feed 13 = .ok (.iconst (-1), 1) := dk_2 (dw rcX11_feed_0 6 rfl)
theorem dX11_feed_14 : decode cX11_feed 14 = .ok (.ireturn, 1) := dk_172 (dw rcX11_feed_0 7 rfl)
theorem dX11_feed_15 : decode cX11_feed 15 = .ok (.aload_n 0, 1) := dk_42 (dw rcX11_feed_0 8 rfl)
theorem dX11_feed_16 : decode cX11_feed 16 = .ok (.iload_n 1, 1) := dk_27 (dw rcX11_feed_0 9 rfl)
theorem dX11_feed_17 : decode cX11_feed 17 = .ok (.invokevirtual 87, 3) := dk_182 (dw rcX11_feed_0 10 rfl) rfl
theorem dX11_feed_20 : decode cX11_feed 20 = .ok (.aload_n 0, 1) := dk_42 (dw rcX11_feed_0 11 rfl)
theorem dX11_feed_21 : decode cX11_feed 21 = .ok (.iload_n 2, 1) := dk_28 (dw rcX11_feed_0 12 rfl)
theorem dX11_feed_22 : decode cX11_feed 22 = .ok (.invokevirtual 87, 3) := dk_182 (dw rcX11_feed_0 13 rfl) rfl
theorem dX11_feed_25 : decode cX11_feed 25 = .ok (.aload_n 0, 1) := dk_42 (dw rcX11_feed_0 14 rfl)
theorem dX11_feed_26 : decode cX11_feed 26 = .ok (.iload_n 3, 1) := dk_29 (dw rcX11_feed_0 15 rfl)
theorem dX11_feed_27 : decode cX11_feed 27 = .ok (.invokevirtual 87, 3) := dk_182 (dw rcX11_feed_0 16 rfl) rfl
theorem dX11_feed_30 : decode cX11_feed 30 = .ok (.aload_n 0, 1) := dk_42 (dw rcX11_feed_0 17 rfl)
theorem dX11_feed_31 : decode cX11_feed 31 = .ok (.iload 4, 2) := dk_21 (dw rcX11_feed_0 18 rfl)
theorem dX11_feed_33 : decode cX11_feed 33 = .ok (.invokevirtual 87, 3) := dk_182 (dw rcX11_feed_0 19 rfl) rfl
theorem dX11_feed_36 : decode cX11_feed 36 = .ok (.aload_n 0, 1) := dk_42 (dw rcX11_feed_0 20 rfl)
theorem dX11_feed_37 : decode cX11_feed 37 = .ok (.iload 5, 2) := dk_21 (dw rcX11_feed_0 21 rfl)
theorem dX11_feed_39 : decode cX11_feed 39 = .ok (.invokevirtual 87, 3) := dk_182 (dw rcX11_feed_0 22 rfl) rfl
theorem dX11_feed_42 : decode cX11_feed 42 = .ok (.aload_n 0, 1) := dk_42 (dw rcX11_feed_0 23 rfl)
noncomputable def rbX11_feed_43 : List (Nat × List Nat) := [(43, [180, 0, 83]), (46, [172])]
theorem rcX11_feed_43 : dgo (lb cX11_feed) 0 rbX11_feed_43 = true := by decide +kernel
theorem dX11_feed_43 : decode cX11_feed 43 = .ok (.getfield 83, 3) := dk_180 (dw rcX11_feed_43 0 rfl) rfl
theorem dX11_feed_46 : decode cX11_feed 46 = .ok (.ireturn, 1) := dk_172 (dw rcX11_feed_43 1 rfl)
noncomputable def rbX11_first_0 : List (Nat × List Nat) := [(0, [27]), (1, [28]), (2, [29]), (3, [184, 0, 194]), (6, [153, 0, 29]), (9, [21, 4]), (11, [4]), (12, [161, 0, 23]), (15, [21, 4]), (17, [16, 99]), (19, [163, 0, 16]), (22, [21, 5]), (24, [155, 0, 11]), (27, [21, 5]), (29, [27]), (30, [28]), (31, [96]), (32, [161, 0, 6]), (35, [16, 254]), (37, [172]), (38, [27]), (39, [28]), (40, [96]), (41, [54, 6])]
theorem rcX11_first_0 : dgo (lb cX11_first) 0 rbX11_first_0 = true := by decide +kernel
theorem dX11_first_0 : decode cX11_first 0 = .ok (.iload_n 1, 1) := dk_27 (dw rcX11_first_0 0 rfl)
theorem dX11_first_1 : decode cX11_first 1 = .ok (.iload_n 2, 1) := dk_28 (dw rcX11_first_0 1 rfl)
theorem dX11_first_2 : decode cX11_first 2 = .ok (.iload_n 3, 1) := dk_29 (dw rcX11_first_0 2 rfl)
theorem dX11_first_3 : decode cX11_first 3 = .ok (.invokestatic 194, 3) := dk_184 (dw rcX11_first_0 3 rfl) rfl
theorem dX11_first_6 : decode cX11_first 6 = .ok (.ifCond .eq 29, 3) := dk_153 (dw rcX11_first_0 4 rfl) rfl
theorem dX11_first_9 : decode cX11_first 9 = .ok (.iload 4, 2) := dk_21 (dw rcX11_first_0 5 rfl)
theorem dX11_first_11 : decode cX11_first 11 = .ok (.iconst 1, 1) := dk_4 (dw rcX11_first_0 6 rfl)
theorem dX11_first_12 : decode cX11_first 12 = .ok (.if_icmp .lt 23, 3) := dk_161 (dw rcX11_first_0 7 rfl) rfl
theorem dX11_first_15 : decode cX11_first 15 = .ok (.iload 4, 2) := dk_21 (dw rcX11_first_0 8 rfl)
theorem dX11_first_17 : decode cX11_first 17 = .ok (.bipush 99, 2) := dk_16 (dw rcX11_first_0 9 rfl) rfl
theorem dX11_first_19 : decode cX11_first 19 = .ok (.if_icmp .gt 16, 3) := dk_163 (dw rcX11_first_0 10 rfl) rfl
theorem dX11_first_22 : decode cX11_first 22 = .ok (.iload 5, 2) := dk_21 (dw rcX11_first_0 11 rfl)
theorem dX11_first_24 : decode cX11_first 24 = .ok (.ifCond .lt 11, 3) := dk_155 (dw rcX11_first_0 12 rfl) rfl
theorem dX11_first_27 : decode cX11_first 27 = .ok (.iload 5, 2) := dk_21 (dw rcX11_first_0 13 rfl)
theorem dX11_first_29 : decode cX11_first 29 = .ok (.iload_n 1, 1) := dk_27 (dw rcX11_first_0 14 rfl)
theorem dX11_first_30 : decode cX11_first 30 = .ok (.iload_n 2, 1) := dk_28 (dw rcX11_first_0 15 rfl)
theorem dX11_first_31 : decode cX11_first 31 = .ok (.iadd, 1) := dk_96 (dw rcX11_first_0 16 rfl)
theorem dX11_first_32 : decode cX11_first 32 = .ok (.if_icmp .lt 6, 3) := dk_161 (dw rcX11_first_0 17 rfl) rfl
theorem dX11_first_35 : decode cX11_first 35 = .ok (.bipush (-2), 2) := dk_16 (dw rcX11_first_0 18 rfl) rfl
theorem dX11_first_37 : decode cX11_first 37 = .ok (.ireturn, 1) := dk_172 (dw rcX11_first_0 19 rfl)
theorem dX11_first_38 : decode cX11_first 38 = .ok (.iload_n 1, 1) := dk_27 (dw rcX11_first_0 20 rfl)
theorem dX11_first_39 : decode cX11_first 39 = .ok (.iload_n 2, 1) := dk_28 (dw rcX11_first_0 21 rfl)
theorem dX11_first_40 : decode cX11_first 40 = .ok (.iadd, 1) := dk_96 (dw rcX11_first_0 22 rfl)
theorem dX11_first_41 : decode cX11_first 41 = .ok (.istore 6, 2) := dk_54 (dw rcX11_first_0 23 rfl)
noncomputable def rbX11_first_43 : List (Nat × List Nat) := [(43, [21, 5]), (45, [54, 7]), (47, [3]), (48, [54, 8]), (50, [21, 8]), (52, [21, 6]), (54, [162, 0, 34]), (57, [28]), (58, [158, 0, 14]), (61, [21, 7]), (63, [29]), (64, [96]), (65, [27]), (66, [164, 0, 6]), (69, [21, 8]), (71, [172]), (72, [21, 7]), (74, [21, 4]), (76, [96]), (77, [21, 6]), (79, [112]), (80, [54, 7]), (82, [132, 8, 1]), (85, [167, 255, 221])]
theorem rcX11_first_43 : dgo (lb cX11_first) 0 rbX11_first_43 = true := by decide +kernel
theorem dX11_first_43 : decode cX11_first 43 = .ok (.iload 5, 2) := dk_21 (dw rcX11_first_43 0 rfl)
theorem dX11_first_45 : decode cX11_first 45 = .ok (.istore 7, 2) := dk_54 (dw rcX11_first_43 1 rfl)
theorem dX11_first_47 : decode cX11_first 47 = .ok (.iconst 0, 1) := dk_3 (dw rcX11_first_43 2 rfl)
theorem dX11_first_48 : decode cX11_first 48 = .ok (.istore 8, 2) := dk_54 (dw rcX11_first_43 3 rfl)
theorem dX11_first_50 : decode cX11_first 50 = .ok (.iload 8, 2) := dk_21 (dw rcX11_first_43 4 rfl)
theorem dX11_first_52 : decode cX11_first 52 = .ok (.iload 6, 2) := dk_21 (dw rcX11_first_43 5 rfl)
theorem dX11_first_54 : decode cX11_first 54 = .ok (.if_icmp .ge 34, 3) := dk_162 (dw rcX11_first_43 6 rfl) rfl
theorem dX11_first_57 : decode cX11_first 57 = .ok (.iload_n 2, 1) := dk_28 (dw rcX11_first_43 7 rfl)
theorem dX11_first_58 : decode cX11_first 58 = .ok (.ifCond .le 14, 3) := dk_158 (dw rcX11_first_43 8 rfl) rfl
theorem dX11_first_61 : decode cX11_first 61 = .ok (.iload 7, 2) := dk_21 (dw rcX11_first_43 9 rfl)
theorem dX11_first_63 : decode cX11_first 63 = .ok (.iload_n 3, 1) := dk_29 (dw rcX11_first_43 10 rfl)
theorem dX11_first_64 : decode cX11_first 64 = .ok (.iadd, 1) := dk_96 (dw rcX11_first_43 11 rfl)
theorem dX11_first_65 : decode cX11_first 65 = .ok (.iload_n 1, 1) := dk_27 (dw rcX11_first_43 12 rfl)
theorem dX11_first_66 : decode cX11_first 66 = .ok (.if_icmp .le 6, 3) := dk_164 (dw rcX11_first_43 13 rfl) rfl
theorem dX11_first_69 : decode cX11_first 69 = .ok (.iload 8, 2) := dk_21 (dw rcX11_first_43 14 rfl)
theorem dX11_first_71 : decode cX11_first 71 = .ok (.ireturn, 1) := dk_172 (dw rcX11_first_43 15 rfl)
theorem dX11_first_72 : decode cX11_first 72 = .ok (.iload 7, 2) := dk_21 (dw rcX11_first_43 16 rfl)
theorem dX11_first_74 : decode cX11_first 74 = .ok (.iload 4, 2) := dk_21 (dw rcX11_first_43 17 rfl)
theorem dX11_first_76 : decode cX11_first 76 = .ok (.iadd, 1) := dk_96 (dw rcX11_first_43 18 rfl)
theorem dX11_first_77 : decode cX11_first 77 = .ok (.iload 6, 2) := dk_21 (dw rcX11_first_43 19 rfl)
theorem dX11_first_79 : decode cX11_first 79 = .ok (.irem, 1) := dk_112 (dw rcX11_first_43 20 rfl)
theorem dX11_first_80 : decode cX11_first 80 = .ok (.istore 7, 2) := dk_54 (dw rcX11_first_43 21 rfl)
theorem dX11_first_82 : decode cX11_first 82 = .ok (.iinc 8 1, 3) := dk_132 (dw rcX11_first_43 22 rfl) rfl
theorem dX11_first_85 : decode cX11_first 85 = .ok (.goto (-35), 3) := dk_167 (dw rcX11_first_43 23 rfl) rfl
noncomputable def rbX11_first_88 : List (Nat × List Nat) := [(88, [2]), (89, [172])]
theorem rcX11_first_88 : dgo (lb cX11_first) 0 rbX11_first_88 = true := by decide +kernel
theorem dX11_first_88 : decode cX11_first 88 = .ok (.iconst (-1), 1) := dk_2 (dw rcX11_first_88 0 rfl)
theorem dX11_first_89 : decode cX11_first 89 = .ok (.ireturn, 1) := dk_172 (dw rcX11_first_88 1 rfl)
noncomputable def rbX11_image_0 : List (Nat × List Nat) := [(0, [42]), (1, [180, 0, 65]), (4, [27]), (5, [182, 1, 43]), (8, [153, 0, 10]), (11, [42]), (12, [182, 0, 131]), (15, [167, 0, 4]), (18, [2]), (19, [172])]
theorem rcX11_image_0 : dgo (lb cX11_image) 0 rbX11_image_0 = true := by decide +kernel
theorem dX11_image_0 : decode cX11_image 0 = .ok (.aload_n 0, 1) := dk_42 (dw rcX11_image_0 0 rfl)
theorem dX11_image_1 : decode cX11_image 1 = .ok (.getfield 65, 3) := dk_180 (dw rcX11_image_0 1 rfl) rfl
theorem dX11_image_4 : decode cX11_image 4 = .ok (.iload_n 1, 1) := dk_27 (dw rcX11_image_0 2 rfl)
theorem dX11_image_5 : decode cX11_image 5 = .ok (.invokevirtual 299, 3) := dk_182 (dw rcX11_image_0 3 rfl) rfl
theorem dX11_image_8 : decode cX11_image 8 = .ok (.ifCond .eq 10, 3) := dk_153 (dw rcX11_image_0 4 rfl) rfl
theorem dX11_image_11 : decode cX11_image 11 = .ok (.aload_n 0, 1) := dk_42 (dw rcX11_image_0 5 rfl)
theorem dX11_image_12 : decode cX11_image 12 = .ok (.invokevirtual 131, 3) := dk_182 (dw rcX11_image_0 6 rfl) rfl
theorem dX11_image_15 : decode cX11_image 15 = .ok (.goto 4, 3) := dk_167 (dw rcX11_image_0 7 rfl) rfl
theorem dX11_image_18 : decode cX11_image 18 = .ok (.iconst (-1), 1) := dk_2 (dw rcX11_image_0 8 rfl)
theorem dX11_image_19 : decode cX11_image 19 = .ok (.ireturn, 1) := dk_172 (dw rcX11_image_0 9 rfl)
noncomputable def rbX11_isEndless_0 : List (Nat × List Nat) := [(0, [26]), (1, [4]), (2, [161, 0, 34]), (5, [26]), (6, [16, 60]), (8, [163, 0, 28]), (11, [27]), (12, [155, 0, 24]), (15, [27]), (16, [16, 9]), (18, [163, 0, 18]), (21, [28]), (22, [4]), (23, [161, 0, 13]), (26, [28]), (27, [16, 12]), (29, [163, 0, 7]), (32, [4]), (33, [167, 0, 4]), (36, [3]), (37, [172])]
theorem rcX11_isEndless_0 : dgo (lb cX11_isEndless) 0 rbX11_isEndless_0 = true := by decide +kernel
theorem dX11_isEndless_0 : decode cX11_isEndless 0 = .ok (.iload_n 0, 1) := dk_26 (dw rcX11_isEndless_0 0 rfl)
theorem dX11_isEndless_1 : decode cX11_isEndless 1 = .ok (.iconst 1, 1) := dk_4 (dw rcX11_isEndless_0 1 rfl)
theorem dX11_isEndless_2 : decode cX11_isEndless 2 = .ok (.if_icmp .lt 34, 3) := dk_161 (dw rcX11_isEndless_0 2 rfl) rfl
theorem dX11_isEndless_5 : decode cX11_isEndless 5 = .ok (.iload_n 0, 1) := dk_26 (dw rcX11_isEndless_0 3 rfl)
theorem dX11_isEndless_6 : decode cX11_isEndless 6 = .ok (.bipush 60, 2) := dk_16 (dw rcX11_isEndless_0 4 rfl) rfl
theorem dX11_isEndless_8 : decode cX11_isEndless 8 = .ok (.if_icmp .gt 28, 3) := dk_163 (dw rcX11_isEndless_0 5 rfl) rfl
theorem dX11_isEndless_11 : decode cX11_isEndless 11 = .ok (.iload_n 1, 1) := dk_27 (dw rcX11_isEndless_0 6 rfl)
theorem dX11_isEndless_12 : decode cX11_isEndless 12 = .ok (.ifCond .lt 24, 3) := dk_155 (dw rcX11_isEndless_0 7 rfl) rfl
theorem dX11_isEndless_15 : decode cX11_isEndless 15 = .ok (.iload_n 1, 1) := dk_27 (dw rcX11_isEndless_0 8 rfl)
theorem dX11_isEndless_16 : decode cX11_isEndless 16 = .ok (.bipush 9, 2) := dk_16 (dw rcX11_isEndless_0 9 rfl) rfl
theorem dX11_isEndless_18 : decode cX11_isEndless 18 = .ok (.if_icmp .gt 18, 3) := dk_163 (dw rcX11_isEndless_0 10 rfl) rfl
theorem dX11_isEndless_21 : decode cX11_isEndless 21 = .ok (.iload_n 2, 1) := dk_28 (dw rcX11_isEndless_0 11 rfl)
theorem dX11_isEndless_22 : decode cX11_isEndless 22 = .ok (.iconst 1, 1) := dk_4 (dw rcX11_isEndless_0 12 rfl)
theorem dX11_isEndless_23 : decode cX11_isEndless 23 = .ok (.if_icmp .lt 13, 3) := dk_161 (dw rcX11_isEndless_0 13 rfl) rfl
theorem dX11_isEndless_26 : decode cX11_isEndless 26 = .ok (.iload_n 2, 1) := dk_28 (dw rcX11_isEndless_0 14 rfl)
theorem dX11_isEndless_27 : decode cX11_isEndless 27 = .ok (.bipush 12, 2) := dk_16 (dw rcX11_isEndless_0 15 rfl) rfl
theorem dX11_isEndless_29 : decode cX11_isEndless 29 = .ok (.if_icmp .gt 7, 3) := dk_163 (dw rcX11_isEndless_0 16 rfl) rfl
theorem dX11_isEndless_32 : decode cX11_isEndless 32 = .ok (.iconst 1, 1) := dk_4 (dw rcX11_isEndless_0 17 rfl)
theorem dX11_isEndless_33 : decode cX11_isEndless 33 = .ok (.goto 4, 3) := dk_167 (dw rcX11_isEndless_0 18 rfl) rfl
theorem dX11_isEndless_36 : decode cX11_isEndless 36 = .ok (.iconst 0, 1) := dk_3 (dw rcX11_isEndless_0 19 rfl)
theorem dX11_isEndless_37 : decode cX11_isEndless 37 = .ok (.ireturn, 1) := dk_172 (dw rcX11_isEndless_0 20 rfl)
noncomputable def rbX11_later_0 : List (Nat × List Nat) := [(0, [27]), (1, [155, 0, 25]), (4, [27]), (5, [17, 3, 232]), (8, [163, 0, 18]), (11, [42]), (12, [180, 0, 72]), (15, [180, 1, 22]), (18, [27]), (19, [96]), (20, [19, 1, 25]), (23, [164, 0, 5]), (26, [2]), (27, [172]), (28, [42]), (29, [180, 0, 72]), (32, [89]), (33, [180, 1, 22]), (36, [27]), (37, [96]), (38, [181, 1, 22]), (41, [42]), (42, [180, 0, 72]), (45, [180, 1, 22])]
theorem rcX11_later_0 : dgo (lb cX11_later) 0 rbX11_later_0 = true := by decide +kernel
theorem dX11_later_0 : decode cX11_later 0 = .ok (.iload_n 1, 1) := dk_27 (dw rcX11_later_0 0 rfl)
theorem dX11_later_1 : decode cX11_later 1 = .ok (.ifCond .lt 25, 3) := dk_155 (dw rcX11_later_0 1 rfl) rfl
theorem dX11_later_4 : decode cX11_later 4 = .ok (.iload_n 1, 1) := dk_27 (dw rcX11_later_0 2 rfl)
theorem dX11_later_5 : decode cX11_later 5 = .ok (.sipush 1000, 3) := dk_17 (dw rcX11_later_0 3 rfl) rfl
theorem dX11_later_8 : decode cX11_later 8 = .ok (.if_icmp .gt 18, 3) := dk_163 (dw rcX11_later_0 4 rfl) rfl
theorem dX11_later_11 : decode cX11_later 11 = .ok (.aload_n 0, 1) := dk_42 (dw rcX11_later_0 5 rfl)
theorem dX11_later_12 : decode cX11_later 12 = .ok (.getfield 72, 3) := dk_180 (dw rcX11_later_0 6 rfl) rfl
theorem dX11_later_15 : decode cX11_later 15 = .ok (.getfield 278, 3) := dk_180 (dw rcX11_later_0 7 rfl) rfl
theorem dX11_later_18 : decode cX11_later 18 = .ok (.iload_n 1, 1) := dk_27 (dw rcX11_later_0 8 rfl)
theorem dX11_later_19 : decode cX11_later 19 = .ok (.iadd, 1) := dk_96 (dw rcX11_later_0 9 rfl)
theorem dX11_later_20 : decode cX11_later 20 = .ok (.ldc_w 281, 3) := dk_19 (dw rcX11_later_0 10 rfl) rfl
theorem dX11_later_23 : decode cX11_later 23 = .ok (.if_icmp .le 5, 3) := dk_164 (dw rcX11_later_0 11 rfl) rfl
theorem dX11_later_26 : decode cX11_later 26 = .ok (.iconst (-1), 1) := dk_2 (dw rcX11_later_0 12 rfl)
theorem dX11_later_27 : decode cX11_later 27 = .ok (.ireturn, 1) := dk_172 (dw rcX11_later_0 13 rfl)
theorem dX11_later_28 : decode cX11_later 28 = .ok (.aload_n 0, 1) := dk_42 (dw rcX11_later_0 14 rfl)
theorem dX11_later_29 : decode cX11_later 29 = .ok (.getfield 72, 3) := dk_180 (dw rcX11_later_0 15 rfl) rfl
theorem dX11_later_32 : decode cX11_later 32 = .ok (.dup, 1) := dk_89 (dw rcX11_later_0 16 rfl)
theorem dX11_later_33 : decode cX11_later 33 = .ok (.getfield 278, 3) := dk_180 (dw rcX11_later_0 17 rfl) rfl
theorem dX11_later_36 : decode cX11_later 36 = .ok (.iload_n 1, 1) := dk_27 (dw rcX11_later_0 18 rfl)
theorem dX11_later_37 : decode cX11_later 37 = .ok (.iadd, 1) := dk_96 (dw rcX11_later_0 19 rfl)
theorem dX11_later_38 : decode cX11_later 38 = .ok (.putfield 278, 3) := dk_181 (dw rcX11_later_0 20 rfl) rfl
theorem dX11_later_41 : decode cX11_later 41 = .ok (.aload_n 0, 1) := dk_42 (dw rcX11_later_0 21 rfl)
theorem dX11_later_42 : decode cX11_later 42 = .ok (.getfield 72, 3) := dk_180 (dw rcX11_later_0 22 rfl) rfl
theorem dX11_later_45 : decode cX11_later 45 = .ok (.getfield 278, 3) := dk_180 (dw rcX11_later_0 23 rfl) rfl
theorem dX11_later_48 : decode cX11_later 48 = .ok (.ireturn, 1) := dq_of (by decide +kernel)
noncomputable def rbX11_lies_0 : List (Nat × List Nat) := [(0, [27]), (1, [155, 0, 20]), (4, [27]), (5, [42]), (6, [180, 0, 150]), (9, [162, 0, 12]), (12, [42]), (13, [180, 0, 76]), (16, [27]), (17, [46]), (18, [167, 0, 4]), (21, [2]), (22, [172])]
theorem rcX11_lies_0 : dgo (lb cX11_lies) 0 rbX11_lies_0 = true := by decide +kernel
theorem dX11_lies_0 : decode cX11_lies 0 = .ok (.iload_n 1, 1) := dk_27 (dw rcX11_lies_0 0 rfl)
theorem dX11_lies_1 : decode cX11_lies 1 = .ok (.ifCond .lt 20, 3) := dk_155 (dw rcX11_lies_0 1 rfl) rfl
theorem dX11_lies_4 : decode cX11_lies 4 = .ok (.iload_n 1, 1) := dk_27 (dw rcX11_lies_0 2 rfl)
theorem dX11_lies_5 : decode cX11_lies 5 = .ok (.aload_n 0, 1) := dk_42 (dw rcX11_lies_0 3 rfl)
theorem dX11_lies_6 : decode cX11_lies 6 = .ok (.getfield 150, 3) := dk_180 (dw rcX11_lies_0 4 rfl) rfl
theorem dX11_lies_9 : decode cX11_lies 9 = .ok (.if_icmp .ge 12, 3) := dk_162 (dw rcX11_lies_0 5 rfl) rfl
theorem dX11_lies_12 : decode cX11_lies 12 = .ok (.aload_n 0, 1) := dk_42 (dw rcX11_lies_0 6 rfl)
theorem dX11_lies_13 : decode cX11_lies 13 = .ok (.getfield 76, 3) := dk_180 (dw rcX11_lies_0 7 rfl) rfl
theorem dX11_lies_16 : decode cX11_lies 16 = .ok (.iload_n 1, 1) := dk_27 (dw rcX11_lies_0 8 rfl)
theorem dX11_lies_17 : decode cX11_lies 17 = .ok (.iaload, 1) := dk_46 (dw rcX11_lies_0 9 rfl)
theorem dX11_lies_18 : decode cX11_lies 18 = .ok (.goto 4, 3) := dk_167 (dw rcX11_lies_0 10 rfl) rfl
theorem dX11_lies_21 : decode cX11_lies 21 = .ok (.iconst (-1), 1) := dk_2 (dw rcX11_lies_0 11 rfl)
theorem dX11_lies_22 : decode cX11_lies 22 = .ok (.ireturn, 1) := dk_172 (dw rcX11_lies_0 12 rfl)
noncomputable def rbX11_rain_0 : List (Nat × List Nat) := [(0, [42]), (1, [180, 0, 65]), (4, [180, 0, 246]), (7, [16, 9]), (9, [92]), (10, [46]), (11, [4]), (12, [130]), (13, [79]), (14, [42]), (15, [180, 0, 65]), (18, [182, 0, 249]), (21, [42]), (22, [180, 0, 65]), (25, [180, 0, 246]), (28, [16, 9]), (30, [46]), (31, [4]), (32, [160, 0, 7]), (35, [4]), (36, [167, 0, 4]), (39, [3]), (40, [172])]
theorem rcX11_rain_0 : dgo (lb cX11_rain) 0 rbX11_rain_0 = true := by decide +kernel
theorem dX11_rain_0 : decode cX11_rain 0 = .ok (.aload_n 0, 1) := dk_42 (dw rcX11_rain_0 0 rfl)
theorem dX11_rain_1 : decode cX11_rain 1 = .ok (.getfield 65, 3) := dk_180 (dw rcX11_rain_0 1 rfl) rfl
theorem dX11_rain_4 : decode cX11_rain 4 = .ok (.getfield 246, 3) := dk_180 (dw rcX11_rain_0 2 rfl) rfl
theorem dX11_rain_7 : decode cX11_rain 7 = .ok (.bipush 9, 2) := dk_16 (dw rcX11_rain_0 3 rfl) rfl
theorem dX11_rain_9 : decode cX11_rain 9 = .ok (.dup2, 1) := dk_92 (dw rcX11_rain_0 4 rfl)
theorem dX11_rain_10 : decode cX11_rain 10 = .ok (.iaload, 1) := dk_46 (dw rcX11_rain_0 5 rfl)
theorem dX11_rain_11 : decode cX11_rain 11 = .ok (.iconst 1, 1) := dk_4 (dw rcX11_rain_0 6 rfl)
theorem dX11_rain_12 : decode cX11_rain 12 = .ok (.ixor, 1) := dk_130 (dw rcX11_rain_0 7 rfl)
theorem dX11_rain_13 : decode cX11_rain 13 = .ok (.iastore, 1) := dk_79 (dw rcX11_rain_0 8 rfl)
theorem dX11_rain_14 : decode cX11_rain 14 = .ok (.aload_n 0, 1) := dk_42 (dw rcX11_rain_0 9 rfl)
theorem dX11_rain_15 : decode cX11_rain 15 = .ok (.getfield 65, 3) := dk_180 (dw rcX11_rain_0 10 rfl) rfl
theorem dX11_rain_18 : decode cX11_rain 18 = .ok (.invokevirtual 249, 3) := dk_182 (dw rcX11_rain_0 11 rfl) rfl
theorem dX11_rain_21 : decode cX11_rain 21 = .ok (.aload_n 0, 1) := dk_42 (dw rcX11_rain_0 12 rfl)
theorem dX11_rain_22 : decode cX11_rain 22 = .ok (.getfield 65, 3) := dk_180 (dw rcX11_rain_0 13 rfl) rfl
theorem dX11_rain_25 : decode cX11_rain 25 = .ok (.getfield 246, 3) := dk_180 (dw rcX11_rain_0 14 rfl) rfl
theorem dX11_rain_28 : decode cX11_rain 28 = .ok (.bipush 9, 2) := dk_16 (dw rcX11_rain_0 15 rfl) rfl
theorem dX11_rain_30 : decode cX11_rain 30 = .ok (.iaload, 1) := dk_46 (dw rcX11_rain_0 16 rfl)
theorem dX11_rain_31 : decode cX11_rain 31 = .ok (.iconst 1, 1) := dk_4 (dw rcX11_rain_0 17 rfl)
theorem dX11_rain_32 : decode cX11_rain 32 = .ok (.if_icmp .ne 7, 3) := dk_160 (dw rcX11_rain_0 18 rfl) rfl
theorem dX11_rain_35 : decode cX11_rain 35 = .ok (.iconst 1, 1) := dk_4 (dw rcX11_rain_0 19 rfl)
theorem dX11_rain_36 : decode cX11_rain 36 = .ok (.goto 4, 3) := dk_167 (dw rcX11_rain_0 20 rfl) rfl
theorem dX11_rain_39 : decode cX11_rain 39 = .ok (.iconst 0, 1) := dk_3 (dw rcX11_rain_0 21 rfl)
theorem dX11_rain_40 : decode cX11_rain 40 = .ok (.ireturn, 1) := dk_172 (dw rcX11_rain_0 22 rfl)
noncomputable def rbX11_redo_0 : List (Nat × List Nat) := [(0, [42]), (1, [180, 0, 65]), (4, [182, 1, 12]), (7, [172])]
theorem rcX11_redo_0 : dgo (lb cX11_redo) 0 rbX11_redo_0 = true := by decide +kernel
theorem dX11_redo_0 : decode cX11_redo 0 = .ok (.aload_n 0, 1) := dk_42 (dw rcX11_redo_0 0 rfl)
theorem dX11_redo_1 : decode cX11_redo 1 = .ok (.getfield 65, 3) := dk_180 (dw rcX11_redo_0 1 rfl) rfl
theorem dX11_redo_4 : decode cX11_redo 4 = .ok (.invokevirtual 268, 3) := dk_182 (dw rcX11_redo_0 2 rfl) rfl
theorem dX11_redo_7 : decode cX11_redo 7 = .ok (.ireturn, 1) := dk_172 (dw rcX11_redo_0 3 rfl)
noncomputable def rbX11_suits_0 : List (Nat × List Nat) := [(0, [27]), (1, [28]), (2, [21, 5]), (4, [184, 0, 194]), (7, [153, 0, 14]), (10, [29]), (11, [21, 4]), (13, [21, 5]), (15, [184, 0, 194]), (18, [154, 0, 7]), (21, [20, 0, 165]), (24, [173]), (25, [9]), (26, [55, 6]), (28, [4]), (29, [54, 8]), (31, [21, 8]), (33, [16, 60]), (35, [163, 0, 45]), (38, [27]), (39, [28]), (40, [21, 5]), (42, [21, 8]), (44, [184, 0, 197])]
theorem rcX11_suits_0 : dgo (lb cX11_suits) 0 rbX11_suits_0 = true := by decide +kernel
theorem dX11_suits_0 : decode cX11_suits 0 = .ok (.iload_n 1, 1) := dk_27 (dw rcX11_suits_0 0 rfl)
theorem dX11_suits_1 : decode cX11_suits 1 = .ok (.iload_n 2, 1) := dk_28 (dw rcX11_suits_0 1 rfl)
theorem dX11_suits_2 : decode cX11_suits 2 = .ok (.iload 5, 2) := dk_21 (dw rcX11_suits_0 2 rfl)
theorem dX11_suits_4 : decode cX11_suits 4 = .ok (.invokestatic 194, 3) := dk_184 (dw rcX11_suits_0 3 rfl) rfl
theorem dX11_suits_7 : decode cX11_suits 7 = .ok (.ifCond .eq 14, 3) := dk_153 (dw rcX11_suits_0 4 rfl) rfl
theorem dX11_suits_10 : decode cX11_suits 10 = .ok (.iload_n 3, 1) := dk_29 (dw rcX11_suits_0 5 rfl)
theorem dX11_suits_11 : decode cX11_suits 11 = .ok (.iload 4, 2) := dk_21 (dw rcX11_suits_0 6 rfl)
theorem dX11_suits_13 : decode cX11_suits 13 = .ok (.iload 5, 2) := dk_21 (dw rcX11_suits_0 7 rfl)
theorem dX11_suits_15 : decode cX11_suits 15 = .ok (.invokestatic 194, 3) := dk_184 (dw rcX11_suits_0 8 rfl) rfl
theorem dX11_suits_18 : decode cX11_suits 18 = .ok (.ifCond .ne 7, 3) := dk_154 (dw rcX11_suits_0 9 rfl) rfl
theorem dX11_suits_21 : decode cX11_suits 21 = .ok (.ldc2_w 165, 3) := dk_20 (dw rcX11_suits_0 10 rfl) rfl
theorem dX11_suits_24 : decode cX11_suits 24 = .ok (.lreturn, 1) := dk_173 (dw rcX11_suits_0 11 rfl)
theorem dX11_suits_25 : decode cX11_suits 25 = .ok (.lconst 0, 1) := dk_9 (dw rcX11_suits_0 12 rfl)
theorem dX11_suits_26 : decode cX11_suits 26 = .ok (.lstore 6, 2) := dk_55 (dw rcX11_suits_0 13 rfl)
theorem dX11_suits_28 : decode cX11_suits 28 = .ok (.iconst 1, 1) := dk_4 (dw rcX11_suits_0 14 rfl)
theorem dX11_suits_29 : decode cX11_suits 29 = .ok (.istore 8, 2) := dk_54 (dw rcX11_suits_0 15 rfl)
theorem dX11_suits_31 : decode cX11_suits 31 = .ok (.iload 8, 2) := dk_21 (dw rcX11_suits_0 16 rfl)
theorem dX11_suits_33 : decode cX11_suits 33 = .ok (.bipush 60, 2) := dk_16 (dw rcX11_suits_0 17 rfl) rfl
theorem dX11_suits_35 : decode cX11_suits 35 = .ok (.if_icmp .gt 45, 3) := dk_163 (dw rcX11_suits_0 18 rfl) rfl
theorem dX11_suits_38 : decode cX11_suits 38 = .ok (.iload_n 1, 1) := dk_27 (dw rcX11_suits_0 19 rfl)
theorem dX11_suits_39 : decode cX11_suits 39 = .ok (.iload_n 2, 1) := dk_28 (dw rcX11_suits_0 20 rfl)
theorem dX11_suits_40 : decode cX11_suits 40 = .ok (.iload 5, 2) := dk_21 (dw rcX11_suits_0 21 rfl)
theorem dX11_suits_42 : decode cX11_suits 42 = .ok (.iload 8, 2) := dk_21 (dw rcX11_suits_0 22 rfl)
theorem dX11_suits_44 : decode cX11_suits 44 = .ok (.invokestatic 197, 3) := dk_184 (dw rcX11_suits_0 23 rfl) rfl
noncomputable def rbX11_suits_47 : List (Nat × List Nat) := [(47, [153, 0, 27]), (50, [29]), (51, [21, 4]), (53, [21, 5]), (55, [21, 8]), (57, [184, 0, 197]), (60, [153, 0, 14]), (63, [22, 6]), (65, [10]), (66, [21, 8]), (68, [4]), (69, [100]), (70, [121]), (71, [129]), (72, [55, 6]), (74, [132, 8, 1]), (77, [167, 255, 210]), (80, [22, 6]), (82, [173])]
theorem rcX11_suits_47 : dgo (lb cX11_suits) 0 rbX11_suits_47 = true := by decide +kernel
theorem dX11_suits_47 : decode cX11_suits 47 = .ok (.ifCond .eq 27, 3) := dk_153 (dw rcX11_suits_47 0 rfl) rfl
theorem dX11_suits_50 : decode cX11_suits 50 = .ok (.iload_n 3, 1) := dk_29 (dw rcX11_suits_47 1 rfl)
theorem dX11_suits_51 : decode cX11_suits 51 = .ok (.iload 4, 2) := dk_21 (dw rcX11_suits_47 2 rfl)
theorem dX11_suits_53 : decode cX11_suits 53 = .ok (.iload 5, 2) := dk_21 (dw rcX11_suits_47 3 rfl)
theorem dX11_suits_55 : decode cX11_suits 55 = .ok (.iload 8, 2) := dk_21 (dw rcX11_suits_47 4 rfl)
theorem dX11_suits_57 : decode cX11_suits 57 = .ok (.invokestatic 197, 3) := dk_184 (dw rcX11_suits_47 5 rfl) rfl
theorem dX11_suits_60 : decode cX11_suits 60 = .ok (.ifCond .eq 14, 3) := dk_153 (dw rcX11_suits_47 6 rfl) rfl
theorem dX11_suits_63 : decode cX11_suits 63 = .ok (.lload 6, 2) := dk_22 (dw rcX11_suits_47 7 rfl)
theorem dX11_suits_65 : decode cX11_suits 65 = .ok (.lconst 1, 1) := dk_10 (dw rcX11_suits_47 8 rfl)
theorem dX11_suits_66 : decode cX11_suits 66 = .ok (.iload 8, 2) := dk_21 (dw rcX11_suits_47 9 rfl)
theorem dX11_suits_68 : decode cX11_suits 68 = .ok (.iconst 1, 1) := dk_4 (dw rcX11_suits_47 10 rfl)
theorem dX11_suits_69 : decode cX11_suits 69 = .ok (.isub, 1) := dk_100 (dw rcX11_suits_47 11 rfl)
theorem dX11_suits_70 : decode cX11_suits 70 = .ok (.lshl, 1) := dk_121 (dw rcX11_suits_47 12 rfl)
theorem dX11_suits_71 : decode cX11_suits 71 = .ok (.lor, 1) := dk_129 (dw rcX11_suits_47 13 rfl)
theorem dX11_suits_72 : decode cX11_suits 72 = .ok (.lstore 6, 2) := dk_55 (dw rcX11_suits_47 14 rfl)
theorem dX11_suits_74 : decode cX11_suits 74 = .ok (.iinc 8 1, 3) := dk_132 (dw rcX11_suits_47 15 rfl) rfl
theorem dX11_suits_77 : decode cX11_suits 77 = .ok (.goto (-46), 3) := dk_167 (dw rcX11_suits_47 16 rfl) rfl
theorem dX11_suits_80 : decode cX11_suits 80 = .ok (.lload 6, 2) := dk_22 (dw rcX11_suits_47 17 rfl)
theorem dX11_suits_82 : decode cX11_suits 82 = .ok (.lreturn, 1) := dk_173 (dw rcX11_suits_47 18 rfl)
noncomputable def rbX11_undo_0 : List (Nat × List Nat) := [(0, [42]), (1, [180, 0, 65]), (4, [182, 1, 9]), (7, [172])]
theorem rcX11_undo_0 : dgo (lb cX11_undo) 0 rbX11_undo_0 = true := by decide +kernel
theorem dX11_undo_0 : decode cX11_undo 0 = .ok (.aload_n 0, 1) := dk_42 (dw rcX11_undo_0 0 rfl)
theorem dX11_undo_1 : decode cX11_undo 1 = .ok (.getfield 65, 3) := dk_180 (dw rcX11_undo_0 1 rfl) rfl
theorem dX11_undo_4 : decode cX11_undo 4 = .ok (.invokevirtual 265, 3) := dk_182 (dw rcX11_undo_0 2 rfl) rfl
theorem dX11_undo_7 : decode cX11_undo 7 = .ok (.ireturn, 1) := dk_172 (dw rcX11_undo_0 3 rfl)
noncomputable def rbX11_untell_0 : List (Nat × List Nat) := [(0, [42]), (1, [180, 0, 72]), (4, [27]), (5, [182, 1, 19]), (8, [172])]
theorem rcX11_untell_0 : dgo (lb cX11_untell) 0 rbX11_untell_0 = true := by decide +kernel
theorem dX11_untell_0 : decode cX11_untell 0 = .ok (.aload_n 0, 1) := dk_42 (dw rcX11_untell_0 0 rfl)
theorem dX11_untell_1 : decode cX11_untell 1 = .ok (.getfield 72, 3) := dk_180 (dw rcX11_untell_0 1 rfl) rfl
theorem dX11_untell_4 : decode cX11_untell 4 = .ok (.iload_n 1, 1) := dk_27 (dw rcX11_untell_0 2 rfl)
theorem dX11_untell_5 : decode cX11_untell 5 = .ok (.invokevirtual 275, 3) := dk_182 (dw rcX11_untell_0 3 rfl) rfl
theorem dX11_untell_8 : decode cX11_untell 8 = .ok (.ireturn, 1) := dk_172 (dw rcX11_untell_0 4 rfl)
noncomputable def rbX11_walker_0 : List (Nat × List Nat) := [(0, [42]), (1, [180, 0, 65]), (4, [180, 0, 246]), (7, [3]), (8, [46]), (9, [2]), (10, [159, 0, 12]), (13, [27]), (14, [155, 0, 8]), (17, [27]), (18, [8]), (19, [164, 0, 5]), (22, [2]), (23, [172]), (24, [42]), (25, [180, 0, 65]), (28, [180, 0, 246]), (31, [27]), (32, [46]), (33, [172])]
theorem rcX11_walker_0 : dgo (lb cX11_walker) 0 rbX11_walker_0 = true := by decide +kernel
theorem dX11_walker_0 : decode cX11_walker 0 = .ok (.aload_n 0, 1) := dk_42 (dw rcX11_walker_0 0 rfl)
theorem dX11_walker_1 : decode cX11_walker 1 = .ok (.getfield 65, 3) := dk_180 (dw rcX11_walker_0 1 rfl) rfl
theorem dX11_walker_4 : decode cX11_walker 4 = .ok (.getfield 246, 3) := dk_180 (dw rcX11_walker_0 2 rfl) rfl
theorem dX11_walker_7 : decode cX11_walker 7 = .ok (.iconst 0, 1) := dk_3 (dw rcX11_walker_0 3 rfl)
theorem dX11_walker_8 : decode cX11_walker 8 = .ok (.iaload, 1) := dk_46 (dw rcX11_walker_0 4 rfl)
theorem dX11_walker_9 : decode cX11_walker 9 = .ok (.iconst (-1), 1) := dk_2 (dw rcX11_walker_0 5 rfl)
theorem dX11_walker_10 : decode cX11_walker 10 = .ok (.if_icmp .eq 12, 3) := dk_159 (dw rcX11_walker_0 6 rfl) rfl
theorem dX11_walker_13 : decode cX11_walker 13 = .ok (.iload_n 1, 1) := dk_27 (dw rcX11_walker_0 7 rfl)
theorem dX11_walker_14 : decode cX11_walker 14 = .ok (.ifCond .lt 8, 3) := dk_155 (dw rcX11_walker_0 8 rfl) rfl
theorem dX11_walker_17 : decode cX11_walker 17 = .ok (.iload_n 1, 1) := dk_27 (dw rcX11_walker_0 9 rfl)
theorem dX11_walker_18 : decode cX11_walker 18 = .ok (.iconst 5, 1) := dk_8 (dw rcX11_walker_0 10 rfl)
theorem dX11_walker_19 : decode cX11_walker 19 = .ok (.if_icmp .le 5, 3) := dk_164 (dw rcX11_walker_0 11 rfl) rfl
theorem dX11_walker_22 : decode cX11_walker 22 = .ok (.iconst (-1), 1) := dk_2 (dw rcX11_walker_0 12 rfl)
theorem dX11_walker_23 : decode cX11_walker 23 = .ok (.ireturn, 1) := dk_172 (dw rcX11_walker_0 13 rfl)
theorem dX11_walker_24 : decode cX11_walker 24 = .ok (.aload_n 0, 1) := dk_42 (dw rcX11_walker_0 14 rfl)
theorem dX11_walker_25 : decode cX11_walker 25 = .ok (.getfield 65, 3) := dk_180 (dw rcX11_walker_0 15 rfl) rfl
theorem dX11_walker_28 : decode cX11_walker 28 = .ok (.getfield 246, 3) := dk_180 (dw rcX11_walker_0 16 rfl) rfl
theorem dX11_walker_31 : decode cX11_walker 31 = .ok (.iload_n 1, 1) := dk_27 (dw rcX11_walker_0 17 rfl)
theorem dX11_walker_32 : decode cX11_walker 32 = .ok (.iaload, 1) := dk_46 (dw rcX11_walker_0 18 rfl)
theorem dX11_walker_33 : decode cX11_walker 33 = .ok (.ireturn, 1) := dk_172 (dw rcX11_walker_0 19 rfl)
set_option maxHeartbeats 4000000 in
set_option maxRecDepth 100000 in
theorem k_endless (l : Launch) (D : va_G) (k : KT) (A : Nat → Prop) (a : Nat → Nat) (z : SK) (G : GS) (p0 : Int32) (p1 : Int32) (p2 : Int32)  : Met l yX11_isEndless (WS yX11_isEndless cX11_isEndless 3 (some .boolean)) ({ frames := 0, cells := 0, slots := 0, locals := 0 }) (va_Pc [.int p0, .int p1, .int p2] (cW D k A a z G)) (va_Qi (fun (r : Int32) (G1 : GS) => P_endless p0 p1 p2 G r G1) (fun (G1 : GS) t => Wd D k A a G1 t.heap) A) 0 0 A := by
  refine Met.ofW (cc := cX11_isEndless) (maxL := 3) (ret := (some .boolean)) (by decide) rfl ?_
  intro p e s m args below meth c s₁ B hml hv
  obtain ⟨rfl, hW, hB_G, hK, hZ⟩ := hv
  have hx := B.exec
  have hb := B.bytes
  have hr := B.returns
  have hts := atoms_spec (ws := WS yX11_isEndless cX11_isEndless 3 (some .boolean)) B.pre
  have hgd : ∀ w ∈ gd, w ∈ WS yX11_isEndless cX11_isEndless 3 (some .boolean) := fun w h => List.mem_cons_of_mem _ h
  have hg : ∀ w ∈ gd, w.before _ s = true := fun w h => hts w (hgd w h)
  have hown : s.vm.findClass RX11 = some m.cls := findClass_of_methodNamed B.named
  have hS : va_S A s.heap s.heap [] := va_S.rf
  have hF : Fr [] [] G G := Fr.rf
  have hl := lv_entry ([.int p0, .int p1, .int p2]) (n := 3) (Nat.le_of_ble_eq_true rfl)
  rw [lg_entry_eq]
  generalize (lg_sl ([.int p0, .int p1, .int p2]) ++ List.replicate (3 - (lg_sl ([.int p0, .int p1, .int p2])).length) Slot.unset).toArray = ls at hl ⊢
  have hl : lv_has ls 3 [(0, .int p0), (1, .int p1), (2, .int p2)] := hl
  refine lv_iload_n hx hb dX11_isEndless_0 rfl (lv_at hl 0 rfl) ?_
  refine ic_1 hx hb dX11_isEndless_1 ?_
  refine lv_icmp_lt (tgt := 36) hx hb dX11_isEndless_2 rfl (fun c_1 => ?_) (fun c_1 => ?_)
  · have c_1 : p0.toInt < 1 := xI_lt rfl rfl c_1
    refine ic_0 hx hb dX11_isEndless_36 ?_
    exact W.zret (v := 0) hx hb hr (by decide) (fun t ht _ => ⟨⟨0, G, rfl, (P_endless_mk ⟨hB_G, hF, ⟨by decide, by decide⟩, (by have hq : (0 : Int32).toInt = 0 := rfl; (try dsimp only); omega), (Or.inl ⟨c_1, ⟨rfl, rfl⟩⟩)⟩), wd_t ht hW⟩, hS.F ht⟩) hS.2.2 dX11_isEndless_37
  · have c_1 : 1 ≤ p0.toInt := xI_nlt rfl rfl c_1
    refine lv_iload_n hx hb dX11_isEndless_5 rfl (lv_at hl 0 rfl) ?_
    refine lv_bipush (v := 60) hx hb dX11_isEndless_6 (by decide) ?_
    refine lv_icmp_gt (tgt := 36) hx hb dX11_isEndless_8 rfl (fun c_2 => ?_) (fun c_2 => ?_)
    · have c_2 : 60 < p0.toInt := xI_lt rfl rfl c_2
      refine ic_0 hx hb dX11_isEndless_36 ?_
      exact W.zret (v := 0) hx hb hr (by decide) (fun t ht _ => ⟨⟨0, G, rfl, (P_endless_mk ⟨hB_G, hF, ⟨by decide, by decide⟩, (by have hq : (0 : Int32).toInt = 0 := rfl; (try dsimp only); omega), (Or.inr ⟨c_1, (Or.inl ⟨c_2, ⟨rfl, rfl⟩⟩)⟩)⟩), wd_t ht hW⟩, hS.F ht⟩) hS.2.2 dX11_isEndless_37
    · have c_2 : p0.toInt ≤ 60 := xI_nlt rfl rfl c_2
      refine lv_iload_n hx hb dX11_isEndless_11 rfl (lv_at hl 1 rfl) ?_
      refine lv_if_lt (tgt := 36) hx hb dX11_isEndless_12 rfl (fun c_3 => ?_) (fun c_3 => ?_)
      · have c_3 : p1.toInt < 0 := xI_lt rfl rfl c_3
        refine ic_0 hx hb dX11_isEndless_36 ?_
        exact W.zret (v := 0) hx hb hr (by decide) (fun t ht _ => ⟨⟨0, G, rfl, (P_endless_mk ⟨hB_G, hF, ⟨by decide, by decide⟩, (by have hq : (0 : Int32).toInt = 0 := rfl; (try dsimp only); omega), (Or.inr ⟨c_1, (Or.inr ⟨c_2, (Or.inl ⟨c_3, ⟨rfl, rfl⟩⟩)⟩)⟩)⟩), wd_t ht hW⟩, hS.F ht⟩) hS.2.2 dX11_isEndless_37
      · have c_3 : 0 ≤ p1.toInt := xI_nlt rfl rfl c_3
        refine lv_iload_n hx hb dX11_isEndless_15 rfl (lv_at hl 1 rfl) ?_
        refine lv_bipush (v := 9) hx hb dX11_isEndless_16 (by decide) ?_
        refine lv_icmp_gt (tgt := 36) hx hb dX11_isEndless_18 rfl (fun c_4 => ?_) (fun c_4 => ?_)
        · have c_4 : 9 < p1.toInt := xI_lt rfl rfl c_4
          refine ic_0 hx hb dX11_isEndless_36 ?_
          exact W.zret (v := 0) hx hb hr (by decide) (fun t ht _ => ⟨⟨0, G, rfl, (P_endless_mk ⟨hB_G, hF, ⟨by decide, by decide⟩, (by have hq : (0 : Int32).toInt = 0 := rfl; (try dsimp only); omega), (Or.inr ⟨c_1, (Or.inr ⟨c_2, (Or.inr ⟨c_3, (Or.inl ⟨c_4, ⟨rfl, rfl⟩⟩)⟩)⟩)⟩)⟩), wd_t ht hW⟩, hS.F ht⟩) hS.2.2 dX11_isEndless_37
        · have c_4 : p1.toInt ≤ 9 := xI_nlt rfl rfl c_4
          refine lv_iload_n hx hb dX11_isEndless_21 rfl (lv_at hl 2 rfl) ?_
          refine ic_1 hx hb dX11_isEndless_22 ?_
          refine lv_icmp_lt (tgt := 36) hx hb dX11_isEndless_23 rfl (fun c_5 => ?_) (fun c_5 => ?_)
          · have c_5 : p2.toInt < 1 := xI_lt rfl rfl c_5
            refine ic_0 hx hb dX11_isEndless_36 ?_
            exact W.zret (v := 0) hx hb hr (by decide) (fun t ht _ => ⟨⟨0, G, rfl, (P_endless_mk ⟨hB_G, hF, ⟨by decide, by decide⟩, (by have hq : (0 : Int32).toInt = 0 := rfl; (try dsimp only); omega), (Or.inr ⟨c_1, (Or.inr ⟨c_2, (Or.inr ⟨c_3, (Or.inr ⟨c_4, (Or.inl ⟨c_5, ⟨rfl, rfl⟩⟩)⟩)⟩)⟩)⟩)⟩), wd_t ht hW⟩, hS.F ht⟩) hS.2.2 dX11_isEndless_37
          · have c_5 : 1 ≤ p2.toInt := xI_nlt rfl rfl c_5
            refine lv_iload_n hx hb dX11_isEndless_26 rfl (lv_at hl 2 rfl) ?_
            refine lv_bipush (v := 12) hx hb dX11_isEndless_27 (by decide) ?_
            refine lv_icmp_gt (tgt := 36) hx hb dX11_isEndless_29 rfl (fun c_6 => ?_) (fun c_6 => ?_)
            · have c_6 : 12 < p2.toInt := xI_lt rfl rfl c_6
              refine ic_0 hx hb dX11_isEndless_36 ?_
              exact W.zret (v := 0) hx hb hr (by decide) (fun t ht _ => ⟨⟨0, G, rfl, (P_endless_mk ⟨hB_G, hF, ⟨by decide, by decide⟩, (by have hq : (0 : Int32).toInt = 0 := rfl; (try dsimp only); omega), (Or.inr ⟨c_1, (Or.inr ⟨c_2, (Or.inr ⟨c_3, (Or.inr ⟨c_4, (Or.inr ⟨c_5, (Or.inl ⟨c_6, ⟨rfl, rfl⟩⟩)⟩)⟩)⟩)⟩)⟩)⟩), wd_t ht hW⟩, hS.F ht⟩) hS.2.2 dX11_isEndless_37
            · have c_6 : p2.toInt ≤ 12 := xI_nlt rfl rfl c_6
              refine ic_1 hx hb dX11_isEndless_32 ?_
              refine lv_goto (tgt := 37) hx hb dX11_isEndless_33 rfl ?_
              exact W.zret (v := 1) hx hb hr (by decide) (fun t ht _ => ⟨⟨1, G, rfl, (P_endless_mk ⟨hB_G, hF, ⟨by decide, by decide⟩, (by have hq : (1 : Int32).toInt = 1 := rfl; (try dsimp only); omega), (Or.inr ⟨c_1, (Or.inr ⟨c_2, (Or.inr ⟨c_3, (Or.inr ⟨c_4, (Or.inr ⟨c_5, (Or.inr ⟨c_6, ⟨rfl, rfl⟩⟩)⟩)⟩)⟩)⟩)⟩)⟩), wd_t ht hW⟩, hS.F ht⟩) hS.2.2 dX11_isEndless_37

set_option maxHeartbeats 4000000 in
set_option maxRecDepth 100000 in
theorem k_begin (l : Launch) (D : va_G) (k : KT) (A : Nat → Prop) (a : Nat → Nat) (z : SK) (G : GS) (p0 : Int32) (p1 : Int32) (p2 : Int32) (p3 : Int32) (ha_p0 : 1 ≤ p0.toInt ∧ p0.toInt ≤ 60) (ha_p1 : 0 ≤ p1.toInt ∧ p1.toInt ≤ 9) (ha_p2 : 1 ≤ p2.toInt ∧ p2.toInt ≤ 12) (ha_p3 : 1 ≤ p3.toInt ∧ p3.toInt ≤ 99) : Met l yX11_beginnings (WS yX11_beginnings cX11_beginnings 6 (some .int)) ({ frames := 1, cells := 0, slots := 0, locals := 26 }) (va_Pc [.int p0, .int p1, .int p2, .int p3] (cW D k A a z G)) (va_Qi (fun (r : Int32) (G1 : GS) => P_begin p0 p1 p2 p3 G r G1) (fun (G1 : GS) t => Wd D k A a G1 t.heap) A) 0 0 A := by
  refine Met.ofW (cc := cX11_beginnings) (maxL := 6) (ret := (some .int)) (by decide) rfl ?_
  intro p e s m args below meth c s₁ B hml hv
  obtain ⟨rfl, hW, hB_G, hK, hZ⟩ := hv
  have hx := B.exec
  have hb := B.bytes
  have hr := B.returns
  have hts := atoms_spec (ws := WS yX11_beginnings cX11_beginnings 6 (some .int)) B.pre
  have hgd : ∀ w ∈ gd, w ∈ WS yX11_beginnings cX11_beginnings 6 (some .int) := fun w h => List.mem_cons_of_mem _ h
  have hg : ∀ w ∈ gd, w.before _ s = true := fun w h => hts w (hgd w h)
  have hown : s.vm.findClass RX11 = some m.cls := findClass_of_methodNamed B.named
  have hS : va_S A s.heap s.heap [] := va_S.rf
  have hF : Fr [] [] G G := Fr.rf
  have hl := lv_entry ([.int p0, .int p1, .int p2, .int p3]) (n := 6) (Nat.le_of_ble_eq_true rfl)
  rw [lg_entry_eq]
  generalize (lg_sl ([.int p0, .int p1, .int p2, .int p3]) ++ List.replicate (6 - (lg_sl ([.int p0, .int p1, .int p2, .int p3])).length) Slot.unset).toArray = ls at hl ⊢
  have hl : lv_has ls 6 [(0, .int p0), (1, .int p1), (2, .int p2), (3, .int p3)] := hl
  refine lv_iload_n hx hb dX11_beginnings_0 rfl (lv_at hl 0 rfl) ?_
  refine lv_iload_n hx hb dX11_beginnings_1 rfl (lv_at hl 1 rfl) ?_
  refine lv_iadd hx hb dX11_beginnings_2 ?_
  refine lv_topi (fun y_1 ey_1 => ?_)
  have ty_1 : y_1.toInt = p0.toInt + p1.toInt := xI_add rfl rfl ey_1 (by omega) (by omega)
  refine lv_istore (lv' := [(4, .int y_1), (0, .int p0), (1, .int p1), (2, .int p2), (3, .int p3)]) hx hb dX11_beginnings_3 hl (lt_b rfl) rfl (fun ls hl => ?_)
  refine lv_iload hx hb dX11_beginnings_5 (lv_at hl 0 rfl) ?_
  refine lv_i2l hx hb dX11_beginnings_7 rfl ?_
  refine lv_topl (fun y_2 ey_2 => ?_)
  refine lv_iload_n hx hb dX11_beginnings_8 rfl (lv_at hl 4 rfl) ?_
  refine lv_i2l hx hb dX11_beginnings_9 rfl ?_
  refine lv_topl (fun y_3 ey_3 => ?_)
  refine S_calll (va_runS (As := [.long y_2, .long y_3]) (rest := []) ⟨hx, hb, hml, hown, hts⟩ (k_gcd l D k A a z G y_2 y_3 ) (va_cwS 2 hts (gd_S hgd m1079 m1080 m117 m1081) rfl rfl rfl hd_X11_commonDivisor.2 ⟨Nat.le_of_ble_eq_true rfl, Nat.le_of_ble_eq_true rfl⟩) (pre_S hW hB_G hK hZ hS) rfl rfl hl.1 rfl (lv_room (Nat.le_of_ble_eq_true rfl)) dX11_beginnings_10 ⟨Nat.le_of_ble_eq_true rfl, Nat.le_of_ble_eq_true rfl⟩) hS (fun r_4 G_5 H locs hpo hW hS => ?_)
  have hX_8 : P_gcd y_2 y_3 G r_4 G_5 := hpo
  obtain ⟨hB_G_5, hq_6, -⟩ := hpo
  have hF := hF.call9 hq_6 rfl rfl
  refine lv_l2i hx hb dX11_beginnings_13 rfl ?_
  refine lv_topi (fun y_9 ey_9 => ?_)
  refine lv_istore (lv' := [(5, .int y_9), (4, .int y_1), (0, .int p0), (1, .int p1), (2, .int p2), (3, .int p3)]) hx hb dX11_beginnings_14 hl (lt_b rfl) rfl (fun ls hl => ?_)
  refine lv_iload_n hx hb dX11_beginnings_16 rfl (lv_at hl 3 rfl) ?_
  refine lv_if_eq (tgt := 25) hx hb dX11_beginnings_17 rfl (fun c_10 => ?_) (fun c_10 => ?_)
  · have c_10 : p1.toInt = 0 := xI_eq rfl rfl c_10
    refine lv_iload hx hb dX11_beginnings_25 (lv_at hl 1 rfl) ?_
    exact W.iret (v := y_1) hx hb hr (fun t ht _ => ⟨⟨y_1, G_5, rfl, (P_begin_mk ⟨hB_G_5, hF, ⟨y_1, ty_1, ⟨y_2, ey_2, ⟨y_3, ey_3, ⟨r_4, G_5, hX_8, ⟨y_9, ey_9, (Or.inl ⟨c_10, ⟨rfl, rfl⟩⟩)⟩⟩⟩⟩⟩⟩), wd_t ht hW⟩, hS.F ht⟩) hS.2.2 dX11_beginnings_27
  · have c_10 : p1.toInt ≠ 0 := xI_ne rfl rfl c_10
    refine lv_iload hx hb dX11_beginnings_20 (lv_at hl 0 rfl) ?_
    refine lv_if_ne (tgt := 28) hx hb dX11_beginnings_22 rfl (fun c_11 => ?_) (fun c_11 => ?_)
    · have c_11 : y_9.toInt ≠ 0 := xI_ne rfl rfl c_11
      refine ic_0 hx hb dX11_beginnings_28 ?_
      refine lv_iload hx hb dX11_beginnings_29 (lv_at hl 0 rfl) ?_
      refine lv_iload_n hx hb dX11_beginnings_31 rfl (lv_at hl 3 rfl) ?_
      refine lv_isub hx hb dX11_beginnings_32 ?_
      refine lv_topi (fun y_12 ey_12 => ?_)
      refine lv_iload_n hx hb dX11_beginnings_33 rfl (lv_at hl 4 rfl) ?_
      refine lv_isub hx hb dX11_beginnings_34 ?_
      refine lv_topi (fun y_13 ey_13 => ?_)
      refine ic_1 hx hb dX11_beginnings_35 ?_
      refine lv_iadd hx hb dX11_beginnings_36 ?_
      refine lv_topi (fun y_14 ey_14 => ?_)
      refine va_mmax hx hb (by rw [hml]; exact hl.1.symm) hown (hg (Cond.methodLink RX11 368 Lib.Math.max.name) m1082) (hg (Cond.static Lib.Math.max.name) m728) (hg (Cond.initialized "java/lang/Math") m132) (hg (Cond.code Lib.Math.max.name Lib.Math.max.code 2 (some .int)) m729) (Nat.le_of_ble_eq_true rfl) (Nat.le_of_ble_eq_true rfl) (Nat.le_of_ble_eq_true rfl) (Nat.le_of_ble_eq_true rfl) dX11_beginnings_37 ?_
      refine lv_topi (fun y_15 ey_15 => ?_)
      have ty_15 := xI_max (X := 0) (Y := y_14.toInt) rfl rfl ey_15
      refine lv_iload hx hb dX11_beginnings_40 (lv_at hl 1 rfl) ?_
      refine lv_iload hx hb dX11_beginnings_42 (lv_at hl 0 rfl) ?_
      refine lv_idiv hx hb dX11_beginnings_44 (fun q => by have q := xI_eq (Y := 0) rfl rfl q; omega) ?_
      refine lv_topi (fun y_16 ey_16 => ?_)
      refine lv_imul hx hb dX11_beginnings_45 ?_
      refine lv_topi (fun y_17 ey_17 => ?_)
      exact W.iret (v := y_17) hx hb hr (fun t ht _ => ⟨⟨y_17, G_5, rfl, (P_begin_mk ⟨hB_G_5, hF, ⟨y_1, ty_1, ⟨y_2, ey_2, ⟨y_3, ey_3, ⟨r_4, G_5, hX_8, ⟨y_9, ey_9, (Or.inr ⟨c_10, (Or.inr ⟨c_11, ⟨y_12, ey_12, ⟨y_13, ey_13, ⟨y_14, ey_14, ⟨y_15, ty_15, ⟨y_16, ey_16, ⟨y_17, ey_17, ⟨rfl, rfl⟩⟩⟩⟩⟩⟩⟩⟩)⟩)⟩⟩⟩⟩⟩⟩), wd_t ht hW⟩, hS.F ht⟩) hS.2.2 dX11_beginnings_46
    · have c_11 : y_9.toInt = 0 := xI_eq rfl rfl c_11
      refine lv_iload hx hb dX11_beginnings_25 (lv_at hl 1 rfl) ?_
      exact W.iret (v := y_1) hx hb hr (fun t ht _ => ⟨⟨y_1, G_5, rfl, (P_begin_mk ⟨hB_G_5, hF, ⟨y_1, ty_1, ⟨y_2, ey_2, ⟨y_3, ey_3, ⟨r_4, G_5, hX_8, ⟨y_9, ey_9, (Or.inr ⟨c_10, (Or.inl ⟨c_11, ⟨rfl, rfl⟩⟩)⟩)⟩⟩⟩⟩⟩⟩), wd_t ht hW⟩, hS.F ht⟩) hS.2.2 dX11_beginnings_27

set_option maxHeartbeats 4000000 in
set_option maxRecDepth 100000 in
theorem k_Wfeed1 (l : Launch) (D : va_G) (k : KT) (A : Nat → Prop) (a : Nat → Nat) (z : SK) (G : GS) (p0 : Int32) (ht : (G.1 0 11).toInt ≤ 1596) : Met l yX11_putOnTape (WS yX11_putOnTape cX11_putOnTape 3 none) ({ frames := 0, cells := 0, slots := 0, locals := 0 }) (va_Pc [.ref (a 0), .int p0] (cW D k A a z G)) (va_Qv (fun (G1 : GS) => P_Wfeed1 p0 G G1) (fun (G1 : GS) t => Wd D k A a G1 t.heap) A) 0 0 A := by
  refine Met.ofW (cc := cX11_putOnTape) (maxL := 3) (ret := none) (by decide) rfl ?_
  intro p e s m args below meth c s₁ B hml hv
  obtain ⟨rfl, hW, hB_G, hK, hZ⟩ := hv
  have hx := B.exec
  have hb := B.bytes
  have hr := B.returns
  have hts := atoms_spec (ws := WS yX11_putOnTape cX11_putOnTape 3 none) B.pre
  have hgd : ∀ w ∈ gd, w ∈ WS yX11_putOnTape cX11_putOnTape 3 none := fun w h => List.mem_cons_of_mem _ h
  have hg : ∀ w ∈ gd, w.before _ s = true := fun w h => hts w (hgd w h)
  have hown : s.vm.findClass RX11 = some m.cls := findClass_of_methodNamed B.named
  have hS : va_S A s.heap s.heap [] := va_S.rf
  have hF : Fr [32] [(0, 11)] G G := Fr.rf
  have hl := lv_entry ([.ref (a 0), .int p0]) (n := 3) (Nat.le_of_ble_eq_true rfl)
  rw [lg_entry_eq]
  generalize (lg_sl ([.ref (a 0), .int p0]) ++ List.replicate (3 - (lg_sl ([.ref (a 0), .int p0])).length) Slot.unset).toArray = ls at hl ⊢
  have hl : lv_has ls 3 [(0, .ref (a 0)), (1, .int p0)] := hl
  refine lv_bipush (v := 24) hx hb dX11_putOnTape_0 (by decide) ?_
  refine lv_istore_n (lv' := [(2, .int 24), (0, .ref (a 0)), (1, .int p0)]) hx hb dX11_putOnTape_2 rfl hl (lt_b rfl) rfl (fun ls hl => ?_)
  have b_7 : 0 ≤ (G.1 0 11).toInt ∧ (G.1 0 11).toInt ≤ 1600 := bd_0_11 hB_G
  have qc_8 : (24 : Int32).toInt = 24 := rfl
  refine loop_N (Inv := fun n H locs ls => ∃ (G_1 : GS) (x_5 : Int32), (n : Int) = x_5.toInt - (-8) ∧ ((-8) ≤ x_5.toInt ∧ x_5.toInt ≤ 24) ∧ (8 * (G_1.1 0 11).toInt + x_5.toInt = 8 * (G.1 0 11).toInt + 24) ∧ (x_5.toInt % 8 = 0) ∧ Rc (St_k_Wfeed1_1 p0 G) (24, G) (x_5, G_1) ∧ Wd D k A a G_1 H ∧ Bd G_1 ∧ Fr [32] [(0, 11)] G G_1 ∧ Fr [32] [(0, 11)] G G_1 ∧ va_S A s.heap H locs ∧ lv_has ls 3 [(2, .int x_5), (0, .ref (a 0)), (1, .int p0)]) (fun n_4 H locs ls ih_3 hI => ?_) (24 - (-8) : Int).toNat ⟨G, 24, (Int.toNat_of_nonneg (by omega)), ⟨by omega, by omega⟩, (by omega), (by omega), Rc.rf, hW, hB_G, hF, Fr.rf, hS, lv_sub hl [0, 1, 2] rfl⟩
  obtain ⟨G_1, x_5, hn_12, f_9, f_10, f_11, hX_6, hW, hB_G_1, hF, hq_2, hS, hl⟩ := hI
  have b_13 : 0 ≤ (G_1.1 0 11).toInt ∧ (G_1.1 0 11).toInt ≤ 1600 := bd_0_11 hB_G_1
  refine lv_iload_n hx hb dX11_putOnTape_3 rfl (lv_at hl 0 rfl) ?_
  refine lv_if_lt (tgt := 43) hx hb dX11_putOnTape_4 rfl (fun c_14 => ?_) (fun c_14 => ?_)
  · have c_14 : x_5.toInt < 0 := xI_lt rfl rfl c_14
    exact W.vret hx hb hr (fun t ht _ => ⟨⟨G_1, rfl, (P_Wfeed1_mk ⟨hB_G_1, hF, (by omega), ⟨x_5, G_1, hX_6, f_9, f_10, f_11, hB_G_1, hq_2, ⟨c_14, rfl⟩⟩⟩), wd_t ht hW⟩, hS.F ht⟩) hS.2.2 dX11_putOnTape_43
  · have c_14 : 0 ≤ x_5.toInt := xI_nlt rfl rfl c_14
    refine lv_aload_n hx hb dX11_putOnTape_7 rfl (lv_at hl 1 rfl) ?_
    refine S_getI (v := (G_1.1 0 11)) (C := RX11) (T := TX11) (N := 13) hx hb hg iX11 hown hK hW kd_0 rfl 11 (lt_b rfl) (hg (Cond.fieldLink RX11 83 "SlabWalk" "taped" "I") m581) (fun _ h9 => h9) rfl rfl dX11_putOnTape_8 ?_
    refine lv_sipush (v := 1600) hx hb dX11_putOnTape_11 (by decide) ?_
    refine lv_icmp_ge (tgt := 37) hx hb dX11_putOnTape_14 rfl (fun c_15 => ?_) (fun c_15 => ?_)
    · have c_15 : 1600 ≤ (G_1.1 0 11).toInt := xI_le rfl rfl c_15
      obtain ⟨y_16, ey_16⟩ : ∃ q, q = x_5 + (-8) := ⟨_, rfl⟩
      have ty_16 : y_16.toInt = x_5.toInt + (-8) := xI_add rfl rfl ey_16 (by omega) (by omega)
      refine lv_iinc (v := y_16) (lv' := [(2, .int y_16), (0, .ref (a 0)), (1, .int p0)]) hx hb dX11_putOnTape_37 hl (k := 0) rfl (by rw [ey_16]; rfl) (lt_b rfl) rfl (fun ls hl => ?_)
      refine lv_goto (tgt := 3) hx hb dX11_putOnTape_40 rfl ?_
      exact ih_3 (y_16.toInt - (-8) : Int).toNat (by omega) _ _ _ ⟨G_1, y_16, (Int.toNat_of_nonneg (by omega)), ⟨by omega, by omega⟩, (by omega), (by omega), (hX_6.st (St_k_Wfeed1_1_mk ⟨x_5, G_1, y_16, G_1, rfl, rfl, f_9, f_10, f_11, hB_G_1, ⟨c_14, (Or.inl ⟨c_15, ⟨y_16, ty_16, ⟨rfl, rfl⟩⟩⟩)⟩⟩)), hW, hB_G_1, hF, (Fr.call9 (rs := [32]) (fs := [(0, 11)]) Fr.rf hq_2 rfl rfl), hS, lv_sub hl [0, 1, 2] rfl⟩
    · have c_15 : (G_1.1 0 11).toInt < 1600 := xI_nle rfl rfl c_15
      refine lv_aload_n hx hb dX11_putOnTape_17 rfl (lv_at hl 1 rfl) ?_
      refine S_getR (n := 32) (C := RX11) (T := TX11) (N := 13) hx hb hg iX11 hown hK hW kd_0 rfl 2 (lt_b rfl) (hg (Cond.fieldLink RX11 19 "SlabWalk" "tape" "[B") m572) (fun _ h9 => h9) rfl dX11_putOnTape_18 ?_
      refine lv_aload_n hx hb dX11_putOnTape_21 rfl (lv_at hl 1 rfl) ?_
      refine lv_dup hx hb dX11_putOnTape_22 rfl ?_
      refine S_getI (v := (G_1.1 0 11)) (C := RX11) (T := TX11) (N := 13) hx hb hg iX11 hown hK hW kd_0 rfl 11 (lt_b rfl) (hg (Cond.fieldLink RX11 83 "SlabWalk" "taped" "I") m581) (fun _ h9 => h9) rfl rfl dX11_putOnTape_23 ?_
      refine lv_dup_x1 hx hb dX11_putOnTape_26 rfl rfl ?_
      refine ic_1 hx hb dX11_putOnTape_27 ?_
      refine lv_iadd hx hb dX11_putOnTape_28 ?_
      refine lv_topi (fun y_17 ey_17 => ?_)
      have ty_17 : y_17.toInt = (G_1.1 0 11).toInt + 1 := xI_add rfl rfl ey_17 (by omega) (by omega)
      refine S_putI (ty := .int) (C := RX11) (T := TX11) (N := 13) hx hb hg iX11 tyX11 tyX11_ok nmX11 hown hK hW hS kd_0 rfl 11 (lt_b rfl) (hg (Cond.fieldLink RX11 83 "SlabWalk" "taped" "I") m581) (fun _ h9 => h9) rfl (by decide +kernel) rfl rfl rfl dX11_putOnTape_29 (fun G_18 H locs eG_18 hW hS => ?_)
      have hB_G_18 : Bd G_18 := hB_G_1.put (V := y_17.toInt) (lo := 0) (hi := 1600) eG_18 rfl rfl rfl (by omega) (by omega) (hB_G_1.2.put eG_18 rfl)
      have hF := hF.put eG_18 (Or.inr (by decide))
      refine lv_iload_n hx hb dX11_putOnTape_32 rfl (lv_at hl 2 rfl) ?_
      refine lv_iload_n hx hb dX11_putOnTape_33 rfl (lv_at hl 0 rfl) ?_
      refine lv_ishr hx hb dX11_putOnTape_34 ?_
      refine lv_topi (fun y_19 ey_19 => ?_)
      refine lv_i2b hx hb dX11_putOnTape_35 rfl ?_
      refine lv_topi (fun y_20 ey_20 => ?_)
      refine S_bast hx hb hK hW hS kd_32 (vin (by omega) (by omega)) dX11_putOnTape_36 (fun G_21 H locs eG_21 hW hS => ?_)
      have hB_G_21 : Bd G_21 := hB_G_18.put (lo := (-128)) (hi := 127) eG_21 rfl rfl rfl nz_byte.1 nz_byte.2 (hB_G_18.2.put eG_21 rfl)
      have hF := hF.put eG_21 (Or.inl (by decide))
      obtain ⟨y_22, ey_22⟩ : ∃ q, q = x_5 + (-8) := ⟨_, rfl⟩
      have ty_22 : y_22.toInt = x_5.toInt + (-8) := xI_add rfl rfl ey_22 (by omega) (by omega)
      refine lv_iinc (v := y_22) (lv' := [(2, .int y_22), (0, .ref (a 0)), (1, .int p0)]) hx hb dX11_putOnTape_37 hl (k := 0) rfl (by rw [ey_22]; rfl) (lt_b rfl) rfl (fun ls hl => ?_)
      refine lv_goto (tgt := 3) hx hb dX11_putOnTape_40 rfl ?_
      have g_23 : (G_21.1 0 11).toInt = y_17.toInt := (congrArg Int32.toInt (show G_21.1 0 11 = y_17 from ((gp_ne eG_21 (fun q => absurd q.1 (Nat.ne_of_beq_eq_false rfl))).trans (gp_eq eG_18))))
      exact ih_3 (y_22.toInt - (-8) : Int).toNat (by omega) _ _ _ ⟨G_21, y_22, (Int.toNat_of_nonneg (by omega)), ⟨by omega, by omega⟩, (by omega), (by omega), (hX_6.st (St_k_Wfeed1_1_mk ⟨x_5, G_1, y_22, G_21, rfl, rfl, f_9, f_10, f_11, hB_G_1, ⟨c_14, (Or.inr ⟨c_15, ⟨y_17, ty_17, ⟨y_19, ey_19, ⟨y_20, ey_20, ⟨y_22, ty_22, ⟨rfl, (Fr.put (rs := [32]) (fs := [(0, 11)]) (Fr.put (rs := [32]) (fs := [(0, 11)]) Fr.rf eG_18 (Or.inr (by decide))) eG_21 (Or.inl (by decide))), ((gp_ne eG_21 (fun q => absurd q.1 (Nat.ne_of_beq_eq_false rfl))).trans (gp_eq eG_18)), (rw_ast eG_21).trans (congrArg (fun q => upd q ((G_1.1 0 11).toNatClampNeg) (vp_nar .byte y_20)) (rw_put eG_18 (by decide)))⟩⟩⟩⟩⟩⟩)⟩⟩)), hW, hB_G_21, hF, (Fr.put (rs := [32]) (fs := [(0, 11)]) (Fr.put (rs := [32]) (fs := [(0, 11)]) (Fr.call9 (rs := [32]) (fs := [(0, 11)]) Fr.rf hq_2 rfl rfl) eG_18 (Or.inr (by decide))) eG_21 (Or.inl (by decide))), hS, lv_sub hl [0, 1, 2] rfl⟩

set_option maxHeartbeats 4000000 in
set_option maxRecDepth 100000 in
theorem k_Wfeed (l : Launch) (D : va_G) (k : KT) (A : Nat → Prop) (a : Nat → Nat) (z : SK) (G : GS) (p0 : Int32) (p1 : Int32) (p2 : Int32) (p3 : Int32) (p4 : Int32)  : Met l yX11_feed (WS yX11_feed cX11_feed 6 (some .int)) ({ frames := 1, cells := 0, slots := 0, locals := 22 }) (va_Pc [.ref (a 0), .int p0, .int p1, .int p2, .int p3, .int p4] (cW D k A a z G)) (va_Qi (fun (r : Int32) (G1 : GS) => P_Wfeed p0 p1 p2 p3 p4 G r G1) (fun (G1 : GS) t => Wd D k A a G1 t.heap) A) 0 0 A := by
  refine Met.ofW (cc := cX11_feed) (maxL := 6) (ret := (some .int)) (by decide) rfl ?_
  intro p e s m args below meth c s₁ B hml hv
  obtain ⟨rfl, hW, hB_G, hK, hZ⟩ := hv
  have hx := B.exec
  have hb := B.bytes
  have hr := B.returns
  have hts := atoms_spec (ws := WS yX11_feed cX11_feed 6 (some .int)) B.pre
  have hgd : ∀ w ∈ gd, w ∈ WS yX11_feed cX11_feed 6 (some .int) := fun w h => List.mem_cons_of_mem _ h
  have hg : ∀ w ∈ gd, w.before _ s = true := fun w h => hts w (hgd w h)
  have hown : s.vm.findClass RX11 = some m.cls := findClass_of_methodNamed B.named
  have hS : va_S A s.heap s.heap [] := va_S.rf
  have hF : Fr [32] [(0, 11)] G G := Fr.rf
  have hl := lv_entry ([.ref (a 0), .int p0, .int p1, .int p2, .int p3, .int p4]) (n := 6) (Nat.le_of_ble_eq_true rfl)
  rw [lg_entry_eq]
  generalize (lg_sl ([.ref (a 0), .int p0, .int p1, .int p2, .int p3, .int p4]) ++ List.replicate (6 - (lg_sl ([.ref (a 0), .int p0, .int p1, .int p2, .int p3, .int p4])).length) Slot.unset).toArray = ls at hl ⊢
  have hl : lv_has ls 6 [(0, .ref (a 0)), (1, .int p0), (2, .int p1), (3, .int p2), (4, .int p3), (5, .int p4)] := hl
  refine lv_aload_n hx hb dX11_feed_0 rfl (lv_at hl 0 rfl) ?_
  have b_1 : 0 ≤ (G.1 0 11).toInt ∧ (G.1 0 11).toInt ≤ 1600 := bd_0_11 hB_G
  refine S_getI (v := (G.1 0 11)) (C := RX11) (T := TX11) (N := 13) hx hb hg iX11 hown hK hW kd_0 rfl 11 (lt_b rfl) (hg (Cond.fieldLink RX11 83 "SlabWalk" "taped" "I") m581) (fun _ h9 => h9) rfl rfl dX11_feed_1 ?_
  refine lv_bipush (v := 20) hx hb dX11_feed_4 (by decide) ?_
  refine lv_iadd hx hb dX11_feed_6 ?_
  refine lv_topi (fun y_2 ey_2 => ?_)
  have ty_2 : y_2.toInt = (G.1 0 11).toInt + 20 := xI_add rfl rfl ey_2 (by omega) (by omega)
  refine lv_sipush (v := 1600) hx hb dX11_feed_7 (by decide) ?_
  refine lv_icmp_le (tgt := 15) hx hb dX11_feed_10 rfl (fun c_3 => ?_) (fun c_3 => ?_)
  · have c_3 : y_2.toInt ≤ 1600 := xI_le rfl rfl c_3
    refine lv_aload_n hx hb dX11_feed_15 rfl (lv_at hl 0 rfl) ?_
    refine lv_iload_n hx hb dX11_feed_16 rfl (lv_at hl 1 rfl) ?_
    refine S_callv (va_runV (As := [.int p0]) (rest := []) ⟨hx, hb, hml, hown, hts⟩ (k_Wfeed1 l D k A a z G p0 (by omega)) (cwV 1 hts (gd_V hgd m614 m616 m2 m117 m617) rfl rfl rfl hd_X11_putOnTape ⟨Nat.le_of_ble_eq_true rfl, Nat.le_of_ble_eq_true rfl⟩) (pre_W hW hB_G hK hZ hS kd_0 rfl) rfl rfl hl.1 rfl (lv_room (Nat.le_of_ble_eq_true rfl)) dX11_feed_17 ⟨Nat.le_of_ble_eq_true rfl, Nat.le_of_ble_eq_true rfl⟩) hS (fun G_5 H locs hpo hW hS => ?_)
    have hX_8 : P_Wfeed1 p0 G G_5 := hpo
    obtain ⟨hB_G_5, hq_6, hp_7, -⟩ := hpo
    have hF := hF.call9 hq_6 rfl rfl
    refine lv_aload_n hx hb dX11_feed_20 rfl (lv_at hl 0 rfl) ?_
    refine lv_iload_n hx hb dX11_feed_21 rfl (lv_at hl 2 rfl) ?_
    have b_9 : 0 ≤ (G_5.1 0 11).toInt ∧ (G_5.1 0 11).toInt ≤ 1600 := bd_0_11 hB_G_5
    refine S_callv (va_runV (As := [.int p1]) (rest := []) ⟨hx, hb, hml, hown, hts⟩ (k_Wfeed1 l D k A a z G_5 p1 (by omega)) (cwV 1 hts (gd_V hgd m614 m616 m2 m117 m617) rfl rfl rfl hd_X11_putOnTape ⟨Nat.le_of_ble_eq_true rfl, Nat.le_of_ble_eq_true rfl⟩) (pre_W hW hB_G_5 hK hZ hS kd_0 rfl) rfl rfl hl.1 rfl (lv_room (Nat.le_of_ble_eq_true rfl)) dX11_feed_22 ⟨Nat.le_of_ble_eq_true rfl, Nat.le_of_ble_eq_true rfl⟩) hS (fun G_11 H locs hpo hW hS => ?_)
    have hX_14 : P_Wfeed1 p1 G_5 G_11 := hpo
    obtain ⟨hB_G_11, hq_12, hp_13, -⟩ := hpo
    have hF := hF.call9 hq_12 rfl rfl
    refine lv_aload_n hx hb dX11_feed_25 rfl (lv_at hl 0 rfl) ?_
    refine lv_iload_n hx hb dX11_feed_26 rfl (lv_at hl 3 rfl) ?_
    have b_15 : 0 ≤ (G_11.1 0 11).toInt ∧ (G_11.1 0 11).toInt ≤ 1600 := bd_0_11 hB_G_11
    refine S_callv (va_runV (As := [.int p2]) (rest := []) ⟨hx, hb, hml, hown, hts⟩ (k_Wfeed1 l D k A a z G_11 p2 (by omega)) (cwV 1 hts (gd_V hgd m614 m616 m2 m117 m617) rfl rfl rfl hd_X11_putOnTape ⟨Nat.le_of_ble_eq_true rfl, Nat.le_of_ble_eq_true rfl⟩) (pre_W hW hB_G_11 hK hZ hS kd_0 rfl) rfl rfl hl.1 rfl (lv_room (Nat.le_of_ble_eq_true rfl)) dX11_feed_27 ⟨Nat.le_of_ble_eq_true rfl, Nat.le_of_ble_eq_true rfl⟩) hS (fun G_17 H locs hpo hW hS => ?_)
    have hX_20 : P_Wfeed1 p2 G_11 G_17 := hpo
    obtain ⟨hB_G_17, hq_18, hp_19, -⟩ := hpo
    have hF := hF.call9 hq_18 rfl rfl
    refine lv_aload_n hx hb dX11_feed_30 rfl (lv_at hl 0 rfl) ?_
    refine lv_iload hx hb dX11_feed_31 (lv_at hl 4 rfl) ?_
    have b_21 : 0 ≤ (G_17.1 0 11).toInt ∧ (G_17.1 0 11).toInt ≤ 1600 := bd_0_11 hB_G_17
    refine S_callv (va_runV (As := [.int p3]) (rest := []) ⟨hx, hb, hml, hown, hts⟩ (k_Wfeed1 l D k A a z G_17 p3 (by omega)) (cwV 1 hts (gd_V hgd m614 m616 m2 m117 m617) rfl rfl rfl hd_X11_putOnTape ⟨Nat.le_of_ble_eq_true rfl, Nat.le_of_ble_eq_true rfl⟩) (pre_W hW hB_G_17 hK hZ hS kd_0 rfl) rfl rfl hl.1 rfl (lv_room (Nat.le_of_ble_eq_true rfl)) dX11_feed_33 ⟨Nat.le_of_ble_eq_true rfl, Nat.le_of_ble_eq_true rfl⟩) hS (fun G_23 H locs hpo hW hS => ?_)
    have hX_26 : P_Wfeed1 p3 G_17 G_23 := hpo
    obtain ⟨hB_G_23, hq_24, hp_25, -⟩ := hpo
    have hF := hF.call9 hq_24 rfl rfl
    refine lv_aload_n hx hb dX11_feed_36 rfl (lv_at hl 0 rfl) ?_
    refine lv_iload hx hb dX11_feed_37 (lv_at hl 5 rfl) ?_
    have b_27 : 0 ≤ (G_23.1 0 11).toInt ∧ (G_23.1 0 11).toInt ≤ 1600 := bd_0_11 hB_G_23
    refine S_callv (va_runV (As := [.int p4]) (rest := []) ⟨hx, hb, hml, hown, hts⟩ (k_Wfeed1 l D k A a z G_23 p4 (by omega)) (cwV 1 hts (gd_V hgd m614 m616 m2 m117 m617) rfl rfl rfl hd_X11_putOnTape ⟨Nat.le_of_ble_eq_true rfl, Nat.le_of_ble_eq_true rfl⟩) (pre_W hW hB_G_23 hK hZ hS kd_0 rfl) rfl rfl hl.1 rfl (lv_room (Nat.le_of_ble_eq_true rfl)) dX11_feed_39 ⟨Nat.le_of_ble_eq_true rfl, Nat.le_of_ble_eq_true rfl⟩) hS (fun G_29 H locs hpo hW hS => ?_)
    have hX_32 : P_Wfeed1 p4 G_23 G_29 := hpo
    obtain ⟨hB_G_29, hq_30, hp_31, -⟩ := hpo
    have hF := hF.call9 hq_30 rfl rfl
    refine lv_aload_n hx hb dX11_feed_42 rfl (lv_at hl 0 rfl) ?_
    have b_33 : 0 ≤ (G_29.1 0 11).toInt ∧ (G_29.1 0 11).toInt ≤ 1600 := bd_0_11 hB_G_29
    refine S_getI (v := (G_29.1 0 11)) (C := RX11) (T := TX11) (N := 13) hx hb hg iX11 hown hK hW kd_0 rfl 11 (lt_b rfl) (hg (Cond.fieldLink RX11 83 "SlabWalk" "taped" "I") m581) (fun _ h9 => h9) rfl rfl dX11_feed_43 ?_
    exact W.iret (v := (G_29.1 0 11)) hx hb hr (fun t ht _ => ⟨⟨(G_29.1 0 11), G_29, rfl, (P_Wfeed_mk ⟨hB_G_29, hF, ((by first | exact ⟨(fun h9 => ⟨(by omega), (by omega)⟩), (fun h9 => ⟨(by omega), (by omega)⟩)⟩ | omega)), ⟨y_2, ty_2, (Or.inl ⟨c_3, ⟨G_5, hX_8, ⟨G_11, hX_14, ⟨G_17, hX_20, ⟨G_23, hX_26, ⟨G_29, hX_32, ⟨rfl, rfl⟩⟩⟩⟩⟩⟩⟩)⟩⟩), wd_t ht hW⟩, hS.F ht⟩) hS.2.2 dX11_feed_46
  · have c_3 : 1600 < y_2.toInt := xI_nle rfl rfl c_3
    refine ic_m1 hx hb dX11_feed_13 ?_
    exact W.iret (v := (-1)) hx hb hr (fun t ht _ => ⟨⟨(-1), G, rfl, (P_Wfeed_mk ⟨hB_G, hF, (by have hq : ((-1) : Int32).toInt = (-1) := rfl; (try dsimp only); omega), ⟨y_2, ty_2, (Or.inr ⟨c_3, ⟨rfl, rfl⟩⟩)⟩⟩), wd_t ht hW⟩, hS.F ht⟩) hS.2.2 dX11_feed_14

set_option maxHeartbeats 4000000 in
set_option maxRecDepth 100000 in
theorem k_Wend (l : Launch) (D : va_G) (k : KT) (A : Nat → Prop) (a : Nat → Nat) (z : SK) (G : GS) (p0 : Int32)  : Met l yX11_end (WS yX11_end cX11_end 2 (some .int)) ({ frames := 0, cells := 0, slots := 0, locals := 0 }) (va_Pc [.ref (a 0), .int p0] (cW D k A a z G)) (va_Qi (fun (r : Int32) (G1 : GS) => P_Wend p0 G r G1) (fun (G1 : GS) t => Wd D k A a G1 t.heap) A) 0 0 A := by
  refine Met.ofW (cc := cX11_end) (maxL := 2) (ret := (some .int)) (by decide) rfl ?_
  intro p e s m args below meth c s₁ B hml hv
  obtain ⟨rfl, hW, hB_G, hK, hZ⟩ := hv
  have hx := B.exec
  have hb := B.bytes
  have hr := B.returns
  have hts := atoms_spec (ws := WS yX11_end cX11_end 2 (some .int)) B.pre
  have hgd : ∀ w ∈ gd, w ∈ WS yX11_end cX11_end 2 (some .int) := fun w h => List.mem_cons_of_mem _ h
  have hg : ∀ w ∈ gd, w.before _ s = true := fun w h => hts w (hgd w h)
  have hown : s.vm.findClass RX11 = some m.cls := findClass_of_methodNamed B.named
  have hS : va_S A s.heap s.heap [] := va_S.rf
  have hF : Fr [] [(0, 11)] G G := Fr.rf
  have hl := lv_entry ([.ref (a 0), .int p0]) (n := 2) (Nat.le_of_ble_eq_true rfl)
  rw [lg_entry_eq]
  generalize (lg_sl ([.ref (a 0), .int p0]) ++ List.replicate (2 - (lg_sl ([.ref (a 0), .int p0])).length) Slot.unset).toArray = ls at hl ⊢
  have hl : lv_has ls 2 [(0, .ref (a 0)), (1, .int p0)] := hl
  refine lv_iload_n hx hb dX11_end_0 rfl (lv_at hl 1 rfl) ?_
  refine lv_if_lt (tgt := 12) hx hb dX11_end_1 rfl (fun c_1 => ?_) (fun c_1 => ?_)
  · have c_1 : p0.toInt < 0 := xI_lt rfl rfl c_1
    refine ic_m1 hx hb dX11_end_12 ?_
    have b_2 : 0 ≤ (G.1 0 11).toInt ∧ (G.1 0 11).toInt ≤ 1600 := bd_0_11 hB_G
    exact W.iret (v := (-1)) hx hb hr (fun t ht _ => ⟨⟨(-1), G, rfl, (P_Wend_mk ⟨hB_G, hF, (by have hq : ((-1) : Int32).toInt = (-1) := rfl; (try dsimp only); omega), (Or.inl ⟨c_1, ⟨rfl, rfl⟩⟩)⟩), wd_t ht hW⟩, hS.F ht⟩) hS.2.2 dX11_end_13
  · have c_1 : 0 ≤ p0.toInt := xI_nlt rfl rfl c_1
    refine lv_iload_n hx hb dX11_end_4 rfl (lv_at hl 1 rfl) ?_
    refine lv_aload_n hx hb dX11_end_5 rfl (lv_at hl 0 rfl) ?_
    have b_3 : 0 ≤ (G.1 0 11).toInt ∧ (G.1 0 11).toInt ≤ 1600 := bd_0_11 hB_G
    refine S_getI (v := (G.1 0 11)) (C := RX11) (T := TX11) (N := 13) hx hb hg iX11 hown hK hW kd_0 rfl 11 (lt_b rfl) (hg (Cond.fieldLink RX11 83 "SlabWalk" "taped" "I") m581) (fun _ h9 => h9) rfl rfl dX11_end_6 ?_
    refine lv_icmp_le (tgt := 14) hx hb dX11_end_9 rfl (fun c_4 => ?_) (fun c_4 => ?_)
    · have c_4 : p0.toInt ≤ (G.1 0 11).toInt := xI_le rfl rfl c_4
      refine lv_aload_n hx hb dX11_end_14 rfl (lv_at hl 0 rfl) ?_
      refine lv_iload_n hx hb dX11_end_15 rfl (lv_at hl 1 rfl) ?_
      refine S_putI (ty := .int) (C := RX11) (T := TX11) (N := 13) hx hb hg iX11 tyX11 tyX11_ok nmX11 hown hK hW hS kd_0 rfl 11 (lt_b rfl) (hg (Cond.fieldLink RX11 83 "SlabWalk" "taped" "I") m581) (fun _ h9 => h9) rfl (by decide +kernel) rfl rfl rfl dX11_end_16 (fun G_5 H locs eG_5 hW hS => ?_)
      have hB_G_5 : Bd G_5 := hB_G.put (V := p0.toInt) (lo := 0) (hi := 1600) eG_5 rfl rfl rfl (by omega) (by omega) (hB_G.2.put eG_5 rfl)
      have hF := hF.put eG_5 (Or.inr (by decide))
      refine lv_iload_n hx hb dX11_end_19 rfl (lv_at hl 1 rfl) ?_
      have g_6 : (G_5.1 0 11).toInt = p0.toInt := (congrArg Int32.toInt (show G_5.1 0 11 = p0 from (gp_eq eG_5)))
      exact W.iret (v := p0) hx hb hr (fun t ht _ => ⟨⟨p0, G_5, rfl, (P_Wend_mk ⟨hB_G_5, hF, ((by first | exact ⟨(fun h9 => ⟨(by omega), (by omega)⟩), (fun h9 => ⟨(by omega), (by omega)⟩)⟩ | omega)), (Or.inr ⟨c_1, (Or.inl ⟨c_4, ⟨rfl, (Fr.put (rs := []) (fs := [(0, 11)]) Fr.rf eG_5 (Or.inr (by decide))), (gp_eq eG_5)⟩⟩)⟩)⟩), wd_t ht hW⟩, hS.F ht⟩) hS.2.2 dX11_end_20
    · have c_4 : (G.1 0 11).toInt < p0.toInt := xI_nle rfl rfl c_4
      refine ic_m1 hx hb dX11_end_12 ?_
      exact W.iret (v := (-1)) hx hb hr (fun t ht _ => ⟨⟨(-1), G, rfl, (P_Wend_mk ⟨hB_G, hF, (by have hq : ((-1) : Int32).toInt = (-1) := rfl; (try dsimp only); omega), (Or.inr ⟨c_1, (Or.inr ⟨c_4, ⟨rfl, rfl⟩⟩)⟩)⟩), wd_t ht hW⟩, hS.F ht⟩) hS.2.2 dX11_end_13

set_option maxHeartbeats 4000000 in
set_option maxRecDepth 100000 in
theorem k_Wfault (l : Launch) (D : va_G) (k : KT) (A : Nat → Prop) (a : Nat → Nat) (z : SK) (G : GS) (p0 : Int32)  : Met l yX11_fault (WS yX11_fault cX11_fault 2 (some .int)) ({ frames := 0, cells := 0, slots := 0, locals := 0 }) (va_Pc [.ref (a 0), .int p0] (cW D k A a z G)) (va_Qi (fun (r : Int32) (G1 : GS) => P_Wfault p0 G r G1) (fun (G1 : GS) t => Wd D k A a G1 t.heap) A) 0 0 A := by
  refine Met.ofW (cc := cX11_fault) (maxL := 2) (ret := (some .int)) (by decide) rfl ?_
  intro p e s m args below meth c s₁ B hml hv
  obtain ⟨rfl, hW, hB_G, hK, hZ⟩ := hv
  have hx := B.exec
  have hb := B.bytes
  have hr := B.returns
  have hts := atoms_spec (ws := WS yX11_fault cX11_fault 2 (some .int)) B.pre
  have hgd : ∀ w ∈ gd, w ∈ WS yX11_fault cX11_fault 2 (some .int) := fun w h => List.mem_cons_of_mem _ h
  have hg : ∀ w ∈ gd, w.before _ s = true := fun w h => hts w (hgd w h)
  have hown : s.vm.findClass RX11 = some m.cls := findClass_of_methodNamed B.named
  have hS : va_S A s.heap s.heap [] := va_S.rf
  have hF : Fr [] [] G G := Fr.rf
  have hl := lv_entry ([.ref (a 0), .int p0]) (n := 2) (Nat.le_of_ble_eq_true rfl)
  rw [lg_entry_eq]
  generalize (lg_sl ([.ref (a 0), .int p0]) ++ List.replicate (2 - (lg_sl ([.ref (a 0), .int p0])).length) Slot.unset).toArray = ls at hl ⊢
  have hl : lv_has ls 2 [(0, .ref (a 0)), (1, .int p0)] := hl
  refine lv_iload_n hx hb dX11_fault_0 rfl (lv_at hl 1 rfl) ?_
  refine lv_if_ne (tgt := 17) hx hb dX11_fault_1 rfl (fun c_1 => ?_) (fun c_1 => ?_)
  · have c_1 : p0.toInt ≠ 0 := xI_ne rfl rfl c_1
    refine lv_iload_n hx hb dX11_fault_17 rfl (lv_at hl 1 rfl) ?_
    refine ic_1 hx hb dX11_fault_18 ?_
    refine lv_icmp_ne (tgt := 35) hx hb dX11_fault_19 rfl (fun c_2 => ?_) (fun c_2 => ?_)
    · have c_2 : p0.toInt ≠ 1 := xI_ne rfl rfl c_2
      refine ic_m1 hx hb dX11_fault_35 ?_
      exact W.iret (v := (-1)) hx hb hr (fun t ht _ => ⟨⟨(-1), G, rfl, (P_Wfault_mk ⟨hB_G, hF, (Or.inr ⟨c_1, (Or.inr ⟨c_2, ⟨rfl, rfl⟩⟩)⟩)⟩), wd_t ht hW⟩, hS.F ht⟩) hS.2.2 dX11_fault_36
    · have c_2 : p0.toInt = 1 := xI_eq rfl rfl c_2
      refine lv_aload_n hx hb dX11_fault_22 rfl (lv_at hl 0 rfl) ?_
      refine S_getR (n := 5) (C := RX11) (T := TX11) (N := 13) hx hb hg iX11 hown hK hW kd_0 rfl 3 (lt_b rfl) (hg (Cond.fieldLink RX11 28 "SlabWalk" "reader" "LSlabWalk$Reader;") m573) (fun _ h9 => h9) rfl dX11_fault_23 ?_
      refine S_getR (n := 3) (C := RX7) (T := TX7) (N := 10) hx hb hg iX7 hown hK hW kd_5 rfl 0 (lt_b rfl) (hg (Cond.fieldLink RX11 98 "SlabWalk$Reader" "tokens" "LSlabWalk$Tokens;") m312) (fun _ h9 => h9) rfl dX11_fault_26 ?_
      have b_3 : (-1) ≤ (G.1 3 8).toInt ∧ (G.1 3 8).toInt ≤ 1600 := bd_3_8 hB_G
      refine S_getI (v := (G.1 3 8)) (C := RX9) (T := TX9) (N := 9) hx hb hg iX9 hown hK hW kd_3 rfl 8 (lt_b rfl) (hg (Cond.fieldLink RX11 107 "SlabWalk$Tokens" "faultPlace" "I") m273) (fun _ h9 => h9) rfl rfl dX11_fault_29 ?_
      refine lv_goto (tgt := 36) hx hb dX11_fault_32 rfl ?_
      exact W.iret (v := (G.1 3 8)) hx hb hr (fun t ht _ => ⟨⟨(G.1 3 8), G, rfl, (P_Wfault_mk ⟨hB_G, hF, (Or.inr ⟨c_1, (Or.inl ⟨c_2, ⟨rfl, rfl⟩⟩)⟩)⟩), wd_t ht hW⟩, hS.F ht⟩) hS.2.2 dX11_fault_36
  · have c_1 : p0.toInt = 0 := xI_eq rfl rfl c_1
    refine lv_aload_n hx hb dX11_fault_4 rfl (lv_at hl 0 rfl) ?_
    refine S_getR (n := 5) (C := RX11) (T := TX11) (N := 13) hx hb hg iX11 hown hK hW kd_0 rfl 3 (lt_b rfl) (hg (Cond.fieldLink RX11 28 "SlabWalk" "reader" "LSlabWalk$Reader;") m573) (fun _ h9 => h9) rfl dX11_fault_5 ?_
    refine S_getR (n := 3) (C := RX7) (T := TX7) (N := 10) hx hb hg iX7 hown hK hW kd_5 rfl 0 (lt_b rfl) (hg (Cond.fieldLink RX11 98 "SlabWalk$Reader" "tokens" "LSlabWalk$Tokens;") m312) (fun _ h9 => h9) rfl dX11_fault_8 ?_
    have b_4 : 0 ≤ (G.1 3 7).toInt ∧ (G.1 3 7).toInt ≤ 4 := bd_3_7 hB_G
    refine S_getI (v := (G.1 3 7)) (C := RX9) (T := TX9) (N := 9) hx hb hg iX9 hown hK hW kd_3 rfl 7 (lt_b rfl) (hg (Cond.fieldLink RX11 102 "SlabWalk$Tokens" "fault" "I") m271) (fun _ h9 => h9) rfl rfl dX11_fault_11 ?_
    refine lv_goto (tgt := 36) hx hb dX11_fault_14 rfl ?_
    exact W.iret (v := (G.1 3 7)) hx hb hr (fun t ht _ => ⟨⟨(G.1 3 7), G, rfl, (P_Wfault_mk ⟨hB_G, hF, (Or.inl ⟨c_1, ⟨rfl, rfl⟩⟩)⟩), wd_t ht hW⟩, hS.F ht⟩) hS.2.2 dX11_fault_36

set_option maxHeartbeats 4000000 in
set_option maxRecDepth 100000 in
theorem k_Wlies (l : Launch) (D : va_G) (k : KT) (A : Nat → Prop) (a : Nat → Nat) (z : SK) (G : GS) (p0 : Int32)  : Met l yX11_lies (WS yX11_lies cX11_lies 2 (some .int)) ({ frames := 0, cells := 0, slots := 0, locals := 0 }) (va_Pc [.ref (a 0), .int p0] (cW D k A a z G)) (va_Qi (fun (r : Int32) (G1 : GS) => P_Wlies p0 G r G1) (fun (G1 : GS) t => Wd D k A a G1 t.heap) A) 0 0 A := by
  refine Met.ofW (cc := cX11_lies) (maxL := 2) (ret := (some .int)) (by decide) rfl ?_
  intro p e s m args below meth c s₁ B hml hv
  obtain ⟨rfl, hW, hB_G, hK, hZ⟩ := hv
  have hx := B.exec
  have hb := B.bytes
  have hr := B.returns
  have hts := atoms_spec (ws := WS yX11_lies cX11_lies 2 (some .int)) B.pre
  have hgd : ∀ w ∈ gd, w ∈ WS yX11_lies cX11_lies 2 (some .int) := fun w h => List.mem_cons_of_mem _ h
  have hg : ∀ w ∈ gd, w.before _ s = true := fun w h => hts w (hgd w h)
  have hown : s.vm.findClass RX11 = some m.cls := findClass_of_methodNamed B.named
  have hS : va_S A s.heap s.heap [] := va_S.rf
  have hF : Fr [] [] G G := Fr.rf
  have hl := lv_entry ([.ref (a 0), .int p0]) (n := 2) (Nat.le_of_ble_eq_true rfl)
  rw [lg_entry_eq]
  generalize (lg_sl ([.ref (a 0), .int p0]) ++ List.replicate (2 - (lg_sl ([.ref (a 0), .int p0])).length) Slot.unset).toArray = ls at hl ⊢
  have hl : lv_has ls 2 [(0, .ref (a 0)), (1, .int p0)] := hl
  refine lv_iload_n hx hb dX11_lies_0 rfl (lv_at hl 1 rfl) ?_
  refine lv_if_lt (tgt := 21) hx hb dX11_lies_1 rfl (fun c_1 => ?_) (fun c_1 => ?_)
  · have c_1 : p0.toInt < 0 := xI_lt rfl rfl c_1
    refine ic_m1 hx hb dX11_lies_21 ?_
    exact W.iret (v := (-1)) hx hb hr (fun t ht _ => ⟨⟨(-1), G, rfl, (P_Wlies_mk ⟨hB_G, hF, (Or.inl ⟨c_1, ⟨rfl, rfl⟩⟩)⟩), wd_t ht hW⟩, hS.F ht⟩) hS.2.2 dX11_lies_22
  · have c_1 : 0 ≤ p0.toInt := xI_nlt rfl rfl c_1
    refine lv_iload_n hx hb dX11_lies_4 rfl (lv_at hl 1 rfl) ?_
    refine lv_aload_n hx hb dX11_lies_5 rfl (lv_at hl 0 rfl) ?_
    have b_2 : 0 ≤ (G.1 0 12).toInt ∧ (G.1 0 12).toInt ≤ 400 := bd_0_12 hB_G
    refine S_getI (v := (G.1 0 12)) (C := RX11) (T := TX11) (N := 13) hx hb hg iX11 hown hK hW kd_0 rfl 12 (lt_b rfl) (hg (Cond.fieldLink RX11 150 "SlabWalk" "lie" "I") m582) (fun _ h9 => h9) rfl rfl dX11_lies_6 ?_
    refine lv_icmp_ge (tgt := 21) hx hb dX11_lies_9 rfl (fun c_3 => ?_) (fun c_3 => ?_)
    · have c_3 : (G.1 0 12).toInt ≤ p0.toInt := xI_le rfl rfl c_3
      refine ic_m1 hx hb dX11_lies_21 ?_
      exact W.iret (v := (-1)) hx hb hr (fun t ht _ => ⟨⟨(-1), G, rfl, (P_Wlies_mk ⟨hB_G, hF, (Or.inr ⟨c_1, (Or.inl ⟨c_3, ⟨rfl, rfl⟩⟩)⟩)⟩), wd_t ht hW⟩, hS.F ht⟩) hS.2.2 dX11_lies_22
    · have c_3 : p0.toInt < (G.1 0 12).toInt := xI_nle rfl rfl c_3
      refine lv_aload_n hx hb dX11_lies_12 rfl (lv_at hl 0 rfl) ?_
      refine S_getR (n := 33) (C := RX11) (T := TX11) (N := 13) hx hb hg iX11 hown hK hW kd_0 rfl 10 (lt_b rfl) (hg (Cond.fieldLink RX11 76 "SlabWalk" "lying" "[I") m580) (fun _ h9 => h9) rfl dX11_lies_13 ?_
      refine lv_iload_n hx hb dX11_lies_16 rfl (lv_at hl 1 rfl) ?_
      refine S_iald hx hb hK hW kd_33 (vin (by omega) (by omega)) dX11_lies_17 (fun y_4 ey_4 => ?_)
      refine lv_goto (tgt := 22) hx hb dX11_lies_18 rfl ?_
      exact W.iret (v := y_4) hx hb hr (fun t ht _ => ⟨⟨y_4, G, rfl, (P_Wlies_mk ⟨hB_G, hF, (Or.inr ⟨c_1, (Or.inr ⟨c_3, ⟨y_4, ey_4, ⟨rfl, rfl⟩⟩⟩)⟩)⟩), wd_t ht hW⟩, hS.F ht⟩) hS.2.2 dX11_lies_22

set_option maxHeartbeats 4000000 in
set_option maxRecDepth 100000 in
theorem k_Wlater (l : Launch) (D : va_G) (k : KT) (A : Nat → Prop) (a : Nat → Nat) (z : SK) (G : GS) (p0 : Int32)  : Met l yX11_later (WS yX11_later cX11_later 2 (some .int)) ({ frames := 0, cells := 0, slots := 0, locals := 0 }) (va_Pc [.ref (a 0), .int p0] (cW D k A a z G)) (va_Qi (fun (r : Int32) (G1 : GS) => P_Wlater p0 G r G1) (fun (G1 : GS) t => Wd D k A a G1 t.heap) A) 0 0 A := by
  refine Met.ofW (cc := cX11_later) (maxL := 2) (ret := (some .int)) (by decide) rfl ?_
  intro p e s m args below meth c s₁ B hml hv
  obtain ⟨rfl, hW, hB_G, hK, hZ⟩ := hv
  have hx := B.exec
  have hb := B.bytes
  have hr := B.returns
  have hts := atoms_spec (ws := WS yX11_later cX11_later 2 (some .int)) B.pre
  have hgd : ∀ w ∈ gd, w ∈ WS yX11_later cX11_later 2 (some .int) := fun w h => List.mem_cons_of_mem _ h
  have hg : ∀ w ∈ gd, w.before _ s = true := fun w h => hts w (hgd w h)
  have hown : s.vm.findClass RX11 = some m.cls := findClass_of_methodNamed B.named
  have hS : va_S A s.heap s.heap [] := va_S.rf
  have hF : Fr [] [(31, 6)] G G := Fr.rf
  have hl := lv_entry ([.ref (a 0), .int p0]) (n := 2) (Nat.le_of_ble_eq_true rfl)
  rw [lg_entry_eq]
  generalize (lg_sl ([.ref (a 0), .int p0]) ++ List.replicate (2 - (lg_sl ([.ref (a 0), .int p0])).length) Slot.unset).toArray = ls at hl ⊢
  have hl : lv_has ls 2 [(0, .ref (a 0)), (1, .int p0)] := hl
  refine lv_iload_n hx hb dX11_later_0 rfl (lv_at hl 1 rfl) ?_
  refine lv_if_lt (tgt := 26) hx hb dX11_later_1 rfl (fun c_1 => ?_) (fun c_1 => ?_)
  · have c_1 : p0.toInt < 0 := xI_lt rfl rfl c_1
    refine ic_m1 hx hb dX11_later_26 ?_
    have b_2 : 0 ≤ (G.1 31 6).toInt ∧ (G.1 31 6).toInt ≤ 100000 := bd_31_6 hB_G
    exact W.iret (v := (-1)) hx hb hr (fun t ht _ => ⟨⟨(-1), G, rfl, (P_Wlater_mk ⟨hB_G, hF, (by have hq : ((-1) : Int32).toInt = (-1) := rfl; (try dsimp only); omega), (Or.inl ⟨c_1, ⟨rfl, rfl⟩⟩)⟩), wd_t ht hW⟩, hS.F ht⟩) hS.2.2 dX11_later_27
  · have c_1 : 0 ≤ p0.toInt := xI_nlt rfl rfl c_1
    refine lv_iload_n hx hb dX11_later_4 rfl (lv_at hl 1 rfl) ?_
    refine lv_sipush (v := 1000) hx hb dX11_later_5 (by decide) ?_
    refine lv_icmp_gt (tgt := 26) hx hb dX11_later_8 rfl (fun c_3 => ?_) (fun c_3 => ?_)
    · have c_3 : 1000 < p0.toInt := xI_lt rfl rfl c_3
      refine ic_m1 hx hb dX11_later_26 ?_
      have b_4 : 0 ≤ (G.1 31 6).toInt ∧ (G.1 31 6).toInt ≤ 100000 := bd_31_6 hB_G
      exact W.iret (v := (-1)) hx hb hr (fun t ht _ => ⟨⟨(-1), G, rfl, (P_Wlater_mk ⟨hB_G, hF, (by have hq : ((-1) : Int32).toInt = (-1) := rfl; (try dsimp only); omega), (Or.inr ⟨c_1, (Or.inl ⟨c_3, ⟨rfl, rfl⟩⟩)⟩)⟩), wd_t ht hW⟩, hS.F ht⟩) hS.2.2 dX11_later_27
    · have c_3 : p0.toInt ≤ 1000 := xI_nlt rfl rfl c_3
      refine lv_aload_n hx hb dX11_later_11 rfl (lv_at hl 0 rfl) ?_
      refine S_getR (n := 31) (C := RX11) (T := TX11) (N := 13) hx hb hg iX11 hown hK hW kd_0 rfl 9 (lt_b rfl) (hg (Cond.fieldLink RX11 72 "SlabWalk" "sights" "LSlabWalk$Sights;") m579) (fun _ h9 => h9) rfl dX11_later_12 ?_
      have b_5 : 0 ≤ (G.1 31 6).toInt ∧ (G.1 31 6).toInt ≤ 100000 := bd_31_6 hB_G
      refine S_getI (v := (G.1 31 6)) (C := RX8) (T := TX8) (N := 7) hx hb hg iX8 hown hK hW kd_31 rfl 6 (lt_b rfl) (hg (Cond.fieldLink RX11 278 "SlabWalk$Sights" "time" "I") m531) (fun _ h9 => h9) rfl rfl dX11_later_15 ?_
      refine lv_iload_n hx hb dX11_later_18 rfl (lv_at hl 1 rfl) ?_
      refine lv_iadd hx hb dX11_later_19 ?_
      refine lv_topi (fun y_6 ey_6 => ?_)
      have ty_6 : y_6.toInt = (G.1 31 6).toInt + p0.toInt := xI_add rfl rfl ey_6 (by omega) (by omega)
      refine lv_ldcw (v := 100000) hx hb hown (hg (Cond.constant RX11 281 100000) m1262) dX11_later_20 ?_
      refine lv_icmp_le (tgt := 28) hx hb dX11_later_23 rfl (fun c_7 => ?_) (fun c_7 => ?_)
      · have c_7 : y_6.toInt ≤ 100000 := xI_le rfl rfl c_7
        refine lv_aload_n hx hb dX11_later_28 rfl (lv_at hl 0 rfl) ?_
        refine S_getR (n := 31) (C := RX11) (T := TX11) (N := 13) hx hb hg iX11 hown hK hW kd_0 rfl 9 (lt_b rfl) (hg (Cond.fieldLink RX11 72 "SlabWalk" "sights" "LSlabWalk$Sights;") m579) (fun _ h9 => h9) rfl dX11_later_29 ?_
        refine lv_dup hx hb dX11_later_32 rfl ?_
        refine S_getI (v := (G.1 31 6)) (C := RX8) (T := TX8) (N := 7) hx hb hg iX8 hown hK hW kd_31 rfl 6 (lt_b rfl) (hg (Cond.fieldLink RX11 278 "SlabWalk$Sights" "time" "I") m531) (fun _ h9 => h9) rfl rfl dX11_later_33 ?_
        refine lv_iload_n hx hb dX11_later_36 rfl (lv_at hl 1 rfl) ?_
        refine lv_iadd hx hb dX11_later_37 ?_
        refine lv_topi (fun y_8 ey_8 => ?_)
        have ty_8 : y_8.toInt = (G.1 31 6).toInt + p0.toInt := xI_add rfl rfl ey_8 (by omega) (by omega)
        refine S_putI (ty := .int) (C := RX8) (T := TX8) (N := 7) hx hb hg iX8 tyX8 tyX8_ok nmX8 hown hK hW hS kd_31 rfl 6 (lt_b rfl) (hg (Cond.fieldLink RX11 278 "SlabWalk$Sights" "time" "I") m531) (fun _ h9 => h9) rfl (by decide +kernel) rfl rfl rfl dX11_later_38 (fun G_9 H locs eG_9 hW hS => ?_)
        have hB_G_9 : Bd G_9 := hB_G.put (V := y_8.toInt) (lo := 0) (hi := 100000) eG_9 rfl rfl rfl (by omega) (by omega) (hB_G.2.put eG_9 rfl)
        have hF := hF.put eG_9 (Or.inr (by decide))
        refine lv_aload_n hx hb dX11_later_41 rfl (lv_at hl 0 rfl) ?_
        refine S_getR (n := 31) (C := RX11) (T := TX11) (N := 13) hx hb hg iX11 hown hK hW kd_0 rfl 9 (lt_b rfl) (hg (Cond.fieldLink RX11 72 "SlabWalk" "sights" "LSlabWalk$Sights;") m579) (fun _ h9 => h9) rfl dX11_later_42 ?_
        refine S_getI (v := y_8) (C := RX8) (T := TX8) (N := 7) hx hb hg iX8 hown hK hW kd_31 rfl 6 (lt_b rfl) (hg (Cond.fieldLink RX11 278 "SlabWalk$Sights" "time" "I") m531) (fun _ h9 => h9) rfl (gp_eq eG_9) dX11_later_45 ?_
        have g_10 : (G_9.1 31 6).toInt = y_8.toInt := (congrArg Int32.toInt (show G_9.1 31 6 = y_8 from (gp_eq eG_9)))
        exact W.iret (v := y_8) hx hb hr (fun t ht _ => ⟨⟨y_8, G_9, rfl, (P_Wlater_mk ⟨hB_G_9, hF, ((by first | exact ⟨(fun h9 => ⟨(by omega), (by omega)⟩), (fun h9 => ⟨(by omega), (by omega)⟩)⟩ | omega)), (Or.inr ⟨c_1, (Or.inr ⟨c_3, ⟨y_6, ty_6, (Or.inl ⟨c_7, ⟨y_8, ty_8, ⟨rfl, (Fr.put (rs := []) (fs := [(31, 6)]) Fr.rf eG_9 (Or.inr (by decide))), (gp_eq eG_9)⟩⟩⟩)⟩⟩)⟩)⟩), wd_t ht hW⟩, hS.F ht⟩) hS.2.2 dX11_later_48
      · have c_7 : 100000 < y_6.toInt := xI_nle rfl rfl c_7
        refine ic_m1 hx hb dX11_later_26 ?_
        exact W.iret (v := (-1)) hx hb hr (fun t ht _ => ⟨⟨(-1), G, rfl, (P_Wlater_mk ⟨hB_G, hF, (by have hq : ((-1) : Int32).toInt = (-1) := rfl; (try dsimp only); omega), (Or.inr ⟨c_1, (Or.inr ⟨c_3, ⟨y_6, ty_6, (Or.inr ⟨c_7, ⟨rfl, rfl⟩⟩)⟩⟩)⟩)⟩), wd_t ht hW⟩, hS.F ht⟩) hS.2.2 dX11_later_27

set_option maxHeartbeats 4000000 in
set_option maxRecDepth 100000 in
theorem k_Wuntell (l : Launch) (D : va_G) (k : KT) (A : Nat → Prop) (a : Nat → Nat) (z : SK) (G : GS) (p0 : Int32)  : Met l yX11_untell (WS yX11_untell cX11_untell 2 (some .boolean)) ({ frames := 1, cells := 0, slots := 0, locals := 21 }) (va_Pc [.ref (a 0), .int p0] (cW D k A a z G)) (va_Qi (fun (r : Int32) (G1 : GS) => P_Wuntell p0 G r G1) (fun (G1 : GS) t => Wd D k A a G1 t.heap) A) 0 0 A := by
  refine Met.ofW (cc := cX11_untell) (maxL := 2) (ret := (some .boolean)) (by decide) rfl ?_
  intro p e s m args below meth c s₁ B hml hv
  obtain ⟨rfl, hW, hB_G, hK, hZ⟩ := hv
  have hx := B.exec
  have hb := B.bytes
  have hr := B.returns
  have hts := atoms_spec (ws := WS yX11_untell cX11_untell 2 (some .boolean)) B.pre
  have hgd : ∀ w ∈ gd, w ∈ WS yX11_untell cX11_untell 2 (some .boolean) := fun w h => List.mem_cons_of_mem _ h
  have hg : ∀ w ∈ gd, w.before _ s = true := fun w h => hts w (hgd w h)
  have hown : s.vm.findClass RX11 = some m.cls := findClass_of_methodNamed B.named
  have hS : va_S A s.heap s.heap [] := va_S.rf
  have hF : Fr [65] [] G G := Fr.rf
  have hl := lv_entry ([.ref (a 0), .int p0]) (n := 2) (Nat.le_of_ble_eq_true rfl)
  rw [lg_entry_eq]
  generalize (lg_sl ([.ref (a 0), .int p0]) ++ List.replicate (2 - (lg_sl ([.ref (a 0), .int p0])).length) Slot.unset).toArray = ls at hl ⊢
  have hl : lv_has ls 2 [(0, .ref (a 0)), (1, .int p0)] := hl
  refine lv_aload_n hx hb dX11_untell_0 rfl (lv_at hl 0 rfl) ?_
  refine S_getR (n := 31) (C := RX11) (T := TX11) (N := 13) hx hb hg iX11 hown hK hW kd_0 rfl 9 (lt_b rfl) (hg (Cond.fieldLink RX11 72 "SlabWalk" "sights" "LSlabWalk$Sights;") m579) (fun _ h9 => h9) rfl dX11_untell_1 ?_
  refine lv_iload_n hx hb dX11_untell_4 rfl (lv_at hl 1 rfl) ?_
  refine S_calli (va_runV (As := [.int p0]) (rest := []) ⟨hx, hb, hml, hown, hts⟩ (k_sTake l D k A a z G p0 ) (cwV 1 hts (gd_V hgd m1254 m1255 m1256 m128 m1257) rfl rfl rfl hd_X8_takeFrom ⟨Nat.le_of_ble_eq_true rfl, Nat.le_of_ble_eq_true rfl⟩) (pre_W hW hB_G hK hZ hS kd_31 rfl) rfl rfl hl.1 rfl (lv_room (Nat.le_of_ble_eq_true rfl)) dX11_untell_5 ⟨Nat.le_of_ble_eq_true rfl, Nat.le_of_ble_eq_true rfl⟩) hS (fun r_1 G_2 H locs hpo hW hS => ?_)
  have hX_5 : P_sTake p0 G r_1 G_2 := hpo
  obtain ⟨hB_G_2, hq_3, f_6, -⟩ := hpo
  have hF := hF.call9 hq_3 rfl rfl
  exact W.zret (v := r_1) hx hb hr (nar_z (by omega) (by omega)) (fun t ht _ => ⟨⟨r_1, G_2, rfl, (P_Wuntell_mk ⟨hB_G_2, hF, ⟨by omega, by omega⟩, ⟨r_1, G_2, hX_5, ⟨rfl, rfl⟩⟩⟩), wd_t ht hW⟩, hS.F ht⟩) hS.2.2 dX11_untell_8

set_option maxHeartbeats 4000000 in
set_option maxRecDepth 100000 in
theorem k_Wrain (l : Launch) (D : va_G) (k : KT) (A : Nat → Prop) (a : Nat → Nat) (z : SK) (G : GS)   : Met l yX11_rain (WS yX11_rain cX11_rain 1 (some .boolean)) ({ frames := 2, cells := 0, slots := 0, locals := 60 }) (va_Pc [.ref (a 0)] (cW D k A a z G)) (va_Qi (fun (r : Int32) (G1 : GS) => P_Wrain G r G1) (fun (G1 : GS) t => Wd D k A a G1 t.heap) A) 0 0 A := by
  refine Met.ofW (cc := cX11_rain) (maxL := 1) (ret := (some .boolean)) (by decide) rfl ?_
  intro p e s m args below meth c s₁ B hml hv
  obtain ⟨rfl, hW, hB_G, hK, hZ⟩ := hv
  have hx := B.exec
  have hb := B.bytes
  have hr := B.returns
  have hts := atoms_spec (ws := WS yX11_rain cX11_rain 1 (some .boolean)) B.pre
  have hgd : ∀ w ∈ gd, w ∈ WS yX11_rain cX11_rain 1 (some .boolean) := fun w h => List.mem_cons_of_mem _ h
  have hg : ∀ w ∈ gd, w.before _ s = true := fun w h => hts w (hgd w h)
  have hown : s.vm.findClass RX11 = some m.cls := findClass_of_methodNamed B.named
  have hS : va_S A s.heap s.heap [] := va_S.rf
  have hF : Fr [58, 59] [(30, 4), (30, 5)] G G := Fr.rf
  have hl := lv_entry ([.ref (a 0)]) (n := 1) (Nat.le_of_ble_eq_true rfl)
  rw [lg_entry_eq]
  generalize (lg_sl ([.ref (a 0)]) ++ List.replicate (1 - (lg_sl ([.ref (a 0)])).length) Slot.unset).toArray = ls at hl ⊢
  have hl : lv_has ls 1 [(0, .ref (a 0))] := hl
  refine lv_aload_n hx hb dX11_rain_0 rfl (lv_at hl 0 rfl) ?_
  refine S_getR (n := 30) (C := RX11) (T := TX11) (N := 13) hx hb hg iX11 hown hK hW kd_0 rfl 8 (lt_b rfl) (hg (Cond.fieldLink RX11 65 "SlabWalk" "earnest" "LSlabWalk$Earnest;") m578) (fun _ h9 => h9) rfl dX11_rain_1 ?_
  refine S_getR (n := 58) (C := RX1) (T := TX1) (N := 6) hx hb hg iX1 hown hK hW kd_30 rfl 0 (lt_b rfl) (hg (Cond.fieldLink RX11 246 "SlabWalk$Earnest" "now" "[I") m493) (fun _ h9 => h9) rfl dX11_rain_4 ?_
  refine lv_bipush (v := 9) hx hb dX11_rain_7 (by decide) ?_
  refine lv_dup2_11 hx hb dX11_rain_9 rfl rfl ?_
  refine S_iald hx hb hK hW kd_58 (vin (by decide) (by decide)) dX11_rain_10 (fun y_1 ey_1 => ?_)
  refine ic_1 hx hb dX11_rain_11 ?_
  refine lv_ixor hx hb dX11_rain_12 ?_
  refine lv_topi (fun y_2 ey_2 => ?_)
  refine S_iast hx hb hK hW hS kd_58 (vin (by decide) (by decide)) dX11_rain_13 (fun G_3 H locs eG_3 hW hS => ?_)
  have hB_G_3 : Bd G_3 := hB_G.put (lo := (-2147483648)) (hi := 2147483647) eG_3 rfl rfl rfl (tI_rng _).1 (tI_rng _).2 (hB_G.2.put eG_3 rfl)
  have hF := hF.put eG_3 (Or.inl (by decide))
  refine lv_aload_n hx hb dX11_rain_14 rfl (lv_at hl 0 rfl) ?_
  refine S_getR (n := 30) (C := RX11) (T := TX11) (N := 13) hx hb hg iX11 hown hK hW kd_0 rfl 8 (lt_b rfl) (hg (Cond.fieldLink RX11 65 "SlabWalk" "earnest" "LSlabWalk$Earnest;") m578) (fun _ h9 => h9) rfl dX11_rain_15 ?_
  refine S_callv (va_runV (As := []) (rest := []) ⟨hx, hb, hml, hown, hts⟩ (k_eKeep l D k A a z G_3  ) (cwV 0 hts (gd_V hgd m1178 m1179 m1180 m127 m1181) rfl rfl rfl hd_X1_keepAct ⟨Nat.le_of_ble_eq_true rfl, Nat.le_of_ble_eq_true rfl⟩) (pre_W hW hB_G_3 hK hZ hS kd_30 rfl) rfl rfl hl.1 rfl (lv_room (Nat.le_of_ble_eq_true rfl)) dX11_rain_18 ⟨Nat.le_of_ble_eq_true rfl, Nat.le_of_ble_eq_true rfl⟩) hS (fun G_5 H locs hpo hW hS => ?_)
  have hX_8 : P_eKeep G_3 G_5 := hpo
  obtain ⟨hB_G_5, hq_6, hp_7, -⟩ := hpo
  have hF := hF.call9 hq_6 rfl rfl
  refine lv_aload_n hx hb dX11_rain_21 rfl (lv_at hl 0 rfl) ?_
  refine S_getR (n := 30) (C := RX11) (T := TX11) (N := 13) hx hb hg iX11 hown hK hW kd_0 rfl 8 (lt_b rfl) (hg (Cond.fieldLink RX11 65 "SlabWalk" "earnest" "LSlabWalk$Earnest;") m578) (fun _ h9 => h9) rfl dX11_rain_22 ?_
  refine S_getR (n := 58) (C := RX1) (T := TX1) (N := 6) hx hb hg iX1 hown hK hW kd_30 rfl 0 (lt_b rfl) (hg (Cond.fieldLink RX11 246 "SlabWalk$Earnest" "now" "[I") m493) (fun _ h9 => h9) rfl dX11_rain_25 ?_
  refine lv_bipush (v := 9) hx hb dX11_rain_28 (by decide) ?_
  refine S_iald hx hb hK hW kd_58 (vin (by decide) (by decide)) dX11_rain_30 (fun y_9 ey_9 => ?_)
  refine ic_1 hx hb dX11_rain_31 ?_
  refine lv_icmp_ne (tgt := 39) hx hb dX11_rain_32 rfl (fun c_10 => ?_) (fun c_10 => ?_)
  · have c_10 : y_9.toInt ≠ 1 := xI_ne rfl rfl c_10
    refine ic_0 hx hb dX11_rain_39 ?_
    have b_11 : 0 ≤ (G_5.1 30 4).toInt ∧ (G_5.1 30 4).toInt ≤ 40 := bd_30_4 hB_G_5
    have b_12 : 0 ≤ (G_5.1 30 5).toInt ∧ (G_5.1 30 5).toInt ≤ 40 := bd_30_5 hB_G_5
    exact W.zret (v := 0) hx hb hr (by decide) (fun t ht _ => ⟨⟨0, G_5, rfl, (P_Wrain_mk ⟨hB_G_5, hF, ⟨by decide, by decide⟩, (by have hq : (0 : Int32).toInt = 0 := rfl; (try dsimp only); omega), ⟨y_1, ey_1, ⟨y_2, ey_2, ⟨G_3, hB_G_3, (Fr.put (rs := [58]) (fs := []) Fr.rf eG_3 (Or.inl (by decide))), rw_ast eG_3, ⟨G_5, hX_8, ⟨y_9, ey_9, (Or.inr ⟨c_10, ⟨rfl, rfl⟩⟩)⟩⟩⟩⟩⟩⟩), wd_t ht hW⟩, hS.F ht⟩) hS.2.2 dX11_rain_40
  · have c_10 : y_9.toInt = 1 := xI_eq rfl rfl c_10
    refine ic_1 hx hb dX11_rain_35 ?_
    refine lv_goto (tgt := 40) hx hb dX11_rain_36 rfl ?_
    have b_13 : 0 ≤ (G_5.1 30 4).toInt ∧ (G_5.1 30 4).toInt ≤ 40 := bd_30_4 hB_G_5
    have b_14 : 0 ≤ (G_5.1 30 5).toInt ∧ (G_5.1 30 5).toInt ≤ 40 := bd_30_5 hB_G_5
    exact W.zret (v := 1) hx hb hr (by decide) (fun t ht _ => ⟨⟨1, G_5, rfl, (P_Wrain_mk ⟨hB_G_5, hF, ⟨by decide, by decide⟩, (by have hq : (1 : Int32).toInt = 1 := rfl; (try dsimp only); omega), ⟨y_1, ey_1, ⟨y_2, ey_2, ⟨G_3, hB_G_3, (Fr.put (rs := [58]) (fs := []) Fr.rf eG_3 (Or.inl (by decide))), rw_ast eG_3, ⟨G_5, hX_8, ⟨y_9, ey_9, (Or.inl ⟨c_10, ⟨rfl, rfl⟩⟩)⟩⟩⟩⟩⟩⟩), wd_t ht hW⟩, hS.F ht⟩) hS.2.2 dX11_rain_40

set_option maxHeartbeats 4000000 in
set_option maxRecDepth 100000 in
theorem k_Wday (l : Launch) (D : va_G) (k : KT) (A : Nat → Prop) (a : Nat → Nat) (z : SK) (G : GS)  (he : (G.1 30 4).toInt + (G.1 30 5).toInt ≤ 40) : Met l yX11_day (WS yX11_day cX11_day 1 (some .int)) ({ frames := 2, cells := 0, slots := 0, locals := 60 }) (va_Pc [.ref (a 0)] (cW D k A a z G)) (va_Qi (fun (r : Int32) (G1 : GS) => P_Wday G r G1) (fun (G1 : GS) t => Wd D k A a G1 t.heap) A) 0 0 A := by
  refine Met.ofW (cc := cX11_day) (maxL := 1) (ret := (some .int)) (by decide) rfl ?_
  intro p e s m args below meth c s₁ B hml hv
  obtain ⟨rfl, hW, hB_G, hK, hZ⟩ := hv
  have hx := B.exec
  have hb := B.bytes
  have hr := B.returns
  have hts := atoms_spec (ws := WS yX11_day cX11_day 1 (some .int)) B.pre
  have hgd : ∀ w ∈ gd, w ∈ WS yX11_day cX11_day 1 (some .int) := fun w h => List.mem_cons_of_mem _ h
  have hg : ∀ w ∈ gd, w.before _ s = true := fun w h => hts w (hgd w h)
  have hown : s.vm.findClass RX11 = some m.cls := findClass_of_methodNamed B.named
  have hS : va_S A s.heap s.heap [] := va_S.rf
  have hF : Fr [58, 59] [(30, 4), (30, 5)] G G := Fr.rf
  have hl := lv_entry ([.ref (a 0)]) (n := 1) (Nat.le_of_ble_eq_true rfl)
  rw [lg_entry_eq]
  generalize (lg_sl ([.ref (a 0)]) ++ List.replicate (1 - (lg_sl ([.ref (a 0)])).length) Slot.unset).toArray = ls at hl ⊢
  have hl : lv_has ls 1 [(0, .ref (a 0))] := hl
  refine lv_aload_n hx hb dX11_day_0 rfl (lv_at hl 0 rfl) ?_
  refine S_calli (va_runV (As := []) (rest := []) ⟨hx, hb, hml, hown, hts⟩ (k_wToday l D k A a z G  ) (cwV 0 hts (gd_V hgd m911 m913 m27 m117 m914) rfl rfl rfl hd_X11_today ⟨Nat.le_of_ble_eq_true rfl, Nat.le_of_ble_eq_true rfl⟩) (pre_W hW hB_G hK hZ hS kd_0 rfl) rfl rfl hl.1 rfl (lv_room (Nat.le_of_ble_eq_true rfl)) dX11_day_1 ⟨Nat.le_of_ble_eq_true rfl, Nat.le_of_ble_eq_true rfl⟩) hS (fun r_1 G_2 H locs hpo hW hS => ?_)
  have hX_5 : P_wToday G r_1 G_2 := hpo
  obtain ⟨hB_G_2, hq_3, -⟩ := hpo
  have hF := hF.call9 hq_3 rfl rfl
  refine lv_sipush (v := 1000) hx hb dX11_day_4 (by decide) ?_
  refine lv_icmp_lt (tgt := 12) hx hb dX11_day_7 rfl (fun c_6 => ?_) (fun c_6 => ?_)
  · have c_6 : r_1.toInt < 1000 := xI_lt rfl rfl c_6
    refine lv_aload_n hx hb dX11_day_12 rfl (lv_at hl 0 rfl) ?_
    refine S_getR (n := 30) (C := RX11) (T := TX11) (N := 13) hx hb hg iX11 hown hK hW kd_0 rfl 8 (lt_b rfl) (hg (Cond.fieldLink RX11 65 "SlabWalk" "earnest" "LSlabWalk$Earnest;") m578) (fun _ h9 => h9) rfl dX11_day_13 ?_
    refine S_getR (n := 58) (C := RX1) (T := TX1) (N := 6) hx hb hg iX1 hown hK hW kd_30 rfl 0 (lt_b rfl) (hg (Cond.fieldLink RX11 246 "SlabWalk$Earnest" "now" "[I") m493) (fun _ h9 => h9) rfl dX11_day_16 ?_
    refine lv_bipush (v := 6) hx hb dX11_day_19 (by decide) ?_
    refine lv_dup2_11 hx hb dX11_day_21 rfl rfl ?_
    refine S_iald hx hb hK hW kd_58 (vin (by decide) (by decide)) dX11_day_22 (fun y_7 ey_7 => ?_)
    refine ic_1 hx hb dX11_day_23 ?_
    refine lv_iadd hx hb dX11_day_24 ?_
    refine lv_topi (fun y_8 ey_8 => ?_)
    refine S_iast hx hb hK hW hS kd_58 (vin (by decide) (by decide)) dX11_day_25 (fun G_9 H locs eG_9 hW hS => ?_)
    have hB_G_9 : Bd G_9 := hB_G_2.put (lo := (-2147483648)) (hi := 2147483647) eG_9 rfl rfl rfl (tI_rng _).1 (tI_rng _).2 (hB_G_2.2.put eG_9 rfl)
    have hF := hF.put eG_9 (Or.inl (by decide))
    refine lv_aload_n hx hb dX11_day_26 rfl (lv_at hl 0 rfl) ?_
    refine S_getR (n := 30) (C := RX11) (T := TX11) (N := 13) hx hb hg iX11 hown hK hW kd_0 rfl 8 (lt_b rfl) (hg (Cond.fieldLink RX11 65 "SlabWalk" "earnest" "LSlabWalk$Earnest;") m578) (fun _ h9 => h9) rfl dX11_day_27 ?_
    refine S_callv (va_runV (As := []) (rest := []) ⟨hx, hb, hml, hown, hts⟩ (k_eKeep l D k A a z G_9  ) (cwV 0 hts (gd_V hgd m1178 m1179 m1180 m127 m1181) rfl rfl rfl hd_X1_keepAct ⟨Nat.le_of_ble_eq_true rfl, Nat.le_of_ble_eq_true rfl⟩) (pre_W hW hB_G_9 hK hZ hS kd_30 rfl) rfl rfl hl.1 rfl (lv_room (Nat.le_of_ble_eq_true rfl)) dX11_day_30 ⟨Nat.le_of_ble_eq_true rfl, Nat.le_of_ble_eq_true rfl⟩) hS (fun G_11 H locs hpo hW hS => ?_)
    have hX_14 : P_eKeep G_9 G_11 := hpo
    obtain ⟨hB_G_11, hq_12, hp_13, -⟩ := hpo
    have hF := hF.call9 hq_12 rfl rfl
    refine lv_aload_n hx hb dX11_day_33 rfl (lv_at hl 0 rfl) ?_
    refine S_calli (va_runV (As := []) (rest := []) ⟨hx, hb, hml, hown, hts⟩ (k_wToday l D k A a z G_11  ) (cwV 0 hts (gd_V hgd m911 m913 m27 m117 m914) rfl rfl rfl hd_X11_today ⟨Nat.le_of_ble_eq_true rfl, Nat.le_of_ble_eq_true rfl⟩) (pre_W hW hB_G_11 hK hZ hS kd_0 rfl) rfl rfl hl.1 rfl (lv_room (Nat.le_of_ble_eq_true rfl)) dX11_day_34 ⟨Nat.le_of_ble_eq_true rfl, Nat.le_of_ble_eq_true rfl⟩) hS (fun r_15 G_16 H locs hpo hW hS => ?_)
    have hX_19 : P_wToday G_11 r_15 G_16 := hpo
    obtain ⟨hB_G_16, hq_17, -⟩ := hpo
    have hF := hF.call9 hq_17 rfl rfl
    have b_20 : 0 ≤ (G_11.1 30 4).toInt ∧ (G_11.1 30 4).toInt ≤ 40 := bd_30_4 hB_G_11
    have g_21 : (G_16.1 30 4).toInt = (G_11.1 30 4).toInt := (congrArg Int32.toInt (show G_16.1 30 4 = (G_11.1 30 4) from (hq_17.i9 30 4 rfl rfl)))
    have b_22 : 0 ≤ (G_11.1 30 5).toInt ∧ (G_11.1 30 5).toInt ≤ 40 := bd_30_5 hB_G_11
    have g_23 : (G_16.1 30 5).toInt = (G_11.1 30 5).toInt := (congrArg Int32.toInt (show G_16.1 30 5 = (G_11.1 30 5) from (hq_17.i9 30 5 rfl rfl)))
    exact W.iret (v := r_15) hx hb hr (fun t ht _ => ⟨⟨r_15, G_16, rfl, (P_Wday_mk ⟨hB_G_16, hF, (by omega), ⟨r_1, G_2, hX_5, (Or.inl ⟨c_6, ⟨y_7, ey_7, ⟨y_8, ey_8, ⟨G_9, hB_G_9, (Fr.put (rs := [58]) (fs := []) Fr.rf eG_9 (Or.inl (by decide))), rw_ast eG_9, ⟨G_11, hX_14, ⟨r_15, G_16, hX_19, ⟨rfl, rfl⟩⟩⟩⟩⟩⟩⟩)⟩⟩), wd_t ht hW⟩, hS.F ht⟩) hS.2.2 dX11_day_37
  · have c_6 : 1000 ≤ r_1.toInt := xI_nlt rfl rfl c_6
    refine ic_m1 hx hb dX11_day_10 ?_
    have b_24 : 0 ≤ (G.1 30 4).toInt ∧ (G.1 30 4).toInt ≤ 40 := bd_30_4 hB_G
    have g_25 : (G_2.1 30 4).toInt = (G.1 30 4).toInt := (congrArg Int32.toInt (show G_2.1 30 4 = (G.1 30 4) from (hq_3.i9 30 4 rfl rfl)))
    have b_26 : 0 ≤ (G.1 30 5).toInt ∧ (G.1 30 5).toInt ≤ 40 := bd_30_5 hB_G
    have g_27 : (G_2.1 30 5).toInt = (G.1 30 5).toInt := (congrArg Int32.toInt (show G_2.1 30 5 = (G.1 30 5) from (hq_3.i9 30 5 rfl rfl)))
    exact W.iret (v := (-1)) hx hb hr (fun t ht _ => ⟨⟨(-1), G_2, rfl, (P_Wday_mk ⟨hB_G_2, hF, (by have hq : ((-1) : Int32).toInt = (-1) := rfl; (try dsimp only); omega), ⟨r_1, G_2, hX_5, (Or.inr ⟨c_6, ⟨rfl, rfl⟩⟩)⟩⟩), wd_t ht hW⟩, hS.F ht⟩) hS.2.2 dX11_day_11

set_option maxHeartbeats 4000000 in
set_option maxRecDepth 100000 in
theorem k_Wundo (l : Launch) (D : va_G) (k : KT) (A : Nat → Prop) (a : Nat → Nat) (z : SK) (G : GS)  (he : (G.1 30 4).toInt + (G.1 30 5).toInt ≤ 40) : Met l yX11_undo (WS yX11_undo cX11_undo 1 (some .boolean)) ({ frames := 2, cells := 0, slots := 0, locals := 60 }) (va_Pc [.ref (a 0)] (cW D k A a z G)) (va_Qi (fun (r : Int32) (G1 : GS) => P_Wundo G r G1) (fun (G1 : GS) t => Wd D k A a G1 t.heap) A) 0 0 A := by
  refine Met.ofW (cc := cX11_undo) (maxL := 1) (ret := (some .boolean)) (by decide) rfl ?_
  intro p e s m args below meth c s₁ B hml hv
  obtain ⟨rfl, hW, hB_G, hK, hZ⟩ := hv
  have hx := B.exec
  have hb := B.bytes
  have hr := B.returns
  have hts := atoms_spec (ws := WS yX11_undo cX11_undo 1 (some .boolean)) B.pre
  have hgd : ∀ w ∈ gd, w ∈ WS yX11_undo cX11_undo 1 (some .boolean) := fun w h => List.mem_cons_of_mem _ h
  have hg : ∀ w ∈ gd, w.before _ s = true := fun w h => hts w (hgd w h)
  have hown : s.vm.findClass RX11 = some m.cls := findClass_of_methodNamed B.named
  have hS : va_S A s.heap s.heap [] := va_S.rf
  have hF : Fr [58] [(30, 4), (30, 5)] G G := Fr.rf
  have hl := lv_entry ([.ref (a 0)]) (n := 1) (Nat.le_of_ble_eq_true rfl)
  rw [lg_entry_eq]
  generalize (lg_sl ([.ref (a 0)]) ++ List.replicate (1 - (lg_sl ([.ref (a 0)])).length) Slot.unset).toArray = ls at hl ⊢
  have hl : lv_has ls 1 [(0, .ref (a 0))] := hl
  refine lv_aload_n hx hb dX11_undo_0 rfl (lv_at hl 0 rfl) ?_
  refine S_getR (n := 30) (C := RX11) (T := TX11) (N := 13) hx hb hg iX11 hown hK hW kd_0 rfl 8 (lt_b rfl) (hg (Cond.fieldLink RX11 65 "SlabWalk" "earnest" "LSlabWalk$Earnest;") m578) (fun _ h9 => h9) rfl dX11_undo_1 ?_
  have b_1 : 0 ≤ (G.1 30 4).toInt ∧ (G.1 30 4).toInt ≤ 40 := bd_30_4 hB_G
  have b_2 : 0 ≤ (G.1 30 5).toInt ∧ (G.1 30 5).toInt ≤ 40 := bd_30_5 hB_G
  refine S_calli (va_runV (As := []) (rest := []) ⟨hx, hb, hml, hown, hts⟩ (k_eBack l D k A a z G  (by omega)) (cwV 0 hts (gd_V hgd m1222 m1223 m1224 m127 m1225) rfl rfl rfl hd_X1_takeBack ⟨Nat.le_of_ble_eq_true rfl, Nat.le_of_ble_eq_true rfl⟩) (pre_W hW hB_G hK hZ hS kd_30 rfl) rfl rfl hl.1 rfl (lv_room (Nat.le_of_ble_eq_true rfl)) dX11_undo_4 ⟨Nat.le_of_ble_eq_true rfl, Nat.le_of_ble_eq_true rfl⟩) hS (fun r_3 G_4 H locs hpo hW hS => ?_)
  have hX_7 : P_eBack G r_3 G_4 := hpo
  obtain ⟨hB_G_4, hq_5, f_8, hp_6, -⟩ := hpo
  have hF := hF.call9 hq_5 rfl rfl
  have b_9 : 0 ≤ (G_4.1 30 4).toInt ∧ (G_4.1 30 4).toInt ≤ 40 := bd_30_4 hB_G_4
  have b_10 : 0 ≤ (G_4.1 30 5).toInt ∧ (G_4.1 30 5).toInt ≤ 40 := bd_30_5 hB_G_4
  exact W.zret (v := r_3) hx hb hr (nar_z ((by first | (clear he b_1 b_2 hp_6 b_9 b_10; omega) | omega)) ((by first | (clear he b_1 b_2 hp_6 b_9 b_10; omega) | omega))) (fun t ht _ => ⟨⟨r_3, G_4, rfl, (P_Wundo_mk ⟨hB_G_4, hF, ⟨(by first | (clear he b_1 b_2 hp_6 b_9 b_10; omega) | omega), (by first | (clear he b_1 b_2 hp_6 b_9 b_10; omega) | omega)⟩, ((by first | (clear he b_1 b_2 f_8; omega) | omega)), ⟨r_3, G_4, hX_7, ⟨rfl, rfl⟩⟩⟩), wd_t ht hW⟩, hS.F ht⟩) hS.2.2 dX11_undo_7

set_option maxHeartbeats 4000000 in
set_option maxRecDepth 100000 in
theorem k_Wredo (l : Launch) (D : va_G) (k : KT) (A : Nat → Prop) (a : Nat → Nat) (z : SK) (G : GS)  (he : (G.1 30 4).toInt + (G.1 30 5).toInt ≤ 40) : Met l yX11_redo (WS yX11_redo cX11_redo 1 (some .boolean)) ({ frames := 2, cells := 0, slots := 0, locals := 60 }) (va_Pc [.ref (a 0)] (cW D k A a z G)) (va_Qi (fun (r : Int32) (G1 : GS) => P_Wredo G r G1) (fun (G1 : GS) t => Wd D k A a G1 t.heap) A) 0 0 A := by
  refine Met.ofW (cc := cX11_redo) (maxL := 1) (ret := (some .boolean)) (by decide) rfl ?_
  intro p e s m args below meth c s₁ B hml hv
  obtain ⟨rfl, hW, hB_G, hK, hZ⟩ := hv
  have hx := B.exec
  have hb := B.bytes
  have hr := B.returns
  have hts := atoms_spec (ws := WS yX11_redo cX11_redo 1 (some .boolean)) B.pre
  have hgd : ∀ w ∈ gd, w ∈ WS yX11_redo cX11_redo 1 (some .boolean) := fun w h => List.mem_cons_of_mem _ h
  have hg : ∀ w ∈ gd, w.before _ s = true := fun w h => hts w (hgd w h)
  have hown : s.vm.findClass RX11 = some m.cls := findClass_of_methodNamed B.named
  have hS : va_S A s.heap s.heap [] := va_S.rf
  have hF : Fr [58] [(30, 4), (30, 5)] G G := Fr.rf
  have hl := lv_entry ([.ref (a 0)]) (n := 1) (Nat.le_of_ble_eq_true rfl)
  rw [lg_entry_eq]
  generalize (lg_sl ([.ref (a 0)]) ++ List.replicate (1 - (lg_sl ([.ref (a 0)])).length) Slot.unset).toArray = ls at hl ⊢
  have hl : lv_has ls 1 [(0, .ref (a 0))] := hl
  refine lv_aload_n hx hb dX11_redo_0 rfl (lv_at hl 0 rfl) ?_
  refine S_getR (n := 30) (C := RX11) (T := TX11) (N := 13) hx hb hg iX11 hown hK hW kd_0 rfl 8 (lt_b rfl) (hg (Cond.fieldLink RX11 65 "SlabWalk" "earnest" "LSlabWalk$Earnest;") m578) (fun _ h9 => h9) rfl dX11_redo_1 ?_
  have b_1 : 0 ≤ (G.1 30 4).toInt ∧ (G.1 30 4).toInt ≤ 40 := bd_30_4 hB_G
  have b_2 : 0 ≤ (G.1 30 5).toInt ∧ (G.1 30 5).toInt ≤ 40 := bd_30_5 hB_G
  refine S_calli (va_runV (As := []) (rest := []) ⟨hx, hb, hml, hown, hts⟩ (k_eAgain l D k A a z G  (by omega)) (cwV 0 hts (gd_V hgd m1230 m1231 m1232 m127 m1233) rfl rfl rfl hd_X1_doAgain ⟨Nat.le_of_ble_eq_true rfl, Nat.le_of_ble_eq_true rfl⟩) (pre_W hW hB_G hK hZ hS kd_30 rfl) rfl rfl hl.1 rfl (lv_room (Nat.le_of_ble_eq_true rfl)) dX11_redo_4 ⟨Nat.le_of_ble_eq_true rfl, Nat.le_of_ble_eq_true rfl⟩) hS (fun r_3 G_4 H locs hpo hW hS => ?_)
  have hX_7 : P_eAgain G r_3 G_4 := hpo
  obtain ⟨hB_G_4, hq_5, f_8, hp_6, -⟩ := hpo
  have hF := hF.call9 hq_5 rfl rfl
  have b_9 : 0 ≤ (G_4.1 30 4).toInt ∧ (G_4.1 30 4).toInt ≤ 40 := bd_30_4 hB_G_4
  have b_10 : 0 ≤ (G_4.1 30 5).toInt ∧ (G_4.1 30 5).toInt ≤ 40 := bd_30_5 hB_G_4
  exact W.zret (v := r_3) hx hb hr (nar_z ((by first | (clear he b_1 b_2 hp_6 b_9 b_10; omega) | omega)) ((by first | (clear he b_1 b_2 hp_6 b_9 b_10; omega) | omega))) (fun t ht _ => ⟨⟨r_3, G_4, rfl, (P_Wredo_mk ⟨hB_G_4, hF, ⟨(by first | (clear he b_1 b_2 hp_6 b_9 b_10; omega) | omega), (by first | (clear he b_1 b_2 hp_6 b_9 b_10; omega) | omega)⟩, ((by first | (clear he b_1 b_2 f_8; omega) | omega)), ⟨r_3, G_4, hX_7, ⟨rfl, rfl⟩⟩⟩), wd_t ht hW⟩, hS.F ht⟩) hS.2.2 dX11_redo_7

set_option maxHeartbeats 4000000 in
set_option maxRecDepth 100000 in
theorem k_Wwalker (l : Launch) (D : va_G) (k : KT) (A : Nat → Prop) (a : Nat → Nat) (z : SK) (G : GS) (p0 : Int32)  : Met l yX11_walker (WS yX11_walker cX11_walker 2 (some .int)) ({ frames := 0, cells := 0, slots := 0, locals := 0 }) (va_Pc [.ref (a 0), .int p0] (cW D k A a z G)) (va_Qi (fun (r : Int32) (G1 : GS) => P_Wwalker p0 G r G1) (fun (G1 : GS) t => Wd D k A a G1 t.heap) A) 0 0 A := by
  refine Met.ofW (cc := cX11_walker) (maxL := 2) (ret := (some .int)) (by decide) rfl ?_
  intro p e s m args below meth c s₁ B hml hv
  obtain ⟨rfl, hW, hB_G, hK, hZ⟩ := hv
  have hx := B.exec
  have hb := B.bytes
  have hr := B.returns
  have hts := atoms_spec (ws := WS yX11_walker cX11_walker 2 (some .int)) B.pre
  have hgd : ∀ w ∈ gd, w ∈ WS yX11_walker cX11_walker 2 (some .int) := fun w h => List.mem_cons_of_mem _ h
  have hg : ∀ w ∈ gd, w.before _ s = true := fun w h => hts w (hgd w h)
  have hown : s.vm.findClass RX11 = some m.cls := findClass_of_methodNamed B.named
  have hS : va_S A s.heap s.heap [] := va_S.rf
  have hF : Fr [] [] G G := Fr.rf
  have hl := lv_entry ([.ref (a 0), .int p0]) (n := 2) (Nat.le_of_ble_eq_true rfl)
  rw [lg_entry_eq]
  generalize (lg_sl ([.ref (a 0), .int p0]) ++ List.replicate (2 - (lg_sl ([.ref (a 0), .int p0])).length) Slot.unset).toArray = ls at hl ⊢
  have hl : lv_has ls 2 [(0, .ref (a 0)), (1, .int p0)] := hl
  refine lv_aload_n hx hb dX11_walker_0 rfl (lv_at hl 0 rfl) ?_
  refine S_getR (n := 30) (C := RX11) (T := TX11) (N := 13) hx hb hg iX11 hown hK hW kd_0 rfl 8 (lt_b rfl) (hg (Cond.fieldLink RX11 65 "SlabWalk" "earnest" "LSlabWalk$Earnest;") m578) (fun _ h9 => h9) rfl dX11_walker_1 ?_
  refine S_getR (n := 58) (C := RX1) (T := TX1) (N := 6) hx hb hg iX1 hown hK hW kd_30 rfl 0 (lt_b rfl) (hg (Cond.fieldLink RX11 246 "SlabWalk$Earnest" "now" "[I") m493) (fun _ h9 => h9) rfl dX11_walker_4 ?_
  refine ic_0 hx hb dX11_walker_7 ?_
  refine S_iald hx hb hK hW kd_58 (vin (by decide) (by decide)) dX11_walker_8 (fun y_1 ey_1 => ?_)
  refine ic_m1 hx hb dX11_walker_9 ?_
  refine lv_icmp_eq (tgt := 22) hx hb dX11_walker_10 rfl (fun c_2 => ?_) (fun c_2 => ?_)
  · have c_2 : y_1.toInt = (-1) := xI_eq rfl rfl c_2
    refine ic_m1 hx hb dX11_walker_22 ?_
    exact W.iret (v := (-1)) hx hb hr (fun t ht _ => ⟨⟨(-1), G, rfl, (P_Wwalker_mk ⟨hB_G, hF, ⟨y_1, ey_1, (Or.inl ⟨c_2, ⟨rfl, rfl⟩⟩)⟩⟩), wd_t ht hW⟩, hS.F ht⟩) hS.2.2 dX11_walker_23
  · have c_2 : y_1.toInt ≠ (-1) := xI_ne rfl rfl c_2
    refine lv_iload_n hx hb dX11_walker_13 rfl (lv_at hl 1 rfl) ?_
    refine lv_if_lt (tgt := 22) hx hb dX11_walker_14 rfl (fun c_3 => ?_) (fun c_3 => ?_)
    · have c_3 : p0.toInt < 0 := xI_lt rfl rfl c_3
      refine ic_m1 hx hb dX11_walker_22 ?_
      exact W.iret (v := (-1)) hx hb hr (fun t ht _ => ⟨⟨(-1), G, rfl, (P_Wwalker_mk ⟨hB_G, hF, ⟨y_1, ey_1, (Or.inr ⟨c_2, (Or.inl ⟨c_3, ⟨rfl, rfl⟩⟩)⟩)⟩⟩), wd_t ht hW⟩, hS.F ht⟩) hS.2.2 dX11_walker_23
    · have c_3 : 0 ≤ p0.toInt := xI_nlt rfl rfl c_3
      refine lv_iload_n hx hb dX11_walker_17 rfl (lv_at hl 1 rfl) ?_
      refine ic_5 hx hb dX11_walker_18 ?_
      refine lv_icmp_le (tgt := 24) hx hb dX11_walker_19 rfl (fun c_4 => ?_) (fun c_4 => ?_)
      · have c_4 : p0.toInt ≤ 5 := xI_le rfl rfl c_4
        refine lv_aload_n hx hb dX11_walker_24 rfl (lv_at hl 0 rfl) ?_
        refine S_getR (n := 30) (C := RX11) (T := TX11) (N := 13) hx hb hg iX11 hown hK hW kd_0 rfl 8 (lt_b rfl) (hg (Cond.fieldLink RX11 65 "SlabWalk" "earnest" "LSlabWalk$Earnest;") m578) (fun _ h9 => h9) rfl dX11_walker_25 ?_
        refine S_getR (n := 58) (C := RX1) (T := TX1) (N := 6) hx hb hg iX1 hown hK hW kd_30 rfl 0 (lt_b rfl) (hg (Cond.fieldLink RX11 246 "SlabWalk$Earnest" "now" "[I") m493) (fun _ h9 => h9) rfl dX11_walker_28 ?_
        refine lv_iload_n hx hb dX11_walker_31 rfl (lv_at hl 1 rfl) ?_
        refine S_iald hx hb hK hW kd_58 (vin (by omega) (by omega)) dX11_walker_32 (fun y_5 ey_5 => ?_)
        exact W.iret (v := y_5) hx hb hr (fun t ht _ => ⟨⟨y_5, G, rfl, (P_Wwalker_mk ⟨hB_G, hF, ⟨y_1, ey_1, (Or.inr ⟨c_2, (Or.inr ⟨c_3, (Or.inl ⟨c_4, ⟨y_5, ey_5, ⟨rfl, rfl⟩⟩⟩)⟩)⟩)⟩⟩), wd_t ht hW⟩, hS.F ht⟩) hS.2.2 dX11_walker_33
      · have c_4 : 5 < p0.toInt := xI_nle rfl rfl c_4
        refine ic_m1 hx hb dX11_walker_22 ?_
        exact W.iret (v := (-1)) hx hb hr (fun t ht _ => ⟨⟨(-1), G, rfl, (P_Wwalker_mk ⟨hB_G, hF, ⟨y_1, ey_1, (Or.inr ⟨c_2, (Or.inr ⟨c_3, (Or.inr ⟨c_4, ⟨rfl, rfl⟩⟩)⟩)⟩)⟩⟩), wd_t ht hW⟩, hS.F ht⟩) hS.2.2 dX11_walker_23

set_option maxHeartbeats 4000000 in
set_option maxRecDepth 100000 in
theorem k_Wimage (l : Launch) (D : va_G) (k : KT) (A : Nat → Prop) (a : Nat → Nat) (z : SK) (G : GS) (p0 : Int32) (he : (G.1 30 4).toInt + (G.1 30 5).toInt ≤ 40) : Met l yX11_image (WS yX11_image cX11_image 2 (some .int)) ({ frames := 2, cells := 0, slots := 0, locals := 61 }) (va_Pc [.ref (a 0), .int p0] (cW D k A a z G)) (va_Qi (fun (r : Int32) (G1 : GS) => P_Wimage p0 G r G1) (fun (G1 : GS) t => Wd D k A a G1 t.heap) A) 0 0 A := by
  refine Met.ofW (cc := cX11_image) (maxL := 2) (ret := (some .int)) (by decide) rfl ?_
  intro p e s m args below meth c s₁ B hml hv
  obtain ⟨rfl, hW, hB_G, hK, hZ⟩ := hv
  have hx := B.exec
  have hb := B.bytes
  have hr := B.returns
  have hts := atoms_spec (ws := WS yX11_image cX11_image 2 (some .int)) B.pre
  have hgd : ∀ w ∈ gd, w ∈ WS yX11_image cX11_image 2 (some .int) := fun w h => List.mem_cons_of_mem _ h
  have hg : ∀ w ∈ gd, w.before _ s = true := fun w h => hts w (hgd w h)
  have hown : s.vm.findClass RX11 = some m.cls := findClass_of_methodNamed B.named
  have hS : va_S A s.heap s.heap [] := va_S.rf
  have hF : Fr [60] [(30, 3)] G G := Fr.rf
  have hl := lv_entry ([.ref (a 0), .int p0]) (n := 2) (Nat.le_of_ble_eq_true rfl)
  rw [lg_entry_eq]
  generalize (lg_sl ([.ref (a 0), .int p0]) ++ List.replicate (2 - (lg_sl ([.ref (a 0), .int p0])).length) Slot.unset).toArray = ls at hl ⊢
  have hl : lv_has ls 2 [(0, .ref (a 0)), (1, .int p0)] := hl
  refine lv_aload_n hx hb dX11_image_0 rfl (lv_at hl 0 rfl) ?_
  refine S_getR (n := 30) (C := RX11) (T := TX11) (N := 13) hx hb hg iX11 hown hK hW kd_0 rfl 8 (lt_b rfl) (hg (Cond.fieldLink RX11 65 "SlabWalk" "earnest" "LSlabWalk$Earnest;") m578) (fun _ h9 => h9) rfl dX11_image_1 ?_
  refine lv_iload_n hx hb dX11_image_4 rfl (lv_at hl 1 rfl) ?_
  have b_1 : 0 ≤ (G.1 30 4).toInt ∧ (G.1 30 4).toInt ≤ 40 := bd_30_4 hB_G
  have b_2 : 0 ≤ (G.1 30 5).toInt ∧ (G.1 30 5).toInt ≤ 40 := bd_30_5 hB_G
  refine S_calli (va_runV (As := [.int p0]) (rest := []) ⟨hx, hb, hml, hown, hts⟩ (k_eIn l D k A a z G p0 (by omega)) (cwV 1 hts (gd_V hgd m1291 m1292 m1293 m127 m1294) rfl rfl rfl hd_X1_keepIn ⟨Nat.le_of_ble_eq_true rfl, Nat.le_of_ble_eq_true rfl⟩) (pre_W hW hB_G hK hZ hS kd_30 rfl) rfl rfl hl.1 rfl (lv_room (Nat.le_of_ble_eq_true rfl)) dX11_image_5 ⟨Nat.le_of_ble_eq_true rfl, Nat.le_of_ble_eq_true rfl⟩) hS (fun r_3 G_4 H locs hpo hW hS => ?_)
  have hX_7 : P_eIn p0 G r_3 G_4 := hpo
  obtain ⟨hB_G_4, hq_5, f_8, hp_6, -⟩ := hpo
  have hF := hF.call9 hq_5 rfl rfl
  refine lv_if_eq (tgt := 18) hx hb dX11_image_8 rfl (fun c_9 => ?_) (fun c_9 => ?_)
  · have c_9 : r_3.toInt = 0 := xI_eq rfl rfl c_9
    refine ic_m1 hx hb dX11_image_18 ?_
    have g_10 : (G_4.1 30 4).toInt = (G.1 30 4).toInt := (congrArg Int32.toInt (show G_4.1 30 4 = (G.1 30 4) from ((hq_5.i9 30 4 rfl rfl).trans (rfl))))
    have g_11 : (G_4.1 30 5).toInt = (G.1 30 5).toInt := (congrArg Int32.toInt (show G_4.1 30 5 = (G.1 30 5) from ((hq_5.i9 30 5 rfl rfl).trans (rfl))))
    exact W.iret (v := (-1)) hx hb hr (fun t ht _ => ⟨⟨(-1), G_4, rfl, (P_Wimage_mk ⟨hB_G_4, hF, (by have hq : ((-1) : Int32).toInt = (-1) := rfl; (try dsimp only); omega), ⟨r_3, G_4, hX_7, (Or.inl ⟨c_9, ⟨rfl, rfl⟩⟩)⟩⟩), wd_t ht hW⟩, hS.F ht⟩) hS.2.2 dX11_image_19
  · have c_9 : r_3.toInt ≠ 0 := xI_ne rfl rfl c_9
    refine lv_aload_n hx hb dX11_image_11 rfl (lv_at hl 0 rfl) ?_
    refine S_calli (va_runV (As := []) (rest := []) ⟨hx, hb, hml, hown, hts⟩ (k_wToday l D k A a z G_4  ) (cwV 0 hts (gd_V hgd m911 m913 m27 m117 m914) rfl rfl rfl hd_X11_today ⟨Nat.le_of_ble_eq_true rfl, Nat.le_of_ble_eq_true rfl⟩) (pre_W hW hB_G_4 hK hZ hS kd_0 rfl) rfl rfl hl.1 rfl (lv_room (Nat.le_of_ble_eq_true rfl)) dX11_image_12 ⟨Nat.le_of_ble_eq_true rfl, Nat.le_of_ble_eq_true rfl⟩) hS (fun r_12 G_13 H locs hpo hW hS => ?_)
    have hX_16 : P_wToday G_4 r_12 G_13 := hpo
    obtain ⟨hB_G_13, hq_14, -⟩ := hpo
    have hF := hF.call9 hq_14 rfl rfl
    refine lv_goto (tgt := 19) hx hb dX11_image_15 rfl ?_
    have g_17 : (G_13.1 30 4).toInt = (G.1 30 4).toInt := (congrArg Int32.toInt (show G_13.1 30 4 = (G.1 30 4) from ((hq_14.i9 30 4 rfl rfl).trans ((hq_5.i9 30 4 rfl rfl).trans (rfl)))))
    have g_18 : (G_13.1 30 5).toInt = (G.1 30 5).toInt := (congrArg Int32.toInt (show G_13.1 30 5 = (G.1 30 5) from ((hq_14.i9 30 5 rfl rfl).trans ((hq_5.i9 30 5 rfl rfl).trans (rfl)))))
    exact W.iret (v := r_12) hx hb hr (fun t ht _ => ⟨⟨r_12, G_13, rfl, (P_Wimage_mk ⟨hB_G_13, hF, ((by first | (clear f_8 hp_6 c_9; omega) | omega)), ⟨r_3, G_4, hX_7, (Or.inr ⟨c_9, ⟨r_12, G_13, hX_16, ⟨rfl, rfl⟩⟩⟩)⟩⟩), wd_t ht hW⟩, hS.F ht⟩) hS.2.2 dX11_image_19

set_option maxHeartbeats 4000000 in
set_option maxRecDepth 100000 in
theorem k_Wback (l : Launch) (D : va_G) (k : KT) (A : Nat → Prop) (a : Nat → Nat) (z : SK) (G : GS) (p0 : Int32) (he : (G.1 30 4).toInt + (G.1 30 5).toInt ≤ 40) : Met l yX11_back (WS yX11_back cX11_back 2 (some .int)) ({ frames := 3, cells := 0, slots := 0, locals := 81 }) (va_Pc [.ref (a 0), .int p0] (cW D k A a z G)) (va_Qi (fun (r : Int32) (G1 : GS) => P_Wback p0 G r G1) (fun (G1 : GS) t => Wd D k A a G1 t.heap) A) 0 0 A := by
  refine Met.ofW (cc := cX11_back) (maxL := 2) (ret := (some .int)) (by decide) rfl ?_
  intro p e s m args below meth c s₁ B hml hv
  obtain ⟨rfl, hW, hB_G, hK, hZ⟩ := hv
  have hx := B.exec
  have hb := B.bytes
  have hr := B.returns
  have hts := atoms_spec (ws := WS yX11_back cX11_back 2 (some .int)) B.pre
  have hgd : ∀ w ∈ gd, w ∈ WS yX11_back cX11_back 2 (some .int) := fun w h => List.mem_cons_of_mem _ h
  have hg : ∀ w ∈ gd, w.before _ s = true := fun w h => hts w (hgd w h)
  have hown : s.vm.findClass RX11 = some m.cls := findClass_of_methodNamed B.named
  have hS : va_S A s.heap s.heap [] := va_S.rf
  have hF : Fr [58, 59] [(30, 4), (30, 5)] G G := Fr.rf
  have hl := lv_entry ([.ref (a 0), .int p0]) (n := 2) (Nat.le_of_ble_eq_true rfl)
  rw [lg_entry_eq]
  generalize (lg_sl ([.ref (a 0), .int p0]) ++ List.replicate (2 - (lg_sl ([.ref (a 0), .int p0])).length) Slot.unset).toArray = ls at hl ⊢
  have hl : lv_has ls 2 [(0, .ref (a 0)), (1, .int p0)] := hl
  refine lv_aload_n hx hb dX11_back_0 rfl (lv_at hl 0 rfl) ?_
  refine S_getR (n := 30) (C := RX11) (T := TX11) (N := 13) hx hb hg iX11 hown hK hW kd_0 rfl 8 (lt_b rfl) (hg (Cond.fieldLink RX11 65 "SlabWalk" "earnest" "LSlabWalk$Earnest;") m578) (fun _ h9 => h9) rfl dX11_back_1 ?_
  refine lv_iload_n hx hb dX11_back_4 rfl (lv_at hl 1 rfl) ?_
  have b_1 : 0 ≤ (G.1 30 4).toInt ∧ (G.1 30 4).toInt ≤ 40 := bd_30_4 hB_G
  have b_2 : 0 ≤ (G.1 30 5).toInt ∧ (G.1 30 5).toInt ≤ 40 := bd_30_5 hB_G
  refine S_calli (va_runV (As := [.int p0]) (rest := []) ⟨hx, hb, hml, hown, hts⟩ (k_eFrom l D k A a z G p0 (by omega)) (cwV 1 hts (gd_V hgd m1299 m1300 m1301 m127 m1302) rfl rfl rfl hd_X1_bringFrom ⟨Nat.le_of_ble_eq_true rfl, Nat.le_of_ble_eq_true rfl⟩) (pre_W hW hB_G hK hZ hS kd_30 rfl) rfl rfl hl.1 rfl (lv_room (Nat.le_of_ble_eq_true rfl)) dX11_back_5 ⟨Nat.le_of_ble_eq_true rfl, Nat.le_of_ble_eq_true rfl⟩) hS (fun r_3 G_4 H locs hpo hW hS => ?_)
  have hX_7 : P_eFrom p0 G r_3 G_4 := hpo
  obtain ⟨hB_G_4, hq_5, f_8, hp_6, -⟩ := hpo
  have hF := hF.call9 hq_5 rfl rfl
  refine lv_if_eq (tgt := 18) hx hb dX11_back_8 rfl (fun c_9 => ?_) (fun c_9 => ?_)
  · have c_9 : r_3.toInt = 0 := xI_eq rfl rfl c_9
    refine ic_m1 hx hb dX11_back_18 ?_
    have b_10 : 0 ≤ (G_4.1 30 4).toInt ∧ (G_4.1 30 4).toInt ≤ 40 := bd_30_4 hB_G_4
    have b_11 : 0 ≤ (G_4.1 30 5).toInt ∧ (G_4.1 30 5).toInt ≤ 40 := bd_30_5 hB_G_4
    exact W.iret (v := (-1)) hx hb hr (fun t ht _ => ⟨⟨(-1), G_4, rfl, (P_Wback_mk ⟨hB_G_4, hF, (by have hq : ((-1) : Int32).toInt = (-1) := rfl; (try dsimp only); omega), ⟨r_3, G_4, hX_7, (Or.inl ⟨c_9, ⟨rfl, rfl⟩⟩)⟩⟩), wd_t ht hW⟩, hS.F ht⟩) hS.2.2 dX11_back_19
  · have c_9 : r_3.toInt ≠ 0 := xI_ne rfl rfl c_9
    refine lv_aload_n hx hb dX11_back_11 rfl (lv_at hl 0 rfl) ?_
    refine S_calli (va_runV (As := []) (rest := []) ⟨hx, hb, hml, hown, hts⟩ (k_wToday l D k A a z G_4  ) (cwV 0 hts (gd_V hgd m911 m913 m27 m117 m914) rfl rfl rfl hd_X11_today ⟨Nat.le_of_ble_eq_true rfl, Nat.le_of_ble_eq_true rfl⟩) (pre_W hW hB_G_4 hK hZ hS kd_0 rfl) rfl rfl hl.1 rfl (lv_room (Nat.le_of_ble_eq_true rfl)) dX11_back_12 ⟨Nat.le_of_ble_eq_true rfl, Nat.le_of_ble_eq_true rfl⟩) hS (fun r_12 G_13 H locs hpo hW hS => ?_)
    have hX_16 : P_wToday G_4 r_12 G_13 := hpo
    obtain ⟨hB_G_13, hq_14, -⟩ := hpo
    have hF := hF.call9 hq_14 rfl rfl
    refine lv_goto (tgt := 19) hx hb dX11_back_15 rfl ?_
    have b_17 : 0 ≤ (G_4.1 30 4).toInt ∧ (G_4.1 30 4).toInt ≤ 40 := bd_30_4 hB_G_4
    have g_18 : (G_13.1 30 4).toInt = (G_4.1 30 4).toInt := (congrArg Int32.toInt (show G_13.1 30 4 = (G_4.1 30 4) from (hq_14.i9 30 4 rfl rfl)))
    have b_19 : 0 ≤ (G_4.1 30 5).toInt ∧ (G_4.1 30 5).toInt ≤ 40 := bd_30_5 hB_G_4
    have g_20 : (G_13.1 30 5).toInt = (G_4.1 30 5).toInt := (congrArg Int32.toInt (show G_13.1 30 5 = (G_4.1 30 5) from (hq_14.i9 30 5 rfl rfl)))
    exact W.iret (v := r_12) hx hb hr (fun t ht _ => ⟨⟨r_12, G_13, rfl, (P_Wback_mk ⟨hB_G_13, hF, ((by first | (clear he b_1 b_2 f_8 c_9; omega) | omega)), ⟨r_3, G_4, hX_7, (Or.inr ⟨c_9, ⟨r_12, G_13, hX_16, ⟨rfl, rfl⟩⟩⟩)⟩⟩), wd_t ht hW⟩, hS.F ht⟩) hS.2.2 dX11_back_19

set_option maxHeartbeats 4000000 in
set_option maxRecDepth 100000 in
theorem k_Wfirst (l : Launch) (D : va_G) (k : KT) (A : Nat → Prop) (a : Nat → Nat) (z : SK) (G : GS) (p0 : Int32) (p1 : Int32) (p2 : Int32) (p3 : Int32) (p4 : Int32)  : Met l yX11_first (WS yX11_first cX11_first 9 (some .int)) ({ frames := 1, cells := 0, slots := 0, locals := 22 }) (va_Pc [.ref (a 0), .int p0, .int p1, .int p2, .int p3, .int p4] (cW D k A a z G)) (va_Qi (fun (r : Int32) (G1 : GS) => P_Wfirst p0 p1 p2 p3 p4 G r G1) (fun (G1 : GS) t => Wd D k A a G1 t.heap) A) 0 0 A := by
  refine Met.ofW (cc := cX11_first) (maxL := 9) (ret := (some .int)) (by decide) rfl ?_
  intro p e s m args below meth c s₁ B hml hv
  obtain ⟨rfl, hW, hB_G, hK, hZ⟩ := hv
  have hx := B.exec
  have hb := B.bytes
  have hr := B.returns
  have hts := atoms_spec (ws := WS yX11_first cX11_first 9 (some .int)) B.pre
  have hgd : ∀ w ∈ gd, w ∈ WS yX11_first cX11_first 9 (some .int) := fun w h => List.mem_cons_of_mem _ h
  have hg : ∀ w ∈ gd, w.before _ s = true := fun w h => hts w (hgd w h)
  have hown : s.vm.findClass RX11 = some m.cls := findClass_of_methodNamed B.named
  have hS : va_S A s.heap s.heap [] := va_S.rf
  have hF : Fr [] [] G G := Fr.rf
  have hl := lv_entry ([.ref (a 0), .int p0, .int p1, .int p2, .int p3, .int p4]) (n := 9) (Nat.le_of_ble_eq_true rfl)
  rw [lg_entry_eq]
  generalize (lg_sl ([.ref (a 0), .int p0, .int p1, .int p2, .int p3, .int p4]) ++ List.replicate (9 - (lg_sl ([.ref (a 0), .int p0, .int p1, .int p2, .int p3, .int p4])).length) Slot.unset).toArray = ls at hl ⊢
  have hl : lv_has ls 9 [(0, .ref (a 0)), (1, .int p0), (2, .int p1), (3, .int p2), (4, .int p3), (5, .int p4)] := hl
  refine lv_iload_n hx hb dX11_first_0 rfl (lv_at hl 1 rfl) ?_
  refine lv_iload_n hx hb dX11_first_1 rfl (lv_at hl 2 rfl) ?_
  refine lv_iload_n hx hb dX11_first_2 rfl (lv_at hl 3 rfl) ?_
  refine S_calli (va_runS (As := [.int p0, .int p1, .int p2]) (rest := []) ⟨hx, hb, hml, hown, hts⟩ (k_endless l D k A a z G p0 p1 p2 ) (va_cwS 3 hts (gd_S hgd m1069 m1070 m117 m1071) rfl rfl rfl hd_X11_isEndless.2 ⟨Nat.le_of_ble_eq_true rfl, Nat.le_of_ble_eq_true rfl⟩) (pre_S hW hB_G hK hZ hS) rfl rfl hl.1 rfl (lv_room (Nat.le_of_ble_eq_true rfl)) dX11_first_3 ⟨Nat.le_of_ble_eq_true rfl, Nat.le_of_ble_eq_true rfl⟩) hS (fun r_1 G_2 H locs hpo hW hS => ?_)
  have hX_5 : P_endless p0 p1 p2 G r_1 G_2 := hpo
  obtain ⟨hB_G_2, hq_3, f_6, hp_4, -⟩ := hpo
  have hF := hF.call9 hq_3 rfl rfl
  refine lv_if_eq (tgt := 35) hx hb dX11_first_6 rfl (fun c_7 => ?_) (fun c_7 => ?_)
  · have c_7 : r_1.toInt = 0 := xI_eq rfl rfl c_7
    refine lv_bipush (v := (-2)) hx hb dX11_first_35 (by decide) ?_
    exact W.iret (v := (-2)) hx hb hr (fun t ht _ => ⟨⟨(-2), G_2, rfl, (P_Wfirst_mk ⟨hB_G_2, hF, ⟨r_1, G_2, hX_5, (Or.inl ⟨c_7, ⟨rfl, rfl⟩⟩)⟩⟩), wd_t ht hW⟩, hS.F ht⟩) hS.2.2 dX11_first_37
  · have c_7 : r_1.toInt ≠ 0 := xI_ne rfl rfl c_7
    refine lv_iload hx hb dX11_first_9 (lv_at hl 4 rfl) ?_
    refine ic_1 hx hb dX11_first_11 ?_
    refine lv_icmp_lt (tgt := 35) hx hb dX11_first_12 rfl (fun c_8 => ?_) (fun c_8 => ?_)
    · have c_8 : p3.toInt < 1 := xI_lt rfl rfl c_8
      refine lv_bipush (v := (-2)) hx hb dX11_first_35 (by decide) ?_
      exact W.iret (v := (-2)) hx hb hr (fun t ht _ => ⟨⟨(-2), G_2, rfl, (P_Wfirst_mk ⟨hB_G_2, hF, ⟨r_1, G_2, hX_5, (Or.inr ⟨c_7, (Or.inl ⟨c_8, ⟨rfl, rfl⟩⟩)⟩)⟩⟩), wd_t ht hW⟩, hS.F ht⟩) hS.2.2 dX11_first_37
    · have c_8 : 1 ≤ p3.toInt := xI_nlt rfl rfl c_8
      refine lv_iload hx hb dX11_first_15 (lv_at hl 4 rfl) ?_
      refine lv_bipush (v := 99) hx hb dX11_first_17 (by decide) ?_
      refine lv_icmp_gt (tgt := 35) hx hb dX11_first_19 rfl (fun c_9 => ?_) (fun c_9 => ?_)
      · have c_9 : 99 < p3.toInt := xI_lt rfl rfl c_9
        refine lv_bipush (v := (-2)) hx hb dX11_first_35 (by decide) ?_
        exact W.iret (v := (-2)) hx hb hr (fun t ht _ => ⟨⟨(-2), G_2, rfl, (P_Wfirst_mk ⟨hB_G_2, hF, ⟨r_1, G_2, hX_5, (Or.inr ⟨c_7, (Or.inr ⟨c_8, (Or.inl ⟨c_9, ⟨rfl, rfl⟩⟩)⟩)⟩)⟩⟩), wd_t ht hW⟩, hS.F ht⟩) hS.2.2 dX11_first_37
      · have c_9 : p3.toInt ≤ 99 := xI_nlt rfl rfl c_9
        refine lv_iload hx hb dX11_first_22 (lv_at hl 5 rfl) ?_
        refine lv_if_lt (tgt := 35) hx hb dX11_first_24 rfl (fun c_10 => ?_) (fun c_10 => ?_)
        · have c_10 : p4.toInt < 0 := xI_lt rfl rfl c_10
          refine lv_bipush (v := (-2)) hx hb dX11_first_35 (by decide) ?_
          exact W.iret (v := (-2)) hx hb hr (fun t ht _ => ⟨⟨(-2), G_2, rfl, (P_Wfirst_mk ⟨hB_G_2, hF, ⟨r_1, G_2, hX_5, (Or.inr ⟨c_7, (Or.inr ⟨c_8, (Or.inr ⟨c_9, (Or.inl ⟨c_10, ⟨rfl, rfl⟩⟩)⟩)⟩)⟩)⟩⟩), wd_t ht hW⟩, hS.F ht⟩) hS.2.2 dX11_first_37
        · have c_10 : 0 ≤ p4.toInt := xI_nlt rfl rfl c_10
          refine lv_iload hx hb dX11_first_27 (lv_at hl 5 rfl) ?_
          refine lv_iload_n hx hb dX11_first_29 rfl (lv_at hl 1 rfl) ?_
          refine lv_iload_n hx hb dX11_first_30 rfl (lv_at hl 2 rfl) ?_
          refine lv_iadd hx hb dX11_first_31 ?_
          refine lv_topi (fun y_11 ey_11 => ?_)
          have ty_11 : y_11.toInt = p0.toInt + p1.toInt := xI_add rfl rfl ey_11 ((by first | (clear c_8 c_9 c_10; omega) | omega)) ((by first | (clear c_8 c_9 c_10; omega) | omega))
          refine lv_icmp_lt (tgt := 38) hx hb dX11_first_32 rfl (fun c_12 => ?_) (fun c_12 => ?_)
          · have c_12 : p4.toInt < y_11.toInt := xI_lt rfl rfl c_12
            refine lv_iload_n hx hb dX11_first_38 rfl (lv_at hl 1 rfl) ?_
            refine lv_iload_n hx hb dX11_first_39 rfl (lv_at hl 2 rfl) ?_
            refine lv_iadd hx hb dX11_first_40 ?_
            refine lv_topi (fun y_13 ey_13 => ?_)
            have ty_13 : y_13.toInt = p0.toInt + p1.toInt := xI_add rfl rfl ey_13 (by omega) (by omega)
            refine lv_istore (lv' := [(6, .int y_13), (0, .ref (a 0)), (1, .int p0), (2, .int p1), (3, .int p2), (4, .int p3), (5, .int p4)]) hx hb dX11_first_41 hl (lt_b rfl) rfl (fun ls hl => ?_)
            refine lv_iload hx hb dX11_first_43 (lv_at hl 6 rfl) ?_
            refine lv_istore (lv' := [(7, .int p4), (6, .int y_13), (0, .ref (a 0)), (1, .int p0), (2, .int p1), (3, .int p2), (4, .int p3), (5, .int p4)]) hx hb dX11_first_45 hl (lt_b rfl) rfl (fun ls hl => ?_)
            refine ic_0 hx hb dX11_first_47 ?_
            refine lv_istore (lv' := [(8, .int 0), (7, .int p4), (6, .int y_13), (0, .ref (a 0)), (1, .int p0), (2, .int p1), (3, .int p2), (4, .int p3), (5, .int p4)]) hx hb dX11_first_48 hl (lt_b rfl) rfl (fun ls hl => ?_)
            have qc_21 : (0 : Int32).toInt = 0 := rfl
            refine loop_N (Inv := fun n H locs ls => ∃ (G_14 : GS) (x_18 : Int32) (x_19 : Int32), (n : Int) = 69 - x_18.toInt ∧ (0 ≤ x_18.toInt ∧ x_18.toInt ≤ 69) ∧ Rc (St_k_Wfirst_1 p0 p1 p2 p3 y_13) (0, p4, G_2) (x_18, x_19, G_14) ∧ Wd D k A a G_14 H ∧ Bd G_14 ∧ Fr [] [] G G_14 ∧ Fr [] [] G_2 G_14 ∧ va_S A s.heap H locs ∧ lv_has ls 9 [(8, .int x_18), (7, .int x_19), (6, .int y_13), (1, .int p0), (2, .int p1), (3, .int p2), (4, .int p3)]) (fun n_17 H locs ls ih_16 hI => ?_) (69 - 0 : Int).toNat ⟨G_2, 0, p4, (Int.toNat_of_nonneg ((by first | (clear f_6 hp_4 c_7 c_8 c_9 c_10 ty_11 c_12 ty_13; omega) | omega))), ⟨(by first | (clear f_6 hp_4 c_7 c_8 c_9 c_10 ty_11 c_12 ty_13; omega) | omega), (by first | (clear f_6 hp_4 c_7 c_8 c_9 c_10 ty_11 c_12 ty_13; omega) | omega)⟩, Rc.rf, hW, hB_G_2, hF, Fr.rf, hS, lv_sub hl [0, 1, 2, 4, 5, 6, 7] rfl⟩
            obtain ⟨G_14, x_18, x_19, hn_23, f_22, hX_20, hW, hB_G_14, hF, hq_15, hS, hl⟩ := hI
            refine lv_iload hx hb dX11_first_50 (lv_at hl 0 rfl) ?_
            refine lv_iload hx hb dX11_first_52 (lv_at hl 2 rfl) ?_
            refine lv_icmp_ge (tgt := 88) hx hb dX11_first_54 rfl (fun c_24 => ?_) (fun c_24 => ?_)
            · have c_24 : y_13.toInt ≤ x_18.toInt := xI_le rfl rfl c_24
              refine ic_m1 hx hb dX11_first_88 ?_
              exact W.iret (v := (-1)) hx hb hr (fun t ht _ => ⟨⟨(-1), G_14, rfl, (P_Wfirst_mk ⟨hB_G_14, hF, ⟨r_1, G_2, hX_5, (Or.inr ⟨c_7, (Or.inr ⟨c_8, (Or.inr ⟨c_9, (Or.inr ⟨c_10, ⟨y_11, ty_11, (Or.inl ⟨c_12, ⟨y_13, ty_13, ⟨x_18, x_19, G_14, hX_20, f_22, hB_G_14, hq_15, (Or.inl ⟨c_24, ⟨rfl, rfl⟩⟩)⟩⟩⟩)⟩⟩)⟩)⟩)⟩)⟩⟩), wd_t ht hW⟩, hS.F ht⟩) hS.2.2 dX11_first_89
            · have c_24 : x_18.toInt < y_13.toInt := xI_nle rfl rfl c_24
              refine lv_iload_n hx hb dX11_first_57 rfl (lv_at hl 4 rfl) ?_
              refine lv_if_le (tgt := 72) hx hb dX11_first_58 rfl (fun c_25 => ?_) (fun c_25 => ?_)
              · have c_25 : p1.toInt ≤ 0 := xI_le rfl rfl c_25
                refine lv_iload hx hb dX11_first_72 (lv_at hl 1 rfl) ?_
                refine lv_iload hx hb dX11_first_74 (lv_at hl 6 rfl) ?_
                refine lv_iadd hx hb dX11_first_76 ?_
                refine lv_topi (fun y_26 ey_26 => ?_)
                refine lv_iload hx hb dX11_first_77 (lv_at hl 2 rfl) ?_
                refine lv_irem hx hb dX11_first_79 (fun q => by have q := xI_eq (Y := 0) rfl rfl q; omega) ?_
                refine lv_topi (fun y_27 ey_27 => ?_)
                refine lv_istore (lv' := [(7, .int y_27), (8, .int x_18), (6, .int y_13), (1, .int p0), (2, .int p1), (3, .int p2), (4, .int p3)]) hx hb dX11_first_80 hl (lt_b rfl) rfl (fun ls hl => ?_)
                obtain ⟨y_28, ey_28⟩ : ∃ q, q = x_18 + 1 := ⟨_, rfl⟩
                have ty_28 : y_28.toInt = x_18.toInt + 1 := xI_add rfl rfl ey_28 ((by first | (clear f_6 c_7 c_8 c_9 c_10 hn_23; omega) | omega)) ((by first | (clear f_6 c_7 c_8 c_9 c_10 hn_23; omega) | omega))
                refine lv_iinc (v := y_28) (lv' := [(8, .int y_28), (7, .int y_27), (6, .int y_13), (1, .int p0), (2, .int p1), (3, .int p2), (4, .int p3)]) hx hb dX11_first_82 hl (k := 1) rfl (by rw [ey_28]; rfl) (lt_b rfl) rfl (fun ls hl => ?_)
                refine lv_goto (tgt := 50) hx hb dX11_first_85 rfl ?_
                exact ih_16 (69 - y_28.toInt : Int).toNat ((by first | (clear f_6 c_7 c_8 c_9 c_10; omega) | omega)) _ _ _ ⟨G_14, y_28, y_27, (Int.toNat_of_nonneg ((by first | (clear f_6 c_7 c_8 c_9 c_10 hn_23; omega) | omega))), ⟨(by first | (clear f_6 c_7 c_8 c_9 c_10 hn_23; omega) | omega), (by first | (clear f_6 c_7 c_8 c_9 c_10 hn_23; omega) | omega)⟩, (hX_20.st (St_k_Wfirst_1_mk ⟨x_18, x_19, G_14, y_28, y_27, G_14, rfl, rfl, f_22, hB_G_14, ⟨c_24, (Or.inl ⟨c_25, ⟨y_26, ey_26, ⟨y_27, ey_27, ⟨y_28, ty_28, ⟨rfl, rfl, rfl⟩⟩⟩⟩⟩)⟩⟩)), hW, hB_G_14, hF, (Fr.call9 (rs := []) (fs := []) Fr.rf hq_15 rfl rfl), hS, lv_sub hl [0, 1, 2, 3, 4, 5, 6] rfl⟩
              · have c_25 : 0 < p1.toInt := xI_nle rfl rfl c_25
                refine lv_iload hx hb dX11_first_61 (lv_at hl 1 rfl) ?_
                refine lv_iload_n hx hb dX11_first_63 rfl (lv_at hl 5 rfl) ?_
                refine lv_iadd hx hb dX11_first_64 ?_
                refine lv_topi (fun y_29 ey_29 => ?_)
                refine lv_iload_n hx hb dX11_first_65 rfl (lv_at hl 3 rfl) ?_
                refine lv_icmp_le (tgt := 72) hx hb dX11_first_66 rfl (fun c_30 => ?_) (fun c_30 => ?_)
                · have c_30 : y_29.toInt ≤ p0.toInt := xI_le rfl rfl c_30
                  refine lv_iload hx hb dX11_first_72 (lv_at hl 1 rfl) ?_
                  refine lv_iload hx hb dX11_first_74 (lv_at hl 6 rfl) ?_
                  refine lv_iadd hx hb dX11_first_76 ?_
                  refine lv_topi (fun y_31 ey_31 => ?_)
                  refine lv_iload hx hb dX11_first_77 (lv_at hl 2 rfl) ?_
                  refine lv_irem hx hb dX11_first_79 (fun q => by have q := xI_eq (Y := 0) rfl rfl q; omega) ?_
                  refine lv_topi (fun y_32 ey_32 => ?_)
                  refine lv_istore (lv' := [(7, .int y_32), (8, .int x_18), (6, .int y_13), (1, .int p0), (2, .int p1), (3, .int p2), (4, .int p3)]) hx hb dX11_first_80 hl (lt_b rfl) rfl (fun ls hl => ?_)
                  obtain ⟨y_33, ey_33⟩ : ∃ q, q = x_18 + 1 := ⟨_, rfl⟩
                  have ty_33 : y_33.toInt = x_18.toInt + 1 := xI_add rfl rfl ey_33 ((by first | (clear f_6 c_7 c_8 c_9 c_10 hn_23; omega) | omega)) ((by first | (clear f_6 c_7 c_8 c_9 c_10 hn_23; omega) | omega))
                  refine lv_iinc (v := y_33) (lv' := [(8, .int y_33), (7, .int y_32), (6, .int y_13), (1, .int p0), (2, .int p1), (3, .int p2), (4, .int p3)]) hx hb dX11_first_82 hl (k := 1) rfl (by rw [ey_33]; rfl) (lt_b rfl) rfl (fun ls hl => ?_)
                  refine lv_goto (tgt := 50) hx hb dX11_first_85 rfl ?_
                  exact ih_16 (69 - y_33.toInt : Int).toNat ((by first | (clear f_6 c_7 c_8 c_9 c_10; omega) | omega)) _ _ _ ⟨G_14, y_33, y_32, (Int.toNat_of_nonneg ((by first | (clear f_6 c_7 c_8 c_9 c_10 hn_23; omega) | omega))), ⟨(by first | (clear f_6 c_7 c_8 c_9 c_10 hn_23; omega) | omega), (by first | (clear f_6 c_7 c_8 c_9 c_10 hn_23; omega) | omega)⟩, (hX_20.st (St_k_Wfirst_1_mk ⟨x_18, x_19, G_14, y_33, y_32, G_14, rfl, rfl, f_22, hB_G_14, ⟨c_24, (Or.inr ⟨c_25, ⟨y_29, ey_29, ⟨c_30, ⟨y_31, ey_31, ⟨y_32, ey_32, ⟨y_33, ty_33, ⟨rfl, rfl, rfl⟩⟩⟩⟩⟩⟩⟩)⟩⟩)), hW, hB_G_14, hF, (Fr.call9 (rs := []) (fs := []) Fr.rf hq_15 rfl rfl), hS, lv_sub hl [0, 1, 2, 3, 4, 5, 6] rfl⟩
                · have c_30 : p0.toInt < y_29.toInt := xI_nle rfl rfl c_30
                  refine lv_iload hx hb dX11_first_69 (lv_at hl 0 rfl) ?_
                  exact W.iret (v := x_18) hx hb hr (fun t ht _ => ⟨⟨x_18, G_14, rfl, (P_Wfirst_mk ⟨hB_G_14, hF, ⟨r_1, G_2, hX_5, (Or.inr ⟨c_7, (Or.inr ⟨c_8, (Or.inr ⟨c_9, (Or.inr ⟨c_10, ⟨y_11, ty_11, (Or.inl ⟨c_12, ⟨y_13, ty_13, ⟨x_18, x_19, G_14, hX_20, f_22, hB_G_14, hq_15, (Or.inr ⟨c_24, ⟨c_25, ⟨y_29, ey_29, ⟨c_30, ⟨rfl, rfl⟩⟩⟩⟩⟩)⟩⟩⟩)⟩⟩)⟩)⟩)⟩)⟩⟩), wd_t ht hW⟩, hS.F ht⟩) hS.2.2 dX11_first_71
          · have c_12 : y_11.toInt ≤ p4.toInt := xI_nlt rfl rfl c_12
            refine lv_bipush (v := (-2)) hx hb dX11_first_35 (by decide) ?_
            exact W.iret (v := (-2)) hx hb hr (fun t ht _ => ⟨⟨(-2), G_2, rfl, (P_Wfirst_mk ⟨hB_G_2, hF, ⟨r_1, G_2, hX_5, (Or.inr ⟨c_7, (Or.inr ⟨c_8, (Or.inr ⟨c_9, (Or.inr ⟨c_10, ⟨y_11, ty_11, (Or.inr ⟨c_12, ⟨rfl, rfl⟩⟩)⟩⟩)⟩)⟩)⟩)⟩⟩), wd_t ht hW⟩, hS.F ht⟩) hS.2.2 dX11_first_37

set_option maxHeartbeats 4000000 in
set_option maxRecDepth 100000 in
theorem k_Wbegin (l : Launch) (D : va_G) (k : KT) (A : Nat → Prop) (a : Nat → Nat) (z : SK) (G : GS) (p0 : Int32) (p1 : Int32) (p2 : Int32) (p3 : Int32)  : Met l yX11_begin (WS yX11_begin cX11_begin 5 (some .int)) ({ frames := 2, cells := 0, slots := 0, locals := 51 }) (va_Pc [.ref (a 0), .int p0, .int p1, .int p2, .int p3] (cW D k A a z G)) (va_Qi (fun (r : Int32) (G1 : GS) => P_Wbegin p0 p1 p2 p3 G r G1) (fun (G1 : GS) t => Wd D k A a G1 t.heap) A) 0 0 A := by
  refine Met.ofW (cc := cX11_begin) (maxL := 5) (ret := (some .int)) (by decide) rfl ?_
  intro p e s m args below meth c s₁ B hml hv
  obtain ⟨rfl, hW, hB_G, hK, hZ⟩ := hv
  have hx := B.exec
  have hb := B.bytes
  have hr := B.returns
  have hts := atoms_spec (ws := WS yX11_begin cX11_begin 5 (some .int)) B.pre
  have hgd : ∀ w ∈ gd, w ∈ WS yX11_begin cX11_begin 5 (some .int) := fun w h => List.mem_cons_of_mem _ h
  have hg : ∀ w ∈ gd, w.before _ s = true := fun w h => hts w (hgd w h)
  have hown : s.vm.findClass RX11 = some m.cls := findClass_of_methodNamed B.named
  have hS : va_S A s.heap s.heap [] := va_S.rf
  have hF : Fr [] [] G G := Fr.rf
  have hl := lv_entry ([.ref (a 0), .int p0, .int p1, .int p2, .int p3]) (n := 5) (Nat.le_of_ble_eq_true rfl)
  rw [lg_entry_eq]
  generalize (lg_sl ([.ref (a 0), .int p0, .int p1, .int p2, .int p3]) ++ List.replicate (5 - (lg_sl ([.ref (a 0), .int p0, .int p1, .int p2, .int p3])).length) Slot.unset).toArray = ls at hl ⊢
  have hl : lv_has ls 5 [(0, .ref (a 0)), (1, .int p0), (2, .int p1), (3, .int p2), (4, .int p3)] := hl
  refine lv_iload_n hx hb dX11_begin_0 rfl (lv_at hl 1 rfl) ?_
  refine lv_iload_n hx hb dX11_begin_1 rfl (lv_at hl 2 rfl) ?_
  refine lv_iload_n hx hb dX11_begin_2 rfl (lv_at hl 3 rfl) ?_
  refine S_calli (va_runS (As := [.int p0, .int p1, .int p2]) (rest := []) ⟨hx, hb, hml, hown, hts⟩ (k_endless l D k A a z G p0 p1 p2 ) (va_cwS 3 hts (gd_S hgd m1069 m1070 m117 m1071) rfl rfl rfl hd_X11_isEndless.2 ⟨Nat.le_of_ble_eq_true rfl, Nat.le_of_ble_eq_true rfl⟩) (pre_S hW hB_G hK hZ hS) rfl rfl hl.1 rfl (lv_room (Nat.le_of_ble_eq_true rfl)) dX11_begin_3 ⟨Nat.le_of_ble_eq_true rfl, Nat.le_of_ble_eq_true rfl⟩) hS (fun r_1 G_2 H locs hpo hW hS => ?_)
  have hX_5 : P_endless p0 p1 p2 G r_1 G_2 := hpo
  obtain ⟨hB_G_2, hq_3, f_6, hp_4, -⟩ := hpo
  have hF := hF.call9 hq_3 rfl rfl
  refine lv_if_eq (tgt := 22) hx hb dX11_begin_6 rfl (fun c_7 => ?_) (fun c_7 => ?_)
  · have c_7 : r_1.toInt = 0 := xI_eq rfl rfl c_7
    refine ic_m1 hx hb dX11_begin_22 ?_
    exact W.iret (v := (-1)) hx hb hr (fun t ht _ => ⟨⟨(-1), G_2, rfl, (P_Wbegin_mk ⟨hB_G_2, hF, ⟨r_1, G_2, hX_5, (Or.inl ⟨c_7, ⟨rfl, rfl⟩⟩)⟩⟩), wd_t ht hW⟩, hS.F ht⟩) hS.2.2 dX11_begin_23
  · have c_7 : r_1.toInt ≠ 0 := xI_ne rfl rfl c_7
    refine lv_iload hx hb dX11_begin_9 (lv_at hl 4 rfl) ?_
    refine ic_1 hx hb dX11_begin_11 ?_
    refine lv_icmp_lt (tgt := 22) hx hb dX11_begin_12 rfl (fun c_8 => ?_) (fun c_8 => ?_)
    · have c_8 : p3.toInt < 1 := xI_lt rfl rfl c_8
      refine ic_m1 hx hb dX11_begin_22 ?_
      exact W.iret (v := (-1)) hx hb hr (fun t ht _ => ⟨⟨(-1), G_2, rfl, (P_Wbegin_mk ⟨hB_G_2, hF, ⟨r_1, G_2, hX_5, (Or.inr ⟨c_7, (Or.inl ⟨c_8, ⟨rfl, rfl⟩⟩)⟩)⟩⟩), wd_t ht hW⟩, hS.F ht⟩) hS.2.2 dX11_begin_23
    · have c_8 : 1 ≤ p3.toInt := xI_nlt rfl rfl c_8
      refine lv_iload hx hb dX11_begin_15 (lv_at hl 4 rfl) ?_
      refine lv_bipush (v := 99) hx hb dX11_begin_17 (by decide) ?_
      refine lv_icmp_le (tgt := 24) hx hb dX11_begin_19 rfl (fun c_9 => ?_) (fun c_9 => ?_)
      · have c_9 : p3.toInt ≤ 99 := xI_le rfl rfl c_9
        refine lv_iload_n hx hb dX11_begin_24 rfl (lv_at hl 1 rfl) ?_
        refine lv_iload_n hx hb dX11_begin_25 rfl (lv_at hl 2 rfl) ?_
        refine lv_iload_n hx hb dX11_begin_26 rfl (lv_at hl 3 rfl) ?_
        refine lv_iload hx hb dX11_begin_27 (lv_at hl 4 rfl) ?_
        refine S_calli (va_runS (As := [.int p0, .int p1, .int p2, .int p3]) (rest := []) ⟨hx, hb, hml, hown, hts⟩ (k_begin l D k A a z G_2 p0 p1 p2 p3 ⟨by omega, by omega⟩ ⟨by omega, by omega⟩ ⟨by omega, by omega⟩ ⟨(by first | (clear f_6 hp_4 c_7; omega) | omega), (by first | (clear f_6 hp_4 c_7; omega) | omega)⟩) (va_cwS 4 hts (gd_S hgd m1076 m1077 m117 m1078) rfl rfl rfl hd_X11_beginnings.2 ⟨Nat.le_of_ble_eq_true rfl, Nat.le_of_ble_eq_true rfl⟩) (pre_S hW hB_G_2 hK hZ hS) rfl rfl hl.1 rfl (lv_room (Nat.le_of_ble_eq_true rfl)) dX11_begin_29 ⟨Nat.le_of_ble_eq_true rfl, Nat.le_of_ble_eq_true rfl⟩) hS (fun r_10 G_11 H locs hpo hW hS => ?_)
        have hX_14 : P_begin p0 p1 p2 p3 G_2 r_10 G_11 := hpo
        obtain ⟨hB_G_11, hq_12, -⟩ := hpo
        have hF := hF.call9 hq_12 rfl rfl
        exact W.iret (v := r_10) hx hb hr (fun t ht _ => ⟨⟨r_10, G_11, rfl, (P_Wbegin_mk ⟨hB_G_11, hF, ⟨r_1, G_2, hX_5, (Or.inr ⟨c_7, (Or.inr ⟨c_8, (Or.inl ⟨c_9, ⟨r_10, G_11, hX_14, ⟨rfl, rfl⟩⟩⟩)⟩)⟩)⟩⟩), wd_t ht hW⟩, hS.F ht⟩) hS.2.2 dX11_begin_32
      · have c_9 : 99 < p3.toInt := xI_nle rfl rfl c_9
        refine ic_m1 hx hb dX11_begin_22 ?_
        exact W.iret (v := (-1)) hx hb hr (fun t ht _ => ⟨⟨(-1), G_2, rfl, (P_Wbegin_mk ⟨hB_G_2, hF, ⟨r_1, G_2, hX_5, (Or.inr ⟨c_7, (Or.inr ⟨c_8, (Or.inr ⟨c_9, ⟨rfl, rfl⟩⟩)⟩)⟩)⟩⟩), wd_t ht hW⟩, hS.F ht⟩) hS.2.2 dX11_begin_23

set_option maxHeartbeats 4000000 in
set_option maxRecDepth 100000 in
theorem k_Wsuits (l : Launch) (D : va_G) (k : KT) (A : Nat → Prop) (a : Nat → Nat) (z : SK) (G : GS) (p0 : Int32) (p1 : Int32) (p2 : Int32) (p3 : Int32) (p4 : Int32)  : Met l yX11_suits (WS yX11_suits cX11_suits 9 (some .long)) ({ frames := 2, cells := 0, slots := 0, locals := 51 }) (va_Pc [.ref (a 0), .int p0, .int p1, .int p2, .int p3, .int p4] (cW D k A a z G)) (va_Ql (fun (r : Int64) (G1 : GS) => P_Wsuits p0 p1 p2 p3 p4 G r G1) (fun (G1 : GS) t => Wd D k A a G1 t.heap) A) 0 0 A := by
  refine Met.ofW (cc := cX11_suits) (maxL := 9) (ret := (some .long)) (by decide) rfl ?_
  intro p e s m args below meth c s₁ B hml hv
  obtain ⟨rfl, hW, hB_G, hK, hZ⟩ := hv
  have hx := B.exec
  have hb := B.bytes
  have hr := B.returns
  have hts := atoms_spec (ws := WS yX11_suits cX11_suits 9 (some .long)) B.pre
  have hgd : ∀ w ∈ gd, w ∈ WS yX11_suits cX11_suits 9 (some .long) := fun w h => List.mem_cons_of_mem _ h
  have hg : ∀ w ∈ gd, w.before _ s = true := fun w h => hts w (hgd w h)
  have hown : s.vm.findClass RX11 = some m.cls := findClass_of_methodNamed B.named
  have hS : va_S A s.heap s.heap [] := va_S.rf
  have hF : Fr [] [] G G := Fr.rf
  have hl := lv_entry ([.ref (a 0), .int p0, .int p1, .int p2, .int p3, .int p4]) (n := 9) (Nat.le_of_ble_eq_true rfl)
  rw [lg_entry_eq]
  generalize (lg_sl ([.ref (a 0), .int p0, .int p1, .int p2, .int p3, .int p4]) ++ List.replicate (9 - (lg_sl ([.ref (a 0), .int p0, .int p1, .int p2, .int p3, .int p4])).length) Slot.unset).toArray = ls at hl ⊢
  have hl : lv_has ls 9 [(0, .ref (a 0)), (1, .int p0), (2, .int p1), (3, .int p2), (4, .int p3), (5, .int p4)] := hl
  refine lv_iload_n hx hb dX11_suits_0 rfl (lv_at hl 1 rfl) ?_
  refine lv_iload_n hx hb dX11_suits_1 rfl (lv_at hl 2 rfl) ?_
  refine lv_iload hx hb dX11_suits_2 (lv_at hl 5 rfl) ?_
  refine S_calli (va_runS (As := [.int p0, .int p1, .int p4]) (rest := []) ⟨hx, hb, hml, hown, hts⟩ (k_endless l D k A a z G p0 p1 p4 ) (va_cwS 3 hts (gd_S hgd m1069 m1070 m117 m1071) rfl rfl rfl hd_X11_isEndless.2 ⟨Nat.le_of_ble_eq_true rfl, Nat.le_of_ble_eq_true rfl⟩) (pre_S hW hB_G hK hZ hS) rfl rfl hl.1 rfl (lv_room (Nat.le_of_ble_eq_true rfl)) dX11_suits_4 ⟨Nat.le_of_ble_eq_true rfl, Nat.le_of_ble_eq_true rfl⟩) hS (fun r_1 G_2 H locs hpo hW hS => ?_)
  have hX_5 : P_endless p0 p1 p4 G r_1 G_2 := hpo
  obtain ⟨hB_G_2, hq_3, f_6, hp_4, -⟩ := hpo
  have hF := hF.call9 hq_3 rfl rfl
  refine lv_if_eq (tgt := 21) hx hb dX11_suits_7 rfl (fun c_7 => ?_) (fun c_7 => ?_)
  · have c_7 : r_1.toInt = 0 := xI_eq rfl rfl c_7
    refine lv_ldc2 (v := (-1)) hx hb hown (hg (Cond.constantLong RX11 165 (-1)) m1018) dX11_suits_21 ?_
    exact W.lret (v := (-1)) hx hb hr (fun t ht _ => ⟨⟨(-1), G_2, rfl, (P_Wsuits_mk ⟨hB_G_2, hF, ⟨r_1, G_2, hX_5, (Or.inl ⟨c_7, ⟨rfl, rfl⟩⟩)⟩⟩), wd_t ht hW⟩, hS.F ht⟩) hS.2.2 dX11_suits_24
  · have c_7 : r_1.toInt ≠ 0 := xI_ne rfl rfl c_7
    refine lv_iload_n hx hb dX11_suits_10 rfl (lv_at hl 3 rfl) ?_
    refine lv_iload hx hb dX11_suits_11 (lv_at hl 4 rfl) ?_
    refine lv_iload hx hb dX11_suits_13 (lv_at hl 5 rfl) ?_
    refine S_calli (va_runS (As := [.int p2, .int p3, .int p4]) (rest := []) ⟨hx, hb, hml, hown, hts⟩ (k_endless l D k A a z G_2 p2 p3 p4 ) (va_cwS 3 hts (gd_S hgd m1069 m1070 m117 m1071) rfl rfl rfl hd_X11_isEndless.2 ⟨Nat.le_of_ble_eq_true rfl, Nat.le_of_ble_eq_true rfl⟩) (pre_S hW hB_G_2 hK hZ hS) rfl rfl hl.1 rfl (lv_room (Nat.le_of_ble_eq_true rfl)) dX11_suits_15 ⟨Nat.le_of_ble_eq_true rfl, Nat.le_of_ble_eq_true rfl⟩) hS (fun r_8 G_9 H locs hpo hW hS => ?_)
    have hX_12 : P_endless p2 p3 p4 G_2 r_8 G_9 := hpo
    obtain ⟨hB_G_9, hq_10, f_13, hp_11, -⟩ := hpo
    have hF := hF.call9 hq_10 rfl rfl
    refine lv_if_ne (tgt := 25) hx hb dX11_suits_18 rfl (fun c_14 => ?_) (fun c_14 => ?_)
    · have c_14 : r_8.toInt ≠ 0 := xI_ne rfl rfl c_14
      refine lv_lconst (v := 0) hx hb dX11_suits_25 (by decide) ?_
      refine lv_lstore (lv' := [(6, .long 0), (0, .ref (a 0)), (1, .int p0), (2, .int p1), (3, .int p2), (4, .int p3), (5, .int p4)]) hx hb dX11_suits_26 hl (lt_b rfl) rfl (fun ls hl => ?_)
      refine ic_1 hx hb dX11_suits_28 ?_
      refine lv_istore (lv' := [(8, .int 1), (6, .long 0), (0, .ref (a 0)), (1, .int p0), (2, .int p1), (3, .int p2), (4, .int p3), (5, .int p4)]) hx hb dX11_suits_29 hl (lt_b rfl) rfl (fun ls hl => ?_)
      have qc_22 : (1 : Int32).toInt = 1 := rfl
      refine loop_N (Inv := fun n H locs ls => ∃ (G_15 : GS) (x_19 : Int32) (x_20 : Int64), (n : Int) = 61 - x_19.toInt ∧ (1 ≤ x_19.toInt ∧ x_19.toInt ≤ 61) ∧ Rc (St_k_Wsuits_1 p0 p1 p2 p3 p4) (1, 0, G_9) (x_19, x_20, G_15) ∧ Wd D k A a G_15 H ∧ Bd G_15 ∧ Fr [] [] G G_15 ∧ Fr [] [] G_9 G_15 ∧ va_S A s.heap H locs ∧ lv_has ls 9 [(8, .int x_19), (6, .long x_20), (1, .int p0), (2, .int p1), (3, .int p2), (4, .int p3), (5, .int p4)]) (fun n_18 H locs ls ih_17 hI => ?_) (61 - 1 : Int).toNat ⟨G_9, 1, 0, (Int.toNat_of_nonneg ((by first | (clear f_6 hp_4 c_7 f_13 hp_11 c_14; omega) | omega))), ⟨(by first | (clear f_6 hp_4 c_7 f_13 hp_11 c_14; omega) | omega), (by first | (clear f_6 hp_4 c_7 f_13 hp_11 c_14; omega) | omega)⟩, Rc.rf, hW, hB_G_9, hF, Fr.rf, hS, lv_sub hl [0, 1, 3, 4, 5, 6, 7] rfl⟩
      obtain ⟨G_15, x_19, x_20, hn_24, f_23, hX_21, hW, hB_G_15, hF, hq_16, hS, hl⟩ := hI
      refine lv_iload hx hb dX11_suits_31 (lv_at hl 0 rfl) ?_
      refine lv_bipush (v := 60) hx hb dX11_suits_33 (by decide) ?_
      refine lv_icmp_gt (tgt := 80) hx hb dX11_suits_35 rfl (fun c_25 => ?_) (fun c_25 => ?_)
      · have c_25 : 60 < x_19.toInt := xI_lt rfl rfl c_25
        refine lv_lload hx hb dX11_suits_80 (lv_at hl 1 rfl) ?_
        exact W.lret (v := x_20) hx hb hr (fun t ht _ => ⟨⟨x_20, G_15, rfl, (P_Wsuits_mk ⟨hB_G_15, hF, ⟨r_1, G_2, hX_5, (Or.inr ⟨c_7, ⟨r_8, G_9, hX_12, (Or.inr ⟨c_14, ⟨x_19, x_20, G_15, hX_21, f_23, hB_G_15, hq_16, ⟨c_25, ⟨rfl, rfl⟩⟩⟩⟩)⟩⟩)⟩⟩), wd_t ht hW⟩, hS.F ht⟩) hS.2.2 dX11_suits_82
      · have c_25 : x_19.toInt ≤ 60 := xI_nlt rfl rfl c_25
        refine lv_iload_n hx hb dX11_suits_38 rfl (lv_at hl 2 rfl) ?_
        refine lv_iload_n hx hb dX11_suits_39 rfl (lv_at hl 3 rfl) ?_
        refine lv_iload hx hb dX11_suits_40 (lv_at hl 6 rfl) ?_
        refine lv_iload hx hb dX11_suits_42 (lv_at hl 0 rfl) ?_
        refine S_calli (va_runS (As := [.int p0, .int p1, .int p4, .int x_19]) (rest := []) ⟨hx, hb, hml, hown, hts⟩ (k_begin l D k A a z G_15 p0 p1 p4 x_19 ⟨(by first | (clear f_13 c_14 hn_24 f_23 c_25; omega) | omega), (by first | (clear f_13 c_14 hn_24 f_23 c_25; omega) | omega)⟩ ⟨(by first | (clear f_13 c_14 hn_24 f_23 c_25; omega) | omega), (by first | (clear f_13 c_14 hn_24 f_23 c_25; omega) | omega)⟩ ⟨(by first | (clear hn_24 f_23 c_25; omega) | omega), (by first | (clear hn_24 f_23 c_25; omega) | omega)⟩ ⟨(by first | (clear f_6 hp_4 c_7 f_13 hp_11 c_14 hn_24; omega) | omega), (by first | (clear f_6 hp_4 c_7 f_13 hp_11 c_14 hn_24; omega) | omega)⟩) (va_cwS 4 hts (gd_S hgd m1076 m1077 m117 m1078) rfl rfl rfl hd_X11_beginnings.2 ⟨Nat.le_of_ble_eq_true rfl, Nat.le_of_ble_eq_true rfl⟩) (pre_S hW hB_G_15 hK hZ hS) rfl rfl hl.1 rfl (lv_room (Nat.le_of_ble_eq_true rfl)) dX11_suits_44 ⟨Nat.le_of_ble_eq_true rfl, Nat.le_of_ble_eq_true rfl⟩) hS (fun r_26 G_27 H locs hpo hW hS => ?_)
        have hX_30 : P_begin p0 p1 p4 x_19 G_15 r_26 G_27 := hpo
        obtain ⟨hB_G_27, hq_28, -⟩ := hpo
        have hF := hF.call9 hq_28 rfl rfl
        refine lv_if_eq (tgt := 74) hx hb dX11_suits_47 rfl (fun c_31 => ?_) (fun c_31 => ?_)
        · have c_31 : r_26.toInt = 0 := xI_eq rfl rfl c_31
          obtain ⟨y_32, ey_32⟩ : ∃ q, q = x_19 + 1 := ⟨_, rfl⟩
          have ty_32 : y_32.toInt = x_19.toInt + 1 := xI_add rfl rfl ey_32 ((by first | (clear f_6 hp_4 c_7 f_13 hp_11 c_14 hn_24 c_31; omega) | omega)) ((by first | (clear f_6 hp_4 c_7 f_13 hp_11 c_14 hn_24 c_31; omega) | omega))
          refine lv_iinc (v := y_32) (lv' := [(8, .int y_32), (6, .long x_20), (1, .int p0), (2, .int p1), (3, .int p2), (4, .int p3), (5, .int p4)]) hx hb dX11_suits_74 hl (k := 0) rfl (by rw [ey_32]; rfl) (lt_b rfl) rfl (fun ls hl => ?_)
          refine lv_goto (tgt := 31) hx hb dX11_suits_77 rfl ?_
          exact ih_17 (61 - y_32.toInt : Int).toNat ((by first | (clear f_6 hp_4 c_7 f_13 hp_11 c_14 c_31; omega) | omega)) _ _ _ ⟨G_27, y_32, x_20, (Int.toNat_of_nonneg ((by first | (clear f_6 hp_4 c_7 f_13 hp_11 c_14 hn_24 c_31; omega) | omega))), ⟨(by first | (clear f_6 hp_4 c_7 f_13 hp_11 c_14 hn_24 c_31; omega) | omega), (by first | (clear f_6 hp_4 c_7 f_13 hp_11 c_14 hn_24 c_31; omega) | omega)⟩, (hX_21.st (St_k_Wsuits_1_mk ⟨x_19, x_20, G_15, y_32, x_20, G_27, rfl, rfl, f_23, hB_G_15, ⟨c_25, ⟨r_26, G_27, hX_30, (Or.inl ⟨c_31, ⟨y_32, ty_32, ⟨rfl, rfl, rfl⟩⟩⟩)⟩⟩⟩)), hW, hB_G_27, hF, (Fr.call9 (rs := []) (fs := []) (Fr.call9 (rs := []) (fs := []) Fr.rf hq_16 rfl rfl) hq_28 rfl rfl), hS, lv_sub hl [0, 1, 2, 3, 4, 5, 6] rfl⟩
        · have c_31 : r_26.toInt ≠ 0 := xI_ne rfl rfl c_31
          refine lv_iload_n hx hb dX11_suits_50 rfl (lv_at hl 4 rfl) ?_
          refine lv_iload hx hb dX11_suits_51 (lv_at hl 5 rfl) ?_
          refine lv_iload hx hb dX11_suits_53 (lv_at hl 6 rfl) ?_
          refine lv_iload hx hb dX11_suits_55 (lv_at hl 0 rfl) ?_
          refine S_calli (va_runS (As := [.int p2, .int p3, .int p4, .int x_19]) (rest := []) ⟨hx, hb, hml, hown, hts⟩ (k_begin l D k A a z G_27 p2 p3 p4 x_19 ⟨(by first | (clear f_6 hp_4 c_7 f_13 hp_11 c_14 hn_24 f_23 c_25 c_31; omega) | omega), (by first | (clear f_6 hp_4 c_7 f_13 hp_11 c_14 hn_24 f_23 c_25 c_31; omega) | omega)⟩ ⟨(by first | (clear f_6 c_7 hn_24 f_23 c_25 c_31; omega) | omega), (by first | (clear f_6 c_7 hn_24 f_23 c_25 c_31; omega) | omega)⟩ ⟨(by first | (clear hn_24 f_23 c_25 c_31; omega) | omega), (by first | (clear hn_24 f_23 c_25 c_31; omega) | omega)⟩ ⟨(by first | (clear f_6 hp_4 c_7 f_13 hp_11 c_14 hn_24 c_31; omega) | omega), (by first | (clear f_6 hp_4 c_7 f_13 hp_11 c_14 hn_24 c_31; omega) | omega)⟩) (va_cwS 4 hts (gd_S hgd m1076 m1077 m117 m1078) rfl rfl rfl hd_X11_beginnings.2 ⟨Nat.le_of_ble_eq_true rfl, Nat.le_of_ble_eq_true rfl⟩) (pre_S hW hB_G_27 hK hZ hS) rfl rfl hl.1 rfl (lv_room (Nat.le_of_ble_eq_true rfl)) dX11_suits_57 ⟨Nat.le_of_ble_eq_true rfl, Nat.le_of_ble_eq_true rfl⟩) hS (fun r_33 G_34 H locs hpo hW hS => ?_)
          have hX_37 : P_begin p2 p3 p4 x_19 G_27 r_33 G_34 := hpo
          obtain ⟨hB_G_34, hq_35, -⟩ := hpo
          have hF := hF.call9 hq_35 rfl rfl
          refine lv_if_eq (tgt := 74) hx hb dX11_suits_60 rfl (fun c_38 => ?_) (fun c_38 => ?_)
          · have c_38 : r_33.toInt = 0 := xI_eq rfl rfl c_38
            obtain ⟨y_39, ey_39⟩ : ∃ q, q = x_19 + 1 := ⟨_, rfl⟩
            have ty_39 : y_39.toInt = x_19.toInt + 1 := xI_add rfl rfl ey_39 ((by first | (clear f_6 hp_4 c_7 f_13 hp_11 c_14 hn_24 c_31 c_38; omega) | omega)) ((by first | (clear f_6 hp_4 c_7 f_13 hp_11 c_14 hn_24 c_31 c_38; omega) | omega))
            refine lv_iinc (v := y_39) (lv' := [(8, .int y_39), (6, .long x_20), (1, .int p0), (2, .int p1), (3, .int p2), (4, .int p3), (5, .int p4)]) hx hb dX11_suits_74 hl (k := 0) rfl (by rw [ey_39]; rfl) (lt_b rfl) rfl (fun ls hl => ?_)
            refine lv_goto (tgt := 31) hx hb dX11_suits_77 rfl ?_
            exact ih_17 (61 - y_39.toInt : Int).toNat ((by first | (clear f_6 hp_4 c_7 f_13 hp_11 c_14 c_31 c_38; omega) | omega)) _ _ _ ⟨G_34, y_39, x_20, (Int.toNat_of_nonneg ((by first | (clear f_6 hp_4 c_7 f_13 hp_11 c_14 hn_24 c_31 c_38; omega) | omega))), ⟨(by first | (clear f_6 hp_4 c_7 f_13 hp_11 c_14 hn_24 c_31 c_38; omega) | omega), (by first | (clear f_6 hp_4 c_7 f_13 hp_11 c_14 hn_24 c_31 c_38; omega) | omega)⟩, (hX_21.st (St_k_Wsuits_1_mk ⟨x_19, x_20, G_15, y_39, x_20, G_34, rfl, rfl, f_23, hB_G_15, ⟨c_25, ⟨r_26, G_27, hX_30, (Or.inr ⟨c_31, ⟨r_33, G_34, hX_37, (Or.inl ⟨c_38, ⟨y_39, ty_39, ⟨rfl, rfl, rfl⟩⟩⟩)⟩⟩)⟩⟩⟩)), hW, hB_G_34, hF, (Fr.call9 (rs := []) (fs := []) (Fr.call9 (rs := []) (fs := []) (Fr.call9 (rs := []) (fs := []) Fr.rf hq_16 rfl rfl) hq_28 rfl rfl) hq_35 rfl rfl), hS, lv_sub hl [0, 1, 2, 3, 4, 5, 6] rfl⟩
          · have c_38 : r_33.toInt ≠ 0 := xI_ne rfl rfl c_38
            refine lv_lload hx hb dX11_suits_63 (lv_at hl 1 rfl) ?_
            refine lv_lconst (v := 1) hx hb dX11_suits_65 (by decide) ?_
            refine lv_iload hx hb dX11_suits_66 (lv_at hl 0 rfl) ?_
            refine ic_1 hx hb dX11_suits_68 ?_
            refine lv_isub hx hb dX11_suits_69 ?_
            refine lv_topi (fun y_40 ey_40 => ?_)
            have ty_40 : y_40.toInt = x_19.toInt - 1 := xI_sub rfl rfl ey_40 ((by first | (clear f_6 hp_4 c_7 f_13 hp_11 c_14 hn_24 c_31 c_38; omega) | omega)) ((by first | (clear f_6 hp_4 c_7 f_13 hp_11 c_14 hn_24 c_31 c_38; omega) | omega))
            refine lv_lshl hx hb dX11_suits_70 rfl ?_
            refine lv_topl (fun y_41 ey_41 => ?_)
            refine lv_lor hx hb dX11_suits_71 ?_
            refine lv_topl (fun y_42 ey_42 => ?_)
            refine lv_lstore (lv' := [(6, .long y_42), (8, .int x_19), (1, .int p0), (2, .int p1), (3, .int p2), (4, .int p3), (5, .int p4)]) hx hb dX11_suits_72 hl (lt_b rfl) rfl (fun ls hl => ?_)
            obtain ⟨y_43, ey_43⟩ : ∃ q, q = x_19 + 1 := ⟨_, rfl⟩
            have ty_43 : y_43.toInt = x_19.toInt + 1 := xI_add rfl rfl ey_43 ((by first | (clear f_6 hp_4 c_7 f_13 hp_11 c_14 hn_24 c_31 c_38; omega) | omega)) ((by first | (clear f_6 hp_4 c_7 f_13 hp_11 c_14 hn_24 c_31 c_38; omega) | omega))
            refine lv_iinc (v := y_43) (lv' := [(8, .int y_43), (6, .long y_42), (1, .int p0), (2, .int p1), (3, .int p2), (4, .int p3), (5, .int p4)]) hx hb dX11_suits_74 hl (k := 1) rfl (by rw [ey_43]; rfl) (lt_b rfl) rfl (fun ls hl => ?_)
            refine lv_goto (tgt := 31) hx hb dX11_suits_77 rfl ?_
            exact ih_17 (61 - y_43.toInt : Int).toNat ((by first | (clear f_6 hp_4 c_7 f_13 hp_11 c_14 c_31 c_38; omega) | omega)) _ _ _ ⟨G_34, y_43, y_42, (Int.toNat_of_nonneg ((by first | (clear f_6 hp_4 c_7 f_13 hp_11 c_14 hn_24 c_31 c_38; omega) | omega))), ⟨(by first | (clear f_6 hp_4 c_7 f_13 hp_11 c_14 hn_24 c_31 c_38; omega) | omega), (by first | (clear f_6 hp_4 c_7 f_13 hp_11 c_14 hn_24 c_31 c_38; omega) | omega)⟩, (hX_21.st (St_k_Wsuits_1_mk ⟨x_19, x_20, G_15, y_43, y_42, G_34, rfl, rfl, f_23, hB_G_15, ⟨c_25, ⟨r_26, G_27, hX_30, (Or.inr ⟨c_31, ⟨r_33, G_34, hX_37, (Or.inr ⟨c_38, ⟨y_40, ty_40, ⟨y_41, ey_41, ⟨y_42, ey_42, ⟨y_43, ty_43, ⟨rfl, rfl, rfl⟩⟩⟩⟩⟩⟩)⟩⟩)⟩⟩⟩)), hW, hB_G_34, hF, (Fr.call9 (rs := []) (fs := []) (Fr.call9 (rs := []) (fs := []) (Fr.call9 (rs := []) (fs := []) Fr.rf hq_16 rfl rfl) hq_28 rfl rfl) hq_35 rfl rfl), hS, lv_sub hl [0, 1, 2, 3, 4, 5, 6] rfl⟩
    · have c_14 : r_8.toInt = 0 := xI_eq rfl rfl c_14
      refine lv_ldc2 (v := (-1)) hx hb hown (hg (Cond.constantLong RX11 165 (-1)) m1018) dX11_suits_21 ?_
      exact W.lret (v := (-1)) hx hb hr (fun t ht _ => ⟨⟨(-1), G_9, rfl, (P_Wsuits_mk ⟨hB_G_9, hF, ⟨r_1, G_2, hX_5, (Or.inr ⟨c_7, ⟨r_8, G_9, hX_12, (Or.inl ⟨c_14, ⟨rfl, rfl⟩⟩)⟩⟩)⟩⟩), wd_t ht hW⟩, hS.F ht⟩) hS.2.2 dX11_suits_24

theorem m43 : Cond.selects RX11 yX11_isLawfulNow yX11_isLawfulNow ∈ gd := gds_3 11 rfl
theorem m44 : Cond.selects RX11 yX11_canGo yX11_canGo ∈ gd := gds_3 12 rfl
theorem m159 : Cond.fieldLink RX11 125 "SlabWalk$Paving" "length" "[I" ∈ gd := gdc_1_2 11 rfl gw_fieldLink
theorem m187 : Cond.fieldLink RX11 95 "SlabWalk$Paving" "streets" "I" ∈ gd := gdc_1_4 7 rfl gw_fieldLink
theorem m191 : Cond.fieldLink RX11 305 "SlabWalk$Paving" "walkers" "I" ∈ gd := gdc_1_4 11 rfl gw_fieldLink
theorem m198 : Cond.fieldLink RX11 314 "SlabWalk$Paving" "units" "I" ∈ gd := gdc_1_5 2 rfl gw_fieldLink
theorem m498 : Cond.fieldLink RX11 308 "SlabWalk$Earnest" "done" "I" ∈ gd := gdc_2_8 14 rfl gw_fieldLink
theorem m500 : Cond.fieldLink RX11 311 "SlabWalk$Earnest" "undone" "I" ∈ gd := gdc_2_9 0 rfl gw_fieldLink
theorem m882 : Cond.methodLink RX11 110 yX6_hasInch ∈ gd := gdc_4_2 14 rfl gw_methodLink
theorem m890 : Cond.methodLink RX11 114 yX6_inchAt ∈ gd := gdc_4_3 6 rfl gw_methodLink
theorem m895 : Cond.methodLink RX11 118 yX6_part ∈ gd := gdc_4_3 11 rfl gw_methodLink
theorem m940 : Cond.methodLink RX11 139 yX3_isLine ∈ gd := gdc_4_6 8 rfl gw_methodLink
theorem m1170 : Cond.methodLink RX11 239 yX1_setOut ∈ gd := gdc_5_5 14 rfl gw_methodLink
theorem m1171 : Cond.instanceMethod yX1_setOut ∈ gd := gdc_5_5 15 rfl gw_instanceMethod
theorem m1172 : Cond.selects RX1 yX1_setOut yX1_setOut ∈ gd := gdc_5_6 0 rfl gw_selects
theorem m1173 : Cond.code yX1_setOut cX1_setOut 4 none ∈ gd := gdc_5_6 1 rfl gw_code
theorem m1174 : Cond.methodLink RX11 242 yX11_isLawfulNow ∈ gd := gdc_5_6 2 rfl gw_methodLink
theorem m1176 : Cond.instanceMethod yX11_isLawfulNow ∈ gd := gdc_5_6 4 rfl gw_instanceMethod
theorem m1177 : Cond.code yX11_isLawfulNow cX11_isLawfulNow 3 (some .boolean) ∈ gd := gdc_5_6 5 rfl gw_code
theorem m1186 : Cond.methodLink RX11 252 yX11_canGo ∈ gd := gdc_5_6 14 rfl gw_methodLink
theorem m1188 : Cond.instanceMethod yX11_canGo ∈ gd := gdc_5_7 0 rfl gw_instanceMethod
theorem m1189 : Cond.code yX11_canGo cX11_canGo 4 (some .boolean) ∈ gd := gdc_5_7 1 rfl gw_code
theorem m1190 : Cond.methodLink RX11 255 yX1_drawSeed ∈ gd := gdc_5_7 2 rfl gw_methodLink
theorem m1191 : Cond.instanceMethod yX1_drawSeed ∈ gd := gdc_5_7 3 rfl gw_instanceMethod
theorem m1192 : Cond.selects RX1 yX1_drawSeed yX1_drawSeed ∈ gd := gdc_5_7 4 rfl gw_selects
theorem m1193 : Cond.code yX1_drawSeed cX1_drawSeed 1 none ∈ gd := gdc_5_7 5 rfl gw_code
theorem m1194 : Cond.methodLink RX11 258 yX6_slipBy ∈ gd := gdc_5_7 6 rfl gw_methodLink
theorem m1195 : Cond.instanceMethod yX6_slipBy ∈ gd := gdc_5_7 7 rfl gw_instanceMethod
theorem m1196 : Cond.selects RX6 yX6_slipBy yX6_slipBy ∈ gd := gdc_5_7 8 rfl gw_selects
theorem m1197 : Cond.code yX6_slipBy cX6_slipBy 4 (some .int) ∈ gd := gdc_5_7 9 rfl gw_code
theorem m1206 : Cond.methodLink RX11 262 yX6_hasRule ∈ gd := gdc_5_8 2 rfl gw_methodLink
theorem m1207 : Cond.instanceMethod yX6_hasRule ∈ gd := gdc_5_8 3 rfl gw_instanceMethod
theorem m1208 : Cond.selects RX6 yX6_hasRule yX6_hasRule ∈ gd := gdc_5_8 4 rfl gw_selects
theorem m1209 : Cond.code yX6_hasRule cX6_hasRule 2 (some .boolean) ∈ gd := gdc_5_8 5 rfl gw_code
theorem m1246 : Cond.methodLink RX11 271 yX8_tell ∈ gd := gdc_5_10 10 rfl gw_methodLink
theorem m1247 : Cond.instanceMethod yX8_tell ∈ gd := gdc_5_10 11 rfl gw_instanceMethod
theorem m1248 : Cond.selects RX8 yX8_tell yX8_tell ∈ gd := gdc_5_10 12 rfl gw_selects
theorem m1249 : Cond.code yX8_tell cX8_tell 4 (some .int) ∈ gd := gdc_5_10 13 rfl gw_code
theorem m1307 : Cond.methodLink RX11 317 yX6_allSlips ∈ gd := gdc_5_14 7 rfl gw_methodLink
theorem dX11_about_1 : decode cX11_about 1 = .ok (.tableswitch 195 0 14 #[75, 83, 91, 99, 104, 115, 126, 137, 145, 153, 161, 169, 174, 182, 187], 75) := dq_of (by decide +kernel)
noncomputable def rbX11_about_0 : List (Nat × List Nat) := [(0, [27]), (76, [42]), (77, [180, 0, 10]), (80, [180, 0, 95]), (83, [172]), (84, [42]), (85, [180, 0, 10]), (88, [180, 1, 49]), (91, [172]), (92, [42]), (93, [180, 0, 10]), (96, [180, 0, 228]), (99, [172]), (100, [42]), (101, [182, 0, 131]), (104, [172]), (105, [42]), (106, [180, 0, 65]), (109, [180, 0, 246]), (112, [16, 7]), (114, [46]), (115, [172]), (116, [42]), (117, [180, 0, 65])]
theorem rcX11_about_0 : dgo (lb cX11_about) 0 rbX11_about_0 = true := by decide +kernel
theorem dX11_about_0 : decode cX11_about 0 = .ok (.iload_n 1, 1) := dk_27 (dw rcX11_about_0 0 rfl)
theorem dX11_about_76 : decode cX11_about 76 = .ok (.aload_n 0, 1) := dk_42 (dw rcX11_about_0 1 rfl)
theorem dX11_about_77 : decode cX11_about 77 = .ok (.getfield 10, 3) := dk_180 (dw rcX11_about_0 2 rfl) rfl
theorem dX11_about_80 : decode cX11_about 80 = .ok (.getfield 95, 3) := dk_180 (dw rcX11_about_0 3 rfl) rfl
theorem dX11_about_83 : decode cX11_about 83 = .ok (.ireturn, 1) := dk_172 (dw rcX11_about_0 4 rfl)
theorem dX11_about_84 : decode cX11_about 84 = .ok (.aload_n 0, 1) := dk_42 (dw rcX11_about_0 5 rfl)
theorem dX11_about_85 : decode cX11_about 85 = .ok (.getfield 10, 3) := dk_180 (dw rcX11_about_0 6 rfl) rfl
theorem dX11_about_88 : decode cX11_about 88 = .ok (.getfield 305, 3) := dk_180 (dw rcX11_about_0 7 rfl) rfl
theorem dX11_about_91 : decode cX11_about 91 = .ok (.ireturn, 1) := dk_172 (dw rcX11_about_0 8 rfl)
theorem dX11_about_92 : decode cX11_about 92 = .ok (.aload_n 0, 1) := dk_42 (dw rcX11_about_0 9 rfl)
theorem dX11_about_93 : decode cX11_about 93 = .ok (.getfield 10, 3) := dk_180 (dw rcX11_about_0 10 rfl) rfl
theorem dX11_about_96 : decode cX11_about 96 = .ok (.getfield 228, 3) := dk_180 (dw rcX11_about_0 11 rfl) rfl
theorem dX11_about_99 : decode cX11_about 99 = .ok (.ireturn, 1) := dk_172 (dw rcX11_about_0 12 rfl)
theorem dX11_about_100 : decode cX11_about 100 = .ok (.aload_n 0, 1) := dk_42 (dw rcX11_about_0 13 rfl)
theorem dX11_about_101 : decode cX11_about 101 = .ok (.invokevirtual 131, 3) := dk_182 (dw rcX11_about_0 14 rfl) rfl
theorem dX11_about_104 : decode cX11_about 104 = .ok (.ireturn, 1) := dk_172 (dw rcX11_about_0 15 rfl)
theorem dX11_about_105 : decode cX11_about 105 = .ok (.aload_n 0, 1) := dk_42 (dw rcX11_about_0 16 rfl)
theorem dX11_about_106 : decode cX11_about 106 = .ok (.getfield 65, 3) := dk_180 (dw rcX11_about_0 17 rfl) rfl
theorem dX11_about_109 : decode cX11_about 109 = .ok (.getfield 246, 3) := dk_180 (dw rcX11_about_0 18 rfl) rfl
theorem dX11_about_112 : decode cX11_about 112 = .ok (.bipush 7, 2) := dk_16 (dw rcX11_about_0 19 rfl) rfl
theorem dX11_about_114 : decode cX11_about 114 = .ok (.iaload, 1) := dk_46 (dw rcX11_about_0 20 rfl)
theorem dX11_about_115 : decode cX11_about 115 = .ok (.ireturn, 1) := dk_172 (dw rcX11_about_0 21 rfl)
theorem dX11_about_116 : decode cX11_about 116 = .ok (.aload_n 0, 1) := dk_42 (dw rcX11_about_0 22 rfl)
theorem dX11_about_117 : decode cX11_about 117 = .ok (.getfield 65, 3) := dk_180 (dw rcX11_about_0 23 rfl) rfl
noncomputable def rbX11_about_120 : List (Nat × List Nat) := [(120, [180, 0, 246]), (123, [16, 8]), (125, [46]), (126, [172]), (127, [42]), (128, [180, 0, 65]), (131, [180, 0, 246]), (134, [16, 9]), (136, [46]), (137, [172]), (138, [42]), (139, [180, 0, 65]), (142, [180, 1, 52]), (145, [172]), (146, [42]), (147, [180, 0, 65]), (150, [180, 1, 55]), (153, [172]), (154, [42]), (155, [180, 0, 72]), (158, [180, 1, 29]), (161, [172]), (162, [42]), (163, [180, 0, 72])]
theorem rcX11_about_120 : dgo (lb cX11_about) 0 rbX11_about_120 = true := by decide +kernel
theorem dX11_about_120 : decode cX11_about 120 = .ok (.getfield 246, 3) := dk_180 (dw rcX11_about_120 0 rfl) rfl
theorem dX11_about_123 : decode cX11_about 123 = .ok (.bipush 8, 2) := dk_16 (dw rcX11_about_120 1 rfl) rfl
theorem dX11_about_125 : decode cX11_about 125 = .ok (.iaload, 1) := dk_46 (dw rcX11_about_120 2 rfl)
theorem dX11_about_126 : decode cX11_about 126 = .ok (.ireturn, 1) := dk_172 (dw rcX11_about_120 3 rfl)
theorem dX11_about_127 : decode cX11_about 127 = .ok (.aload_n 0, 1) := dk_42 (dw rcX11_about_120 4 rfl)
theorem dX11_about_128 : decode cX11_about 128 = .ok (.getfield 65, 3) := dk_180 (dw rcX11_about_120 5 rfl) rfl
theorem dX11_about_131 : decode cX11_about 131 = .ok (.getfield 246, 3) := dk_180 (dw rcX11_about_120 6 rfl) rfl
theorem dX11_about_134 : decode cX11_about 134 = .ok (.bipush 9, 2) := dk_16 (dw rcX11_about_120 7 rfl) rfl
theorem dX11_about_136 : decode cX11_about 136 = .ok (.iaload, 1) := dk_46 (dw rcX11_about_120 8 rfl)
theorem dX11_about_137 : decode cX11_about 137 = .ok (.ireturn, 1) := dk_172 (dw rcX11_about_120 9 rfl)
theorem dX11_about_138 : decode cX11_about 138 = .ok (.aload_n 0, 1) := dk_42 (dw rcX11_about_120 10 rfl)
theorem dX11_about_139 : decode cX11_about 139 = .ok (.getfield 65, 3) := dk_180 (dw rcX11_about_120 11 rfl) rfl
theorem dX11_about_142 : decode cX11_about 142 = .ok (.getfield 308, 3) := dk_180 (dw rcX11_about_120 12 rfl) rfl
theorem dX11_about_145 : decode cX11_about 145 = .ok (.ireturn, 1) := dk_172 (dw rcX11_about_120 13 rfl)
theorem dX11_about_146 : decode cX11_about 146 = .ok (.aload_n 0, 1) := dk_42 (dw rcX11_about_120 14 rfl)
theorem dX11_about_147 : decode cX11_about 147 = .ok (.getfield 65, 3) := dk_180 (dw rcX11_about_120 15 rfl) rfl
theorem dX11_about_150 : decode cX11_about 150 = .ok (.getfield 311, 3) := dk_180 (dw rcX11_about_120 16 rfl) rfl
theorem dX11_about_153 : decode cX11_about 153 = .ok (.ireturn, 1) := dk_172 (dw rcX11_about_120 17 rfl)
theorem dX11_about_154 : decode cX11_about 154 = .ok (.aload_n 0, 1) := dk_42 (dw rcX11_about_120 18 rfl)
theorem dX11_about_155 : decode cX11_about 155 = .ok (.getfield 72, 3) := dk_180 (dw rcX11_about_120 19 rfl) rfl
theorem dX11_about_158 : decode cX11_about 158 = .ok (.getfield 285, 3) := dk_180 (dw rcX11_about_120 20 rfl) rfl
theorem dX11_about_161 : decode cX11_about 161 = .ok (.ireturn, 1) := dk_172 (dw rcX11_about_120 21 rfl)
theorem dX11_about_162 : decode cX11_about 162 = .ok (.aload_n 0, 1) := dk_42 (dw rcX11_about_120 22 rfl)
theorem dX11_about_163 : decode cX11_about 163 = .ok (.getfield 72, 3) := dk_180 (dw rcX11_about_120 23 rfl) rfl
noncomputable def rbX11_about_166 : List (Nat × List Nat) := [(166, [180, 1, 22]), (169, [172]), (170, [42]), (171, [180, 0, 83]), (174, [172]), (175, [42]), (176, [180, 0, 10]), (179, [180, 1, 58]), (182, [172]), (183, [42]), (184, [180, 0, 150]), (187, [172]), (188, [42]), (189, [180, 0, 10]), (192, [182, 1, 61]), (195, [172]), (196, [2]), (197, [172])]
theorem rcX11_about_166 : dgo (lb cX11_about) 0 rbX11_about_166 = true := by decide +kernel
theorem dX11_about_166 : decode cX11_about 166 = .ok (.getfield 278, 3) := dk_180 (dw rcX11_about_166 0 rfl) rfl
theorem dX11_about_169 : decode cX11_about 169 = .ok (.ireturn, 1) := dk_172 (dw rcX11_about_166 1 rfl)
theorem dX11_about_170 : decode cX11_about 170 = .ok (.aload_n 0, 1) := dk_42 (dw rcX11_about_166 2 rfl)
theorem dX11_about_171 : decode cX11_about 171 = .ok (.getfield 83, 3) := dk_180 (dw rcX11_about_166 3 rfl) rfl
theorem dX11_about_174 : decode cX11_about 174 = .ok (.ireturn, 1) := dk_172 (dw rcX11_about_166 4 rfl)
theorem dX11_about_175 : decode cX11_about 175 = .ok (.aload_n 0, 1) := dk_42 (dw rcX11_about_166 5 rfl)
theorem dX11_about_176 : decode cX11_about 176 = .ok (.getfield 10, 3) := dk_180 (dw rcX11_about_166 6 rfl) rfl
theorem dX11_about_179 : decode cX11_about 179 = .ok (.getfield 314, 3) := dk_180 (dw rcX11_about_166 7 rfl) rfl
theorem dX11_about_182 : decode cX11_about 182 = .ok (.ireturn, 1) := dk_172 (dw rcX11_about_166 8 rfl)
theorem dX11_about_183 : decode cX11_about 183 = .ok (.aload_n 0, 1) := dk_42 (dw rcX11_about_166 9 rfl)
theorem dX11_about_184 : decode cX11_about 184 = .ok (.getfield 150, 3) := dk_180 (dw rcX11_about_166 10 rfl) rfl
theorem dX11_about_187 : decode cX11_about 187 = .ok (.ireturn, 1) := dk_172 (dw rcX11_about_166 11 rfl)
theorem dX11_about_188 : decode cX11_about 188 = .ok (.aload_n 0, 1) := dk_42 (dw rcX11_about_166 12 rfl)
theorem dX11_about_189 : decode cX11_about 189 = .ok (.getfield 10, 3) := dk_180 (dw rcX11_about_166 13 rfl) rfl
theorem dX11_about_192 : decode cX11_about 192 = .ok (.invokevirtual 317, 3) := dk_182 (dw rcX11_about_166 14 rfl) rfl
theorem dX11_about_195 : decode cX11_about 195 = .ok (.ireturn, 1) := dk_172 (dw rcX11_about_166 15 rfl)
theorem dX11_about_196 : decode cX11_about 196 = .ok (.iconst (-1), 1) := dk_2 (dw rcX11_about_166 16 rfl)
theorem dX11_about_197 : decode cX11_about 197 = .ok (.ireturn, 1) := dk_172 (dw rcX11_about_166 17 rfl)
noncomputable def rbX11_foot_0 : List (Nat × List Nat) := [(0, [42]), (1, [27]), (2, [28]), (3, [29]), (4, [182, 0, 143]), (7, [153, 0, 16]), (10, [42]), (11, [180, 0, 10]), (14, [28]), (15, [21, 4]), (17, [182, 0, 110]), (20, [154, 0, 5]), (23, [2]), (24, [172]), (25, [42]), (26, [180, 0, 37]), (29, [28]), (30, [42]), (31, [182, 0, 131]), (34, [182, 0, 135]), (37, [42]), (38, [180, 0, 37]), (41, [27]), (42, [28])]
theorem rcX11_foot_0 : dgo (lb cX11_foot) 0 rbX11_foot_0 = true := by decide +kernel
theorem dX11_foot_0 : decode cX11_foot 0 = .ok (.aload_n 0, 1) := dk_42 (dw rcX11_foot_0 0 rfl)
theorem dX11_foot_1 : decode cX11_foot 1 = .ok (.iload_n 1, 1) := dk_27 (dw rcX11_foot_0 1 rfl)
theorem dX11_foot_2 : decode cX11_foot 2 = .ok (.iload_n 2, 1) := dk_28 (dw rcX11_foot_0 2 rfl)
theorem dX11_foot_3 : decode cX11_foot 3 = .ok (.iload_n 3, 1) := dk_29 (dw rcX11_foot_0 3 rfl)
theorem dX11_foot_4 : decode cX11_foot 4 = .ok (.invokevirtual 143, 3) := dk_182 (dw rcX11_foot_0 4 rfl) rfl
theorem dX11_foot_7 : decode cX11_foot 7 = .ok (.ifCond .eq 16, 3) := dk_153 (dw rcX11_foot_0 5 rfl) rfl
theorem dX11_foot_10 : decode cX11_foot 10 = .ok (.aload_n 0, 1) := dk_42 (dw rcX11_foot_0 6 rfl)
theorem dX11_foot_11 : decode cX11_foot 11 = .ok (.getfield 10, 3) := dk_180 (dw rcX11_foot_0 7 rfl) rfl
theorem dX11_foot_14 : decode cX11_foot 14 = .ok (.iload_n 2, 1) := dk_28 (dw rcX11_foot_0 8 rfl)
theorem dX11_foot_15 : decode cX11_foot 15 = .ok (.iload 4, 2) := dk_21 (dw rcX11_foot_0 9 rfl)
theorem dX11_foot_17 : decode cX11_foot 17 = .ok (.invokevirtual 110, 3) := dk_182 (dw rcX11_foot_0 10 rfl) rfl
theorem dX11_foot_20 : decode cX11_foot 20 = .ok (.ifCond .ne 5, 3) := dk_154 (dw rcX11_foot_0 11 rfl) rfl
theorem dX11_foot_23 : decode cX11_foot 23 = .ok (.iconst (-1), 1) := dk_2 (dw rcX11_foot_0 12 rfl)
theorem dX11_foot_24 : decode cX11_foot 24 = .ok (.ireturn, 1) := dk_172 (dw rcX11_foot_0 13 rfl)
theorem dX11_foot_25 : decode cX11_foot 25 = .ok (.aload_n 0, 1) := dk_42 (dw rcX11_foot_0 14 rfl)
theorem dX11_foot_26 : decode cX11_foot 26 = .ok (.getfield 37, 3) := dk_180 (dw rcX11_foot_0 15 rfl) rfl
theorem dX11_foot_29 : decode cX11_foot 29 = .ok (.iload_n 2, 1) := dk_28 (dw rcX11_foot_0 16 rfl)
theorem dX11_foot_30 : decode cX11_foot 30 = .ok (.aload_n 0, 1) := dk_42 (dw rcX11_foot_0 17 rfl)
theorem dX11_foot_31 : decode cX11_foot 31 = .ok (.invokevirtual 131, 3) := dk_182 (dw rcX11_foot_0 18 rfl) rfl
theorem dX11_foot_34 : decode cX11_foot 34 = .ok (.invokevirtual 135, 3) := dk_182 (dw rcX11_foot_0 19 rfl) rfl
theorem dX11_foot_37 : decode cX11_foot 37 = .ok (.aload_n 0, 1) := dk_42 (dw rcX11_foot_0 20 rfl)
theorem dX11_foot_38 : decode cX11_foot 38 = .ok (.getfield 37, 3) := dk_180 (dw rcX11_foot_0 21 rfl) rfl
theorem dX11_foot_41 : decode cX11_foot 41 = .ok (.iload_n 1, 1) := dk_27 (dw rcX11_foot_0 22 rfl)
theorem dX11_foot_42 : decode cX11_foot 42 = .ok (.iload_n 2, 1) := dk_28 (dw rcX11_foot_0 23 rfl)
noncomputable def rbX11_foot_43 : List (Nat × List Nat) := [(43, [29]), (44, [21, 4]), (46, [182, 0, 146]), (49, [153, 0, 7]), (52, [4]), (53, [167, 0, 4]), (56, [3]), (57, [172])]
theorem rcX11_foot_43 : dgo (lb cX11_foot) 0 rbX11_foot_43 = true := by decide +kernel
theorem dX11_foot_43 : decode cX11_foot 43 = .ok (.iload_n 3, 1) := dk_29 (dw rcX11_foot_43 0 rfl)
theorem dX11_foot_44 : decode cX11_foot 44 = .ok (.iload 4, 2) := dk_21 (dw rcX11_foot_43 1 rfl)
theorem dX11_foot_46 : decode cX11_foot 46 = .ok (.invokevirtual 146, 3) := dk_182 (dw rcX11_foot_43 2 rfl) rfl
theorem dX11_foot_49 : decode cX11_foot 49 = .ok (.ifCond .eq 7, 3) := dk_153 (dw rcX11_foot_43 3 rfl) rfl
theorem dX11_foot_52 : decode cX11_foot 52 = .ok (.iconst 1, 1) := dk_4 (dw rcX11_foot_43 4 rfl)
theorem dX11_foot_53 : decode cX11_foot 53 = .ok (.goto 4, 3) := dk_167 (dw rcX11_foot_43 5 rfl) rfl
theorem dX11_foot_56 : decode cX11_foot 56 = .ok (.iconst 0, 1) := dk_3 (dw rcX11_foot_43 6 rfl)
theorem dX11_foot_57 : decode cX11_foot 57 = .ok (.ireturn, 1) := dk_172 (dw rcX11_foot_43 7 rfl)
noncomputable def rbX11_force_0 : List (Nat × List Nat) := [(0, [42]), (1, [180, 0, 10]), (4, [27]), (5, [182, 1, 6]), (8, [154, 0, 5]), (11, [2]), (12, [172]), (13, [42]), (14, [180, 0, 65]), (17, [180, 0, 246]), (20, [16, 8]), (22, [92]), (23, [46]), (24, [4]), (25, [27]), (26, [120]), (27, [130]), (28, [79]), (29, [42]), (30, [180, 0, 65]), (33, [182, 0, 249]), (36, [42]), (37, [180, 0, 65]), (40, [180, 0, 246])]
theorem rcX11_force_0 : dgo (lb cX11_force) 0 rbX11_force_0 = true := by decide +kernel
theorem dX11_force_0 : decode cX11_force 0 = .ok (.aload_n 0, 1) := dk_42 (dw rcX11_force_0 0 rfl)
theorem dX11_force_1 : decode cX11_force 1 = .ok (.getfield 10, 3) := dk_180 (dw rcX11_force_0 1 rfl) rfl
theorem dX11_force_4 : decode cX11_force 4 = .ok (.iload_n 1, 1) := dk_27 (dw rcX11_force_0 2 rfl)
theorem dX11_force_5 : decode cX11_force 5 = .ok (.invokevirtual 262, 3) := dk_182 (dw rcX11_force_0 3 rfl) rfl
theorem dX11_force_8 : decode cX11_force 8 = .ok (.ifCond .ne 5, 3) := dk_154 (dw rcX11_force_0 4 rfl) rfl
theorem dX11_force_11 : decode cX11_force 11 = .ok (.iconst (-1), 1) := dk_2 (dw rcX11_force_0 5 rfl)
theorem dX11_force_12 : decode cX11_force 12 = .ok (.ireturn, 1) := dk_172 (dw rcX11_force_0 6 rfl)
theorem dX11_force_13 : decode cX11_force 13 = .ok (.aload_n 0, 1) := dk_42 (dw rcX11_force_0 7 rfl)
theorem dX11_force_14 : decode cX11_force 14 = .ok (.getfield 65, 3) := dk_180 (dw rcX11_force_0 8 rfl) rfl
theorem dX11_force_17 : decode cX11_force 17 = .ok (.getfield 246, 3) := dk_180 (dw rcX11_force_0 9 rfl) rfl
theorem dX11_force_20 : decode cX11_force 20 = .ok (.bipush 8, 2) := dk_16 (dw rcX11_force_0 10 rfl) rfl
theorem dX11_force_22 : decode cX11_force 22 = .ok (.dup2, 1) := dk_92 (dw rcX11_force_0 11 rfl)
theorem dX11_force_23 : decode cX11_force 23 = .ok (.iaload, 1) := dk_46 (dw rcX11_force_0 12 rfl)
theorem dX11_force_24 : decode cX11_force 24 = .ok (.iconst 1, 1) := dk_4 (dw rcX11_force_0 13 rfl)
theorem dX11_force_25 : decode cX11_force 25 = .ok (.iload_n 1, 1) := dk_27 (dw rcX11_force_0 14 rfl)
theorem dX11_force_26 : decode cX11_force 26 = .ok (.ishl, 1) := dk_120 (dw rcX11_force_0 15 rfl)
theorem dX11_force_27 : decode cX11_force 27 = .ok (.ixor, 1) := dk_130 (dw rcX11_force_0 16 rfl)
theorem dX11_force_28 : decode cX11_force 28 = .ok (.iastore, 1) := dk_79 (dw rcX11_force_0 17 rfl)
theorem dX11_force_29 : decode cX11_force 29 = .ok (.aload_n 0, 1) := dk_42 (dw rcX11_force_0 18 rfl)
theorem dX11_force_30 : decode cX11_force 30 = .ok (.getfield 65, 3) := dk_180 (dw rcX11_force_0 19 rfl) rfl
theorem dX11_force_33 : decode cX11_force 33 = .ok (.invokevirtual 249, 3) := dk_182 (dw rcX11_force_0 20 rfl) rfl
theorem dX11_force_36 : decode cX11_force 36 = .ok (.aload_n 0, 1) := dk_42 (dw rcX11_force_0 21 rfl)
theorem dX11_force_37 : decode cX11_force 37 = .ok (.getfield 65, 3) := dk_180 (dw rcX11_force_0 22 rfl) rfl
theorem dX11_force_40 : decode cX11_force 40 = .ok (.getfield 246, 3) := dk_180 (dw rcX11_force_0 23 rfl) rfl
noncomputable def rbX11_force_43 : List (Nat × List Nat) := [(43, [16, 8]), (45, [46]), (46, [27]), (47, [122]), (48, [4]), (49, [126]), (50, [172])]
theorem rcX11_force_43 : dgo (lb cX11_force) 0 rbX11_force_43 = true := by decide +kernel
theorem dX11_force_43 : decode cX11_force 43 = .ok (.bipush 8, 2) := dk_16 (dw rcX11_force_43 0 rfl) rfl
theorem dX11_force_45 : decode cX11_force 45 = .ok (.iaload, 1) := dk_46 (dw rcX11_force_43 1 rfl)
theorem dX11_force_46 : decode cX11_force 46 = .ok (.iload_n 1, 1) := dk_27 (dw rcX11_force_43 2 rfl)
theorem dX11_force_47 : decode cX11_force 47 = .ok (.ishr, 1) := dk_122 (dw rcX11_force_43 3 rfl)
theorem dX11_force_48 : decode cX11_force 48 = .ok (.iconst 1, 1) := dk_4 (dw rcX11_force_43 4 rfl)
theorem dX11_force_49 : decode cX11_force 49 = .ok (.iand, 1) := dk_126 (dw rcX11_force_43 5 rfl)
theorem dX11_force_50 : decode cX11_force 50 = .ok (.ireturn, 1) := dk_172 (dw rcX11_force_43 6 rfl)
noncomputable def rbX11_gap_0 : List (Nat × List Nat) := [(0, [42]), (1, [180, 0, 10]), (4, [27]), (5, [182, 0, 121]), (8, [153, 0, 14]), (11, [42]), (12, [180, 0, 10]), (15, [28]), (16, [182, 0, 128]), (19, [154, 0, 5]), (22, [2]), (23, [172]), (24, [42]), (25, [180, 0, 37]), (28, [27]), (29, [42]), (30, [182, 0, 131]), (33, [182, 0, 135]), (36, [3]), (37, [54, 4]), (39, [2]), (40, [54, 5]), (42, [3]), (43, [54, 6])]
theorem rcX11_gap_0 : dgo (lb cX11_gap) 0 rbX11_gap_0 = true := by decide +kernel
theorem dX11_gap_0 : decode cX11_gap 0 = .ok (.aload_n 0, 1) := dk_42 (dw rcX11_gap_0 0 rfl)
theorem dX11_gap_1 : decode cX11_gap 1 = .ok (.getfield 10, 3) := dk_180 (dw rcX11_gap_0 1 rfl) rfl
theorem dX11_gap_4 : decode cX11_gap 4 = .ok (.iload_n 1, 1) := dk_27 (dw rcX11_gap_0 2 rfl)
theorem dX11_gap_5 : decode cX11_gap 5 = .ok (.invokevirtual 121, 3) := dk_182 (dw rcX11_gap_0 3 rfl) rfl
theorem dX11_gap_8 : decode cX11_gap 8 = .ok (.ifCond .eq 14, 3) := dk_153 (dw rcX11_gap_0 4 rfl) rfl
theorem dX11_gap_11 : decode cX11_gap 11 = .ok (.aload_n 0, 1) := dk_42 (dw rcX11_gap_0 5 rfl)
theorem dX11_gap_12 : decode cX11_gap 12 = .ok (.getfield 10, 3) := dk_180 (dw rcX11_gap_0 6 rfl) rfl
theorem dX11_gap_15 : decode cX11_gap 15 = .ok (.iload_n 2, 1) := dk_28 (dw rcX11_gap_0 7 rfl)
theorem dX11_gap_16 : decode cX11_gap 16 = .ok (.invokevirtual 128, 3) := dk_182 (dw rcX11_gap_0 8 rfl) rfl
theorem dX11_gap_19 : decode cX11_gap 19 = .ok (.ifCond .ne 5, 3) := dk_154 (dw rcX11_gap_0 9 rfl) rfl
theorem dX11_gap_22 : decode cX11_gap 22 = .ok (.iconst (-1), 1) := dk_2 (dw rcX11_gap_0 10 rfl)
theorem dX11_gap_23 : decode cX11_gap 23 = .ok (.ireturn, 1) := dk_172 (dw rcX11_gap_0 11 rfl)
theorem dX11_gap_24 : decode cX11_gap 24 = .ok (.aload_n 0, 1) := dk_42 (dw rcX11_gap_0 12 rfl)
theorem dX11_gap_25 : decode cX11_gap 25 = .ok (.getfield 37, 3) := dk_180 (dw rcX11_gap_0 13 rfl) rfl
theorem dX11_gap_28 : decode cX11_gap 28 = .ok (.iload_n 1, 1) := dk_27 (dw rcX11_gap_0 14 rfl)
theorem dX11_gap_29 : decode cX11_gap 29 = .ok (.aload_n 0, 1) := dk_42 (dw rcX11_gap_0 15 rfl)
theorem dX11_gap_30 : decode cX11_gap 30 = .ok (.invokevirtual 131, 3) := dk_182 (dw rcX11_gap_0 16 rfl) rfl
theorem dX11_gap_33 : decode cX11_gap 33 = .ok (.invokevirtual 135, 3) := dk_182 (dw rcX11_gap_0 17 rfl) rfl
theorem dX11_gap_36 : decode cX11_gap 36 = .ok (.iconst 0, 1) := dk_3 (dw rcX11_gap_0 18 rfl)
theorem dX11_gap_37 : decode cX11_gap 37 = .ok (.istore 4, 2) := dk_54 (dw rcX11_gap_0 19 rfl)
theorem dX11_gap_39 : decode cX11_gap 39 = .ok (.iconst (-1), 1) := dk_2 (dw rcX11_gap_0 20 rfl)
theorem dX11_gap_40 : decode cX11_gap 40 = .ok (.istore 5, 2) := dk_54 (dw rcX11_gap_0 21 rfl)
theorem dX11_gap_42 : decode cX11_gap 42 = .ok (.iconst 0, 1) := dk_3 (dw rcX11_gap_0 22 rfl)
theorem dX11_gap_43 : decode cX11_gap 43 = .ok (.istore 6, 2) := dk_54 (dw rcX11_gap_0 23 rfl)
noncomputable def rbX11_gap_45 : List (Nat × List Nat) := [(45, [3]), (46, [54, 7]), (48, [3]), (49, [54, 8]), (51, [21, 8]), (53, [42]), (54, [180, 0, 10]), (57, [180, 0, 125]), (60, [27]), (61, [46]), (62, [162, 0, 72]), (65, [42]), (66, [180, 0, 37]), (69, [27]), (70, [28]), (71, [21, 8]), (73, [182, 0, 139]), (76, [54, 9]), (78, [21, 6]), (80, [21, 9]), (82, [153, 0, 7]), (85, [4]), (86, [167, 0, 4]), (89, [3])]
theorem rcX11_gap_45 : dgo (lb cX11_gap) 0 rbX11_gap_45 = true := by decide +kernel
theorem dX11_gap_45 : decode cX11_gap 45 = .ok (.iconst 0, 1) := dk_3 (dw rcX11_gap_45 0 rfl)
theorem dX11_gap_46 : decode cX11_gap 46 = .ok (.istore 7, 2) := dk_54 (dw rcX11_gap_45 1 rfl)
theorem dX11_gap_48 : decode cX11_gap 48 = .ok (.iconst 0, 1) := dk_3 (dw rcX11_gap_45 2 rfl)
theorem dX11_gap_49 : decode cX11_gap 49 = .ok (.istore 8, 2) := dk_54 (dw rcX11_gap_45 3 rfl)
theorem dX11_gap_51 : decode cX11_gap 51 = .ok (.iload 8, 2) := dk_21 (dw rcX11_gap_45 4 rfl)
theorem dX11_gap_53 : decode cX11_gap 53 = .ok (.aload_n 0, 1) := dk_42 (dw rcX11_gap_45 5 rfl)
theorem dX11_gap_54 : decode cX11_gap 54 = .ok (.getfield 10, 3) := dk_180 (dw rcX11_gap_45 6 rfl) rfl
theorem dX11_gap_57 : decode cX11_gap 57 = .ok (.getfield 125, 3) := dk_180 (dw rcX11_gap_45 7 rfl) rfl
theorem dX11_gap_60 : decode cX11_gap 60 = .ok (.iload_n 1, 1) := dk_27 (dw rcX11_gap_45 8 rfl)
theorem dX11_gap_61 : decode cX11_gap 61 = .ok (.iaload, 1) := dk_46 (dw rcX11_gap_45 9 rfl)
theorem dX11_gap_62 : decode cX11_gap 62 = .ok (.if_icmp .ge 72, 3) := dk_162 (dw rcX11_gap_45 10 rfl) rfl
theorem dX11_gap_65 : decode cX11_gap 65 = .ok (.aload_n 0, 1) := dk_42 (dw rcX11_gap_45 11 rfl)
theorem dX11_gap_66 : decode cX11_gap 66 = .ok (.getfield 37, 3) := dk_180 (dw rcX11_gap_45 12 rfl) rfl
theorem dX11_gap_69 : decode cX11_gap 69 = .ok (.iload_n 1, 1) := dk_27 (dw rcX11_gap_45 13 rfl)
theorem dX11_gap_70 : decode cX11_gap 70 = .ok (.iload_n 2, 1) := dk_28 (dw rcX11_gap_45 14 rfl)
theorem dX11_gap_71 : decode cX11_gap 71 = .ok (.iload 8, 2) := dk_21 (dw rcX11_gap_45 15 rfl)
theorem dX11_gap_73 : decode cX11_gap 73 = .ok (.invokevirtual 139, 3) := dk_182 (dw rcX11_gap_45 16 rfl) rfl
theorem dX11_gap_76 : decode cX11_gap 76 = .ok (.istore 9, 2) := dk_54 (dw rcX11_gap_45 17 rfl)
theorem dX11_gap_78 : decode cX11_gap 78 = .ok (.iload 6, 2) := dk_21 (dw rcX11_gap_45 18 rfl)
theorem dX11_gap_80 : decode cX11_gap 80 = .ok (.iload 9, 2) := dk_21 (dw rcX11_gap_45 19 rfl)
theorem dX11_gap_82 : decode cX11_gap 82 = .ok (.ifCond .eq 7, 3) := dk_153 (dw rcX11_gap_45 20 rfl) rfl
theorem dX11_gap_85 : decode cX11_gap 85 = .ok (.iconst 1, 1) := dk_4 (dw rcX11_gap_45 21 rfl)
theorem dX11_gap_86 : decode cX11_gap 86 = .ok (.goto 4, 3) := dk_167 (dw rcX11_gap_45 22 rfl) rfl
theorem dX11_gap_89 : decode cX11_gap 89 = .ok (.iconst 0, 1) := dk_3 (dw rcX11_gap_45 23 rfl)
noncomputable def rbX11_gap_90 : List (Nat × List Nat) := [(90, [96]), (91, [54, 6]), (93, [21, 9]), (95, [153, 0, 7]), (98, [3]), (99, [167, 0, 7]), (102, [21, 7]), (104, [4]), (105, [96]), (106, [54, 7]), (108, [21, 7]), (110, [21, 4]), (112, [164, 0, 16]), (115, [21, 7]), (117, [54, 4]), (119, [21, 8]), (121, [21, 7]), (123, [100]), (124, [4]), (125, [96]), (126, [54, 5]), (128, [132, 8, 1]), (131, [167, 255, 176]), (134, [29])]
theorem rcX11_gap_90 : dgo (lb cX11_gap) 0 rbX11_gap_90 = true := by decide +kernel
theorem dX11_gap_90 : decode cX11_gap 90 = .ok (.iadd, 1) := dk_96 (dw rcX11_gap_90 0 rfl)
theorem dX11_gap_91 : decode cX11_gap 91 = .ok (.istore 6, 2) := dk_54 (dw rcX11_gap_90 1 rfl)
theorem dX11_gap_93 : decode cX11_gap 93 = .ok (.iload 9, 2) := dk_21 (dw rcX11_gap_90 2 rfl)
theorem dX11_gap_95 : decode cX11_gap 95 = .ok (.ifCond .eq 7, 3) := dk_153 (dw rcX11_gap_90 3 rfl) rfl
theorem dX11_gap_98 : decode cX11_gap 98 = .ok (.iconst 0, 1) := dk_3 (dw rcX11_gap_90 4 rfl)
theorem dX11_gap_99 : decode cX11_gap 99 = .ok (.goto 7, 3) := dk_167 (dw rcX11_gap_90 5 rfl) rfl
theorem dX11_gap_102 : decode cX11_gap 102 = .ok (.iload 7, 2) := dk_21 (dw rcX11_gap_90 6 rfl)
theorem dX11_gap_104 : decode cX11_gap 104 = .ok (.iconst 1, 1) := dk_4 (dw rcX11_gap_90 7 rfl)
theorem dX11_gap_105 : decode cX11_gap 105 = .ok (.iadd, 1) := dk_96 (dw rcX11_gap_90 8 rfl)
theorem dX11_gap_106 : decode cX11_gap 106 = .ok (.istore 7, 2) := dk_54 (dw rcX11_gap_90 9 rfl)
theorem dX11_gap_108 : decode cX11_gap 108 = .ok (.iload 7, 2) := dk_21 (dw rcX11_gap_90 10 rfl)
theorem dX11_gap_110 : decode cX11_gap 110 = .ok (.iload 4, 2) := dk_21 (dw rcX11_gap_90 11 rfl)
theorem dX11_gap_112 : decode cX11_gap 112 = .ok (.if_icmp .le 16, 3) := dk_164 (dw rcX11_gap_90 12 rfl) rfl
theorem dX11_gap_115 : decode cX11_gap 115 = .ok (.iload 7, 2) := dk_21 (dw rcX11_gap_90 13 rfl)
theorem dX11_gap_117 : decode cX11_gap 117 = .ok (.istore 4, 2) := dk_54 (dw rcX11_gap_90 14 rfl)
theorem dX11_gap_119 : decode cX11_gap 119 = .ok (.iload 8, 2) := dk_21 (dw rcX11_gap_90 15 rfl)
theorem dX11_gap_121 : decode cX11_gap 121 = .ok (.iload 7, 2) := dk_21 (dw rcX11_gap_90 16 rfl)
theorem dX11_gap_123 : decode cX11_gap 123 = .ok (.isub, 1) := dk_100 (dw rcX11_gap_90 17 rfl)
theorem dX11_gap_124 : decode cX11_gap 124 = .ok (.iconst 1, 1) := dk_4 (dw rcX11_gap_90 18 rfl)
theorem dX11_gap_125 : decode cX11_gap 125 = .ok (.iadd, 1) := dk_96 (dw rcX11_gap_90 19 rfl)
theorem dX11_gap_126 : decode cX11_gap 126 = .ok (.istore 5, 2) := dk_54 (dw rcX11_gap_90 20 rfl)
theorem dX11_gap_128 : decode cX11_gap 128 = .ok (.iinc 8 1, 3) := dk_132 (dw rcX11_gap_90 21 rfl) rfl
theorem dX11_gap_131 : decode cX11_gap 131 = .ok (.goto (-80), 3) := dk_167 (dw rcX11_gap_90 22 rfl) rfl
theorem dX11_gap_134 : decode cX11_gap 134 = .ok (.iload_n 3, 1) := dk_29 (dw rcX11_gap_90 23 rfl)
noncomputable def rbX11_gap_135 : List (Nat × List Nat) := [(135, [154, 0, 8]), (138, [21, 4]), (140, [167, 0, 24]), (143, [29]), (144, [4]), (145, [160, 0, 8]), (148, [21, 5]), (150, [167, 0, 14]), (153, [29]), (154, [5]), (155, [160, 0, 8]), (158, [21, 6]), (160, [167, 0, 4]), (163, [2]), (164, [172])]
theorem rcX11_gap_135 : dgo (lb cX11_gap) 0 rbX11_gap_135 = true := by decide +kernel
theorem dX11_gap_135 : decode cX11_gap 135 = .ok (.ifCond .ne 8, 3) := dk_154 (dw rcX11_gap_135 0 rfl) rfl
theorem dX11_gap_138 : decode cX11_gap 138 = .ok (.iload 4, 2) := dk_21 (dw rcX11_gap_135 1 rfl)
theorem dX11_gap_140 : decode cX11_gap 140 = .ok (.goto 24, 3) := dk_167 (dw rcX11_gap_135 2 rfl) rfl
theorem dX11_gap_143 : decode cX11_gap 143 = .ok (.iload_n 3, 1) := dk_29 (dw rcX11_gap_135 3 rfl)
theorem dX11_gap_144 : decode cX11_gap 144 = .ok (.iconst 1, 1) := dk_4 (dw rcX11_gap_135 4 rfl)
theorem dX11_gap_145 : decode cX11_gap 145 = .ok (.if_icmp .ne 8, 3) := dk_160 (dw rcX11_gap_135 5 rfl) rfl
theorem dX11_gap_148 : decode cX11_gap 148 = .ok (.iload 5, 2) := dk_21 (dw rcX11_gap_135 6 rfl)
theorem dX11_gap_150 : decode cX11_gap 150 = .ok (.goto 14, 3) := dk_167 (dw rcX11_gap_135 7 rfl) rfl
theorem dX11_gap_153 : decode cX11_gap 153 = .ok (.iload_n 3, 1) := dk_29 (dw rcX11_gap_135 8 rfl)
theorem dX11_gap_154 : decode cX11_gap 154 = .ok (.iconst 2, 1) := dk_5 (dw rcX11_gap_135 9 rfl)
theorem dX11_gap_155 : decode cX11_gap 155 = .ok (.if_icmp .ne 8, 3) := dk_160 (dw rcX11_gap_135 10 rfl) rfl
theorem dX11_gap_158 : decode cX11_gap 158 = .ok (.iload 6, 2) := dk_21 (dw rcX11_gap_135 11 rfl)
theorem dX11_gap_160 : decode cX11_gap 160 = .ok (.goto 4, 3) := dk_167 (dw rcX11_gap_135 12 rfl) rfl
theorem dX11_gap_163 : decode cX11_gap 163 = .ok (.iconst (-1), 1) := dk_2 (dw rcX11_gap_135 13 rfl)
theorem dX11_gap_164 : decode cX11_gap 164 = .ok (.ireturn, 1) := dk_172 (dw rcX11_gap_135 14 rfl)
noncomputable def rbX11_go_0 : List (Nat × List Nat) := [(0, [42]), (1, [27]), (2, [182, 0, 252]), (5, [154, 0, 5]), (8, [2]), (9, [172]), (10, [42]), (11, [180, 0, 65]), (14, [180, 0, 246]), (17, [77]), (18, [44]), (19, [3]), (20, [46]), (21, [62]), (22, [42]), (23, [180, 0, 65]), (26, [182, 0, 255]), (29, [44]), (30, [5]), (31, [46]), (32, [27]), (33, [96]), (34, [42]), (35, [180, 0, 10])]
theorem rcX11_go_0 : dgo (lb cX11_go) 0 rbX11_go_0 = true := by decide +kernel
theorem dX11_go_0 : decode cX11_go 0 = .ok (.aload_n 0, 1) := dk_42 (dw rcX11_go_0 0 rfl)
theorem dX11_go_1 : decode cX11_go 1 = .ok (.iload_n 1, 1) := dk_27 (dw rcX11_go_0 1 rfl)
theorem dX11_go_2 : decode cX11_go 2 = .ok (.invokevirtual 252, 3) := dk_182 (dw rcX11_go_0 2 rfl) rfl
theorem dX11_go_5 : decode cX11_go 5 = .ok (.ifCond .ne 5, 3) := dk_154 (dw rcX11_go_0 3 rfl) rfl
theorem dX11_go_8 : decode cX11_go 8 = .ok (.iconst (-1), 1) := dk_2 (dw rcX11_go_0 4 rfl)
theorem dX11_go_9 : decode cX11_go 9 = .ok (.ireturn, 1) := dk_172 (dw rcX11_go_0 5 rfl)
theorem dX11_go_10 : decode cX11_go 10 = .ok (.aload_n 0, 1) := dk_42 (dw rcX11_go_0 6 rfl)
theorem dX11_go_11 : decode cX11_go 11 = .ok (.getfield 65, 3) := dk_180 (dw rcX11_go_0 7 rfl) rfl
theorem dX11_go_14 : decode cX11_go 14 = .ok (.getfield 246, 3) := dk_180 (dw rcX11_go_0 8 rfl) rfl
theorem dX11_go_17 : decode cX11_go 17 = .ok (.astore_n 2, 1) := dk_77 (dw rcX11_go_0 9 rfl)
theorem dX11_go_18 : decode cX11_go 18 = .ok (.aload_n 2, 1) := dk_44 (dw rcX11_go_0 10 rfl)
theorem dX11_go_19 : decode cX11_go 19 = .ok (.iconst 0, 1) := dk_3 (dw rcX11_go_0 11 rfl)
theorem dX11_go_20 : decode cX11_go 20 = .ok (.iaload, 1) := dk_46 (dw rcX11_go_0 12 rfl)
theorem dX11_go_21 : decode cX11_go 21 = .ok (.istore_n 3, 1) := dk_62 (dw rcX11_go_0 13 rfl)
theorem dX11_go_22 : decode cX11_go 22 = .ok (.aload_n 0, 1) := dk_42 (dw rcX11_go_0 14 rfl)
theorem dX11_go_23 : decode cX11_go 23 = .ok (.getfield 65, 3) := dk_180 (dw rcX11_go_0 15 rfl) rfl
theorem dX11_go_26 : decode cX11_go 26 = .ok (.invokevirtual 255, 3) := dk_182 (dw rcX11_go_0 16 rfl) rfl
theorem dX11_go_29 : decode cX11_go 29 = .ok (.aload_n 2, 1) := dk_44 (dw rcX11_go_0 17 rfl)
theorem dX11_go_30 : decode cX11_go 30 = .ok (.iconst 2, 1) := dk_5 (dw rcX11_go_0 18 rfl)
theorem dX11_go_31 : decode cX11_go 31 = .ok (.iaload, 1) := dk_46 (dw rcX11_go_0 19 rfl)
theorem dX11_go_32 : decode cX11_go 32 = .ok (.iload_n 1, 1) := dk_27 (dw rcX11_go_0 20 rfl)
theorem dX11_go_33 : decode cX11_go 33 = .ok (.iadd, 1) := dk_96 (dw rcX11_go_0 21 rfl)
theorem dX11_go_34 : decode cX11_go 34 = .ok (.aload_n 0, 1) := dk_42 (dw rcX11_go_0 22 rfl)
theorem dX11_go_35 : decode cX11_go 35 = .ok (.getfield 10, 3) := dk_180 (dw rcX11_go_0 23 rfl) rfl
noncomputable def rbX11_go_38 : List (Nat × List Nat) := [(38, [44]), (39, [16, 7]), (41, [46]), (42, [182, 1, 2]), (45, [96]), (46, [54, 4]), (48, [44]), (49, [8]), (50, [27]), (51, [42]), (52, [180, 0, 10]), (55, [180, 0, 237]), (58, [29]), (59, [46]), (60, [164, 0, 7]), (63, [4]), (64, [167, 0, 4]), (67, [3]), (68, [79]), (69, [42]), (70, [180, 0, 10]), (73, [29]), (74, [44]), (75, [4])]
theorem rcX11_go_38 : dgo (lb cX11_go) 0 rbX11_go_38 = true := by decide +kernel
theorem dX11_go_38 : decode cX11_go 38 = .ok (.aload_n 2, 1) := dk_44 (dw rcX11_go_38 0 rfl)
theorem dX11_go_39 : decode cX11_go 39 = .ok (.bipush 7, 2) := dk_16 (dw rcX11_go_38 1 rfl) rfl
theorem dX11_go_41 : decode cX11_go 41 = .ok (.iaload, 1) := dk_46 (dw rcX11_go_38 2 rfl)
theorem dX11_go_42 : decode cX11_go 42 = .ok (.invokevirtual 258, 3) := dk_182 (dw rcX11_go_38 3 rfl) rfl
theorem dX11_go_45 : decode cX11_go 45 = .ok (.iadd, 1) := dk_96 (dw rcX11_go_38 4 rfl)
theorem dX11_go_46 : decode cX11_go 46 = .ok (.istore 4, 2) := dk_54 (dw rcX11_go_38 5 rfl)
theorem dX11_go_48 : decode cX11_go 48 = .ok (.aload_n 2, 1) := dk_44 (dw rcX11_go_38 6 rfl)
theorem dX11_go_49 : decode cX11_go 49 = .ok (.iconst 5, 1) := dk_8 (dw rcX11_go_38 7 rfl)
theorem dX11_go_50 : decode cX11_go 50 = .ok (.iload_n 1, 1) := dk_27 (dw rcX11_go_38 8 rfl)
theorem dX11_go_51 : decode cX11_go 51 = .ok (.aload_n 0, 1) := dk_42 (dw rcX11_go_38 9 rfl)
theorem dX11_go_52 : decode cX11_go 52 = .ok (.getfield 10, 3) := dk_180 (dw rcX11_go_38 10 rfl) rfl
theorem dX11_go_55 : decode cX11_go 55 = .ok (.getfield 237, 3) := dk_180 (dw rcX11_go_38 11 rfl) rfl
theorem dX11_go_58 : decode cX11_go 58 = .ok (.iload_n 3, 1) := dk_29 (dw rcX11_go_38 12 rfl)
theorem dX11_go_59 : decode cX11_go 59 = .ok (.iaload, 1) := dk_46 (dw rcX11_go_38 13 rfl)
theorem dX11_go_60 : decode cX11_go 60 = .ok (.if_icmp .le 7, 3) := dk_164 (dw rcX11_go_38 14 rfl) rfl
theorem dX11_go_63 : decode cX11_go 63 = .ok (.iconst 1, 1) := dk_4 (dw rcX11_go_38 15 rfl)
theorem dX11_go_64 : decode cX11_go 64 = .ok (.goto 4, 3) := dk_167 (dw rcX11_go_38 16 rfl) rfl
theorem dX11_go_67 : decode cX11_go 67 = .ok (.iconst 0, 1) := dk_3 (dw rcX11_go_38 17 rfl)
theorem dX11_go_68 : decode cX11_go 68 = .ok (.iastore, 1) := dk_79 (dw rcX11_go_38 18 rfl)
theorem dX11_go_69 : decode cX11_go 69 = .ok (.aload_n 0, 1) := dk_42 (dw rcX11_go_38 19 rfl)
theorem dX11_go_70 : decode cX11_go 70 = .ok (.getfield 10, 3) := dk_180 (dw rcX11_go_38 20 rfl) rfl
theorem dX11_go_73 : decode cX11_go 73 = .ok (.iload_n 3, 1) := dk_29 (dw rcX11_go_38 21 rfl)
theorem dX11_go_74 : decode cX11_go 74 = .ok (.aload_n 2, 1) := dk_44 (dw rcX11_go_38 22 rfl)
theorem dX11_go_75 : decode cX11_go 75 = .ok (.iconst 1, 1) := dk_4 (dw rcX11_go_38 23 rfl)
noncomputable def rbX11_go_76 : List (Nat × List Nat) := [(76, [46]), (77, [21, 4]), (79, [182, 0, 234]), (82, [153, 0, 33]), (85, [44]), (86, [5]), (87, [21, 4]), (89, [79]), (90, [44]), (91, [6]), (92, [92]), (93, [46]), (94, [4]), (95, [96]), (96, [79]), (97, [44]), (98, [7]), (99, [42]), (100, [182, 0, 242]), (103, [153, 0, 7]), (106, [4]), (107, [167, 0, 4]), (110, [3]), (111, [79])]
theorem rcX11_go_76 : dgo (lb cX11_go) 0 rbX11_go_76 = true := by decide +kernel
theorem dX11_go_76 : decode cX11_go 76 = .ok (.iaload, 1) := dk_46 (dw rcX11_go_76 0 rfl)
theorem dX11_go_77 : decode cX11_go 77 = .ok (.iload 4, 2) := dk_21 (dw rcX11_go_76 1 rfl)
theorem dX11_go_79 : decode cX11_go 79 = .ok (.invokevirtual 234, 3) := dk_182 (dw rcX11_go_76 2 rfl) rfl
theorem dX11_go_82 : decode cX11_go 82 = .ok (.ifCond .eq 33, 3) := dk_153 (dw rcX11_go_76 3 rfl) rfl
theorem dX11_go_85 : decode cX11_go 85 = .ok (.aload_n 2, 1) := dk_44 (dw rcX11_go_76 4 rfl)
theorem dX11_go_86 : decode cX11_go 86 = .ok (.iconst 2, 1) := dk_5 (dw rcX11_go_76 5 rfl)
theorem dX11_go_87 : decode cX11_go 87 = .ok (.iload 4, 2) := dk_21 (dw rcX11_go_76 6 rfl)
theorem dX11_go_89 : decode cX11_go 89 = .ok (.iastore, 1) := dk_79 (dw rcX11_go_76 7 rfl)
theorem dX11_go_90 : decode cX11_go 90 = .ok (.aload_n 2, 1) := dk_44 (dw rcX11_go_76 8 rfl)
theorem dX11_go_91 : decode cX11_go 91 = .ok (.iconst 3, 1) := dk_6 (dw rcX11_go_76 9 rfl)
theorem dX11_go_92 : decode cX11_go 92 = .ok (.dup2, 1) := dk_92 (dw rcX11_go_76 10 rfl)
theorem dX11_go_93 : decode cX11_go 93 = .ok (.iaload, 1) := dk_46 (dw rcX11_go_76 11 rfl)
theorem dX11_go_94 : decode cX11_go 94 = .ok (.iconst 1, 1) := dk_4 (dw rcX11_go_76 12 rfl)
theorem dX11_go_95 : decode cX11_go 95 = .ok (.iadd, 1) := dk_96 (dw rcX11_go_76 13 rfl)
theorem dX11_go_96 : decode cX11_go 96 = .ok (.iastore, 1) := dk_79 (dw rcX11_go_76 14 rfl)
theorem dX11_go_97 : decode cX11_go 97 = .ok (.aload_n 2, 1) := dk_44 (dw rcX11_go_76 15 rfl)
theorem dX11_go_98 : decode cX11_go 98 = .ok (.iconst 4, 1) := dk_7 (dw rcX11_go_76 16 rfl)
theorem dX11_go_99 : decode cX11_go 99 = .ok (.aload_n 0, 1) := dk_42 (dw rcX11_go_76 17 rfl)
theorem dX11_go_100 : decode cX11_go 100 = .ok (.invokevirtual 242, 3) := dk_182 (dw rcX11_go_76 18 rfl) rfl
theorem dX11_go_103 : decode cX11_go 103 = .ok (.ifCond .eq 7, 3) := dk_153 (dw rcX11_go_76 19 rfl) rfl
theorem dX11_go_106 : decode cX11_go 106 = .ok (.iconst 1, 1) := dk_4 (dw rcX11_go_76 20 rfl)
theorem dX11_go_107 : decode cX11_go 107 = .ok (.goto 4, 3) := dk_167 (dw rcX11_go_76 21 rfl) rfl
theorem dX11_go_110 : decode cX11_go 110 = .ok (.iconst 0, 1) := dk_3 (dw rcX11_go_76 22 rfl)
theorem dX11_go_111 : decode cX11_go 111 = .ok (.iastore, 1) := dk_79 (dw rcX11_go_76 23 rfl)
noncomputable def rbX11_go_112 : List (Nat × List Nat) := [(112, [167, 0, 7]), (115, [44]), (116, [7]), (117, [5]), (118, [79]), (119, [42]), (120, [180, 0, 65]), (123, [182, 0, 249]), (126, [44]), (127, [7]), (128, [46]), (129, [172])]
theorem rcX11_go_112 : dgo (lb cX11_go) 0 rbX11_go_112 = true := by decide +kernel
theorem dX11_go_112 : decode cX11_go 112 = .ok (.goto 7, 3) := dk_167 (dw rcX11_go_112 0 rfl) rfl
theorem dX11_go_115 : decode cX11_go 115 = .ok (.aload_n 2, 1) := dk_44 (dw rcX11_go_112 1 rfl)
theorem dX11_go_116 : decode cX11_go 116 = .ok (.iconst 4, 1) := dk_7 (dw rcX11_go_112 2 rfl)
theorem dX11_go_117 : decode cX11_go 117 = .ok (.iconst 2, 1) := dk_5 (dw rcX11_go_112 3 rfl)
theorem dX11_go_118 : decode cX11_go 118 = .ok (.iastore, 1) := dk_79 (dw rcX11_go_112 4 rfl)
theorem dX11_go_119 : decode cX11_go 119 = .ok (.aload_n 0, 1) := dk_42 (dw rcX11_go_112 5 rfl)
theorem dX11_go_120 : decode cX11_go 120 = .ok (.getfield 65, 3) := dk_180 (dw rcX11_go_112 6 rfl) rfl
theorem dX11_go_123 : decode cX11_go 123 = .ok (.invokevirtual 249, 3) := dk_182 (dw rcX11_go_112 7 rfl) rfl
theorem dX11_go_126 : decode cX11_go 126 = .ok (.aload_n 2, 1) := dk_44 (dw rcX11_go_112 8 rfl)
theorem dX11_go_127 : decode cX11_go 127 = .ok (.iconst 4, 1) := dk_7 (dw rcX11_go_112 9 rfl)
theorem dX11_go_128 : decode cX11_go 128 = .ok (.iaload, 1) := dk_46 (dw rcX11_go_112 10 rfl)
theorem dX11_go_129 : decode cX11_go 129 = .ok (.ireturn, 1) := dk_172 (dw rcX11_go_112 11 rfl)
noncomputable def rbX11_inch_0 : List (Nat × List Nat) := [(0, [42]), (1, [180, 0, 10]), (4, [27]), (5, [28]), (6, [182, 0, 110]), (9, [153, 0, 12]), (12, [29]), (13, [155, 0, 8]), (16, [29]), (17, [7]), (18, [164, 0, 5]), (21, [2]), (22, [172]), (23, [42]), (24, [180, 0, 10]), (27, [27]), (28, [28]), (29, [182, 0, 114]), (32, [29]), (33, [184, 0, 118]), (36, [172])]
theorem rcX11_inch_0 : dgo (lb cX11_inch) 0 rbX11_inch_0 = true := by decide +kernel
theorem dX11_inch_0 : decode cX11_inch 0 = .ok (.aload_n 0, 1) := dk_42 (dw rcX11_inch_0 0 rfl)
theorem dX11_inch_1 : decode cX11_inch 1 = .ok (.getfield 10, 3) := dk_180 (dw rcX11_inch_0 1 rfl) rfl
theorem dX11_inch_4 : decode cX11_inch 4 = .ok (.iload_n 1, 1) := dk_27 (dw rcX11_inch_0 2 rfl)
theorem dX11_inch_5 : decode cX11_inch 5 = .ok (.iload_n 2, 1) := dk_28 (dw rcX11_inch_0 3 rfl)
theorem dX11_inch_6 : decode cX11_inch 6 = .ok (.invokevirtual 110, 3) := dk_182 (dw rcX11_inch_0 4 rfl) rfl
theorem dX11_inch_9 : decode cX11_inch 9 = .ok (.ifCond .eq 12, 3) := dk_153 (dw rcX11_inch_0 5 rfl) rfl
theorem dX11_inch_12 : decode cX11_inch 12 = .ok (.iload_n 3, 1) := dk_29 (dw rcX11_inch_0 6 rfl)
theorem dX11_inch_13 : decode cX11_inch 13 = .ok (.ifCond .lt 8, 3) := dk_155 (dw rcX11_inch_0 7 rfl) rfl
theorem dX11_inch_16 : decode cX11_inch 16 = .ok (.iload_n 3, 1) := dk_29 (dw rcX11_inch_0 8 rfl)
theorem dX11_inch_17 : decode cX11_inch 17 = .ok (.iconst 4, 1) := dk_7 (dw rcX11_inch_0 9 rfl)
theorem dX11_inch_18 : decode cX11_inch 18 = .ok (.if_icmp .le 5, 3) := dk_164 (dw rcX11_inch_0 10 rfl) rfl
theorem dX11_inch_21 : decode cX11_inch 21 = .ok (.iconst (-1), 1) := dk_2 (dw rcX11_inch_0 11 rfl)
theorem dX11_inch_22 : decode cX11_inch 22 = .ok (.ireturn, 1) := dk_172 (dw rcX11_inch_0 12 rfl)
theorem dX11_inch_23 : decode cX11_inch 23 = .ok (.aload_n 0, 1) := dk_42 (dw rcX11_inch_0 13 rfl)
theorem dX11_inch_24 : decode cX11_inch 24 = .ok (.getfield 10, 3) := dk_180 (dw rcX11_inch_0 14 rfl) rfl
theorem dX11_inch_27 : decode cX11_inch 27 = .ok (.iload_n 1, 1) := dk_27 (dw rcX11_inch_0 15 rfl)
theorem dX11_inch_28 : decode cX11_inch 28 = .ok (.iload_n 2, 1) := dk_28 (dw rcX11_inch_0 16 rfl)
theorem dX11_inch_29 : decode cX11_inch 29 = .ok (.invokevirtual 114, 3) := dk_182 (dw rcX11_inch_0 17 rfl) rfl
theorem dX11_inch_32 : decode cX11_inch 32 = .ok (.iload_n 3, 1) := dk_29 (dw rcX11_inch_0 18 rfl)
theorem dX11_inch_33 : decode cX11_inch 33 = .ok (.invokestatic 118, 3) := dk_184 (dw rcX11_inch_0 19 rfl) rfl
theorem dX11_inch_36 : decode cX11_inch 36 = .ok (.ireturn, 1) := dk_172 (dw rcX11_inch_0 20 rfl)
noncomputable def rbX11_length_0 : List (Nat × List Nat) := [(0, [42]), (1, [180, 0, 10]), (4, [27]), (5, [182, 0, 121]), (8, [153, 0, 15]), (11, [42]), (12, [180, 0, 10]), (15, [180, 0, 125]), (18, [27]), (19, [46]), (20, [167, 0, 4]), (23, [2]), (24, [172])]
theorem rcX11_length_0 : dgo (lb cX11_length) 0 rbX11_length_0 = true := by decide +kernel
theorem dX11_length_0 : decode cX11_length 0 = .ok (.aload_n 0, 1) := dk_42 (dw rcX11_length_0 0 rfl)
theorem dX11_length_1 : decode cX11_length 1 = .ok (.getfield 10, 3) := dk_180 (dw rcX11_length_0 1 rfl) rfl
theorem dX11_length_4 : decode cX11_length 4 = .ok (.iload_n 1, 1) := dk_27 (dw rcX11_length_0 2 rfl)
theorem dX11_length_5 : decode cX11_length 5 = .ok (.invokevirtual 121, 3) := dk_182 (dw rcX11_length_0 3 rfl) rfl
theorem dX11_length_8 : decode cX11_length 8 = .ok (.ifCond .eq 15, 3) := dk_153 (dw rcX11_length_0 4 rfl) rfl
theorem dX11_length_11 : decode cX11_length 11 = .ok (.aload_n 0, 1) := dk_42 (dw rcX11_length_0 5 rfl)
theorem dX11_length_12 : decode cX11_length 12 = .ok (.getfield 10, 3) := dk_180 (dw rcX11_length_0 6 rfl) rfl
theorem dX11_length_15 : decode cX11_length 15 = .ok (.getfield 125, 3) := dk_180 (dw rcX11_length_0 7 rfl) rfl
theorem dX11_length_18 : decode cX11_length 18 = .ok (.iload_n 1, 1) := dk_27 (dw rcX11_length_0 8 rfl)
theorem dX11_length_19 : decode cX11_length 19 = .ok (.iaload, 1) := dk_46 (dw rcX11_length_0 9 rfl)
theorem dX11_length_20 : decode cX11_length 20 = .ok (.goto 4, 3) := dk_167 (dw rcX11_length_0 10 rfl) rfl
theorem dX11_length_23 : decode cX11_length 23 = .ok (.iconst (-1), 1) := dk_2 (dw rcX11_length_0 11 rfl)
theorem dX11_length_24 : decode cX11_length 24 = .ok (.ireturn, 1) := dk_172 (dw rcX11_length_0 12 rfl)
noncomputable def rbX11_line_0 : List (Nat × List Nat) := [(0, [42]), (1, [180, 0, 10]), (4, [27]), (5, [29]), (6, [182, 0, 110]), (9, [153, 0, 14]), (12, [42]), (13, [180, 0, 10]), (16, [28]), (17, [182, 0, 128]), (20, [154, 0, 5]), (23, [2]), (24, [172]), (25, [42]), (26, [180, 0, 37]), (29, [27]), (30, [42]), (31, [182, 0, 131]), (34, [182, 0, 135]), (37, [42]), (38, [180, 0, 37]), (41, [27]), (42, [28]), (43, [29])]
theorem rcX11_line_0 : dgo (lb cX11_line) 0 rbX11_line_0 = true := by decide +kernel
theorem dX11_line_0 : decode cX11_line 0 = .ok (.aload_n 0, 1) := dk_42 (dw rcX11_line_0 0 rfl)
theorem dX11_line_1 : decode cX11_line 1 = .ok (.getfield 10, 3) := dk_180 (dw rcX11_line_0 1 rfl) rfl
theorem dX11_line_4 : decode cX11_line 4 = .ok (.iload_n 1, 1) := dk_27 (dw rcX11_line_0 2 rfl)
theorem dX11_line_5 : decode cX11_line 5 = .ok (.iload_n 3, 1) := dk_29 (dw rcX11_line_0 3 rfl)
theorem dX11_line_6 : decode cX11_line 6 = .ok (.invokevirtual 110, 3) := dk_182 (dw rcX11_line_0 4 rfl) rfl
theorem dX11_line_9 : decode cX11_line 9 = .ok (.ifCond .eq 14, 3) := dk_153 (dw rcX11_line_0 5 rfl) rfl
theorem dX11_line_12 : decode cX11_line 12 = .ok (.aload_n 0, 1) := dk_42 (dw rcX11_line_0 6 rfl)
theorem dX11_line_13 : decode cX11_line 13 = .ok (.getfield 10, 3) := dk_180 (dw rcX11_line_0 7 rfl) rfl
theorem dX11_line_16 : decode cX11_line 16 = .ok (.iload_n 2, 1) := dk_28 (dw rcX11_line_0 8 rfl)
theorem dX11_line_17 : decode cX11_line 17 = .ok (.invokevirtual 128, 3) := dk_182 (dw rcX11_line_0 9 rfl) rfl
theorem dX11_line_20 : decode cX11_line 20 = .ok (.ifCond .ne 5, 3) := dk_154 (dw rcX11_line_0 10 rfl) rfl
theorem dX11_line_23 : decode cX11_line 23 = .ok (.iconst (-1), 1) := dk_2 (dw rcX11_line_0 11 rfl)
theorem dX11_line_24 : decode cX11_line 24 = .ok (.ireturn, 1) := dk_172 (dw rcX11_line_0 12 rfl)
theorem dX11_line_25 : decode cX11_line 25 = .ok (.aload_n 0, 1) := dk_42 (dw rcX11_line_0 13 rfl)
theorem dX11_line_26 : decode cX11_line 26 = .ok (.getfield 37, 3) := dk_180 (dw rcX11_line_0 14 rfl) rfl
theorem dX11_line_29 : decode cX11_line 29 = .ok (.iload_n 1, 1) := dk_27 (dw rcX11_line_0 15 rfl)
theorem dX11_line_30 : decode cX11_line 30 = .ok (.aload_n 0, 1) := dk_42 (dw rcX11_line_0 16 rfl)
theorem dX11_line_31 : decode cX11_line 31 = .ok (.invokevirtual 131, 3) := dk_182 (dw rcX11_line_0 17 rfl) rfl
theorem dX11_line_34 : decode cX11_line 34 = .ok (.invokevirtual 135, 3) := dk_182 (dw rcX11_line_0 18 rfl) rfl
theorem dX11_line_37 : decode cX11_line 37 = .ok (.aload_n 0, 1) := dk_42 (dw rcX11_line_0 19 rfl)
theorem dX11_line_38 : decode cX11_line 38 = .ok (.getfield 37, 3) := dk_180 (dw rcX11_line_0 20 rfl) rfl
theorem dX11_line_41 : decode cX11_line 41 = .ok (.iload_n 1, 1) := dk_27 (dw rcX11_line_0 21 rfl)
theorem dX11_line_42 : decode cX11_line 42 = .ok (.iload_n 2, 1) := dk_28 (dw rcX11_line_0 22 rfl)
theorem dX11_line_43 : decode cX11_line 43 = .ok (.iload_n 3, 1) := dk_29 (dw rcX11_line_0 23 rfl)
noncomputable def rbX11_line_44 : List (Nat × List Nat) := [(44, [182, 0, 139]), (47, [153, 0, 7]), (50, [4]), (51, [167, 0, 4]), (54, [3]), (55, [172])]
theorem rcX11_line_44 : dgo (lb cX11_line) 0 rbX11_line_44 = true := by decide +kernel
theorem dX11_line_44 : decode cX11_line 44 = .ok (.invokevirtual 139, 3) := dk_182 (dw rcX11_line_44 0 rfl) rfl
theorem dX11_line_47 : decode cX11_line 47 = .ok (.ifCond .eq 7, 3) := dk_153 (dw rcX11_line_44 1 rfl) rfl
theorem dX11_line_50 : decode cX11_line 50 = .ok (.iconst 1, 1) := dk_4 (dw rcX11_line_44 2 rfl)
theorem dX11_line_51 : decode cX11_line 51 = .ok (.goto 4, 3) := dk_167 (dw rcX11_line_44 3 rfl) rfl
theorem dX11_line_54 : decode cX11_line 54 = .ok (.iconst 0, 1) := dk_3 (dw rcX11_line_44 4 rfl)
theorem dX11_line_55 : decode cX11_line 55 = .ok (.ireturn, 1) := dk_172 (dw rcX11_line_44 5 rfl)
noncomputable def rbX11_sight_0 : List (Nat × List Nat) := [(0, [42]), (1, [180, 0, 10]), (4, [27]), (5, [28]), (6, [29]), (7, [182, 0, 234]), (10, [153, 0, 16]), (13, [42]), (14, [180, 0, 72]), (17, [27]), (18, [28]), (19, [29]), (20, [182, 1, 15]), (23, [167, 0, 4]), (26, [2]), (27, [172])]
theorem rcX11_sight_0 : dgo (lb cX11_sight) 0 rbX11_sight_0 = true := by decide +kernel
theorem dX11_sight_0 : decode cX11_sight 0 = .ok (.aload_n 0, 1) := dk_42 (dw rcX11_sight_0 0 rfl)
theorem dX11_sight_1 : decode cX11_sight 1 = .ok (.getfield 10, 3) := dk_180 (dw rcX11_sight_0 1 rfl) rfl
theorem dX11_sight_4 : decode cX11_sight 4 = .ok (.iload_n 1, 1) := dk_27 (dw rcX11_sight_0 2 rfl)
theorem dX11_sight_5 : decode cX11_sight 5 = .ok (.iload_n 2, 1) := dk_28 (dw rcX11_sight_0 3 rfl)
theorem dX11_sight_6 : decode cX11_sight 6 = .ok (.iload_n 3, 1) := dk_29 (dw rcX11_sight_0 4 rfl)
theorem dX11_sight_7 : decode cX11_sight 7 = .ok (.invokevirtual 234, 3) := dk_182 (dw rcX11_sight_0 5 rfl) rfl
theorem dX11_sight_10 : decode cX11_sight 10 = .ok (.ifCond .eq 16, 3) := dk_153 (dw rcX11_sight_0 6 rfl) rfl
theorem dX11_sight_13 : decode cX11_sight 13 = .ok (.aload_n 0, 1) := dk_42 (dw rcX11_sight_0 7 rfl)
theorem dX11_sight_14 : decode cX11_sight 14 = .ok (.getfield 72, 3) := dk_180 (dw rcX11_sight_0 8 rfl) rfl
theorem dX11_sight_17 : decode cX11_sight 17 = .ok (.iload_n 1, 1) := dk_27 (dw rcX11_sight_0 9 rfl)
theorem dX11_sight_18 : decode cX11_sight 18 = .ok (.iload_n 2, 1) := dk_28 (dw rcX11_sight_0 10 rfl)
theorem dX11_sight_19 : decode cX11_sight 19 = .ok (.iload_n 3, 1) := dk_29 (dw rcX11_sight_0 11 rfl)
theorem dX11_sight_20 : decode cX11_sight 20 = .ok (.invokevirtual 271, 3) := dk_182 (dw rcX11_sight_0 12 rfl) rfl
theorem dX11_sight_23 : decode cX11_sight 23 = .ok (.goto 4, 3) := dk_167 (dw rcX11_sight_0 13 rfl) rfl
theorem dX11_sight_26 : decode cX11_sight 26 = .ok (.iconst (-1), 1) := dk_2 (dw rcX11_sight_0 14 rfl)
theorem dX11_sight_27 : decode cX11_sight 27 = .ok (.ireturn, 1) := dk_172 (dw rcX11_sight_0 15 rfl)
noncomputable def rbX11_walk_0 : List (Nat × List Nat) := [(0, [42]), (1, [180, 0, 10]), (4, [27]), (5, [28]), (6, [29]), (7, [182, 0, 234]), (10, [153, 0, 16]), (13, [29]), (14, [42]), (15, [180, 0, 10]), (18, [180, 0, 237]), (21, [27]), (22, [46]), (23, [161, 0, 5]), (26, [2]), (27, [172]), (28, [42]), (29, [180, 0, 65]), (32, [27]), (33, [28]), (34, [29]), (35, [182, 0, 239]), (38, [42]), (39, [182, 0, 242])]
theorem rcX11_walk_0 : dgo (lb cX11_walk) 0 rbX11_walk_0 = true := by decide +kernel
theorem dX11_walk_0 : decode cX11_walk 0 = .ok (.aload_n 0, 1) := dk_42 (dw rcX11_walk_0 0 rfl)
theorem dX11_walk_1 : decode cX11_walk 1 = .ok (.getfield 10, 3) := dk_180 (dw rcX11_walk_0 1 rfl) rfl
theorem dX11_walk_4 : decode cX11_walk 4 = .ok (.iload_n 1, 1) := dk_27 (dw rcX11_walk_0 2 rfl)
theorem dX11_walk_5 : decode cX11_walk 5 = .ok (.iload_n 2, 1) := dk_28 (dw rcX11_walk_0 3 rfl)
theorem dX11_walk_6 : decode cX11_walk 6 = .ok (.iload_n 3, 1) := dk_29 (dw rcX11_walk_0 4 rfl)
theorem dX11_walk_7 : decode cX11_walk 7 = .ok (.invokevirtual 234, 3) := dk_182 (dw rcX11_walk_0 5 rfl) rfl
theorem dX11_walk_10 : decode cX11_walk 10 = .ok (.ifCond .eq 16, 3) := dk_153 (dw rcX11_walk_0 6 rfl) rfl
theorem dX11_walk_13 : decode cX11_walk 13 = .ok (.iload_n 3, 1) := dk_29 (dw rcX11_walk_0 7 rfl)
theorem dX11_walk_14 : decode cX11_walk 14 = .ok (.aload_n 0, 1) := dk_42 (dw rcX11_walk_0 8 rfl)
theorem dX11_walk_15 : decode cX11_walk 15 = .ok (.getfield 10, 3) := dk_180 (dw rcX11_walk_0 9 rfl) rfl
theorem dX11_walk_18 : decode cX11_walk 18 = .ok (.getfield 237, 3) := dk_180 (dw rcX11_walk_0 10 rfl) rfl
theorem dX11_walk_21 : decode cX11_walk 21 = .ok (.iload_n 1, 1) := dk_27 (dw rcX11_walk_0 11 rfl)
theorem dX11_walk_22 : decode cX11_walk 22 = .ok (.iaload, 1) := dk_46 (dw rcX11_walk_0 12 rfl)
theorem dX11_walk_23 : decode cX11_walk 23 = .ok (.if_icmp .lt 5, 3) := dk_161 (dw rcX11_walk_0 13 rfl) rfl
theorem dX11_walk_26 : decode cX11_walk 26 = .ok (.iconst (-1), 1) := dk_2 (dw rcX11_walk_0 14 rfl)
theorem dX11_walk_27 : decode cX11_walk 27 = .ok (.ireturn, 1) := dk_172 (dw rcX11_walk_0 15 rfl)
theorem dX11_walk_28 : decode cX11_walk 28 = .ok (.aload_n 0, 1) := dk_42 (dw rcX11_walk_0 16 rfl)
theorem dX11_walk_29 : decode cX11_walk 29 = .ok (.getfield 65, 3) := dk_180 (dw rcX11_walk_0 17 rfl) rfl
theorem dX11_walk_32 : decode cX11_walk 32 = .ok (.iload_n 1, 1) := dk_27 (dw rcX11_walk_0 18 rfl)
theorem dX11_walk_33 : decode cX11_walk 33 = .ok (.iload_n 2, 1) := dk_28 (dw rcX11_walk_0 19 rfl)
theorem dX11_walk_34 : decode cX11_walk 34 = .ok (.iload_n 3, 1) := dk_29 (dw rcX11_walk_0 20 rfl)
theorem dX11_walk_35 : decode cX11_walk 35 = .ok (.invokevirtual 239, 3) := dk_182 (dw rcX11_walk_0 21 rfl) rfl
theorem dX11_walk_38 : decode cX11_walk 38 = .ok (.aload_n 0, 1) := dk_42 (dw rcX11_walk_0 22 rfl)
theorem dX11_walk_39 : decode cX11_walk 39 = .ok (.invokevirtual 242, 3) := dk_182 (dw rcX11_walk_0 23 rfl) rfl
noncomputable def rbX11_walk_42 : List (Nat × List Nat) := [(42, [154, 0, 13]), (45, [42]), (46, [180, 0, 65]), (49, [180, 0, 246]), (52, [7]), (53, [3]), (54, [79]), (55, [42]), (56, [180, 0, 65]), (59, [182, 0, 249]), (62, [42]), (63, [180, 0, 65]), (66, [180, 0, 246]), (69, [7]), (70, [46]), (71, [172])]
theorem rcX11_walk_42 : dgo (lb cX11_walk) 0 rbX11_walk_42 = true := by decide +kernel
theorem dX11_walk_42 : decode cX11_walk 42 = .ok (.ifCond .ne 13, 3) := dk_154 (dw rcX11_walk_42 0 rfl) rfl
theorem dX11_walk_45 : decode cX11_walk 45 = .ok (.aload_n 0, 1) := dk_42 (dw rcX11_walk_42 1 rfl)
theorem dX11_walk_46 : decode cX11_walk 46 = .ok (.getfield 65, 3) := dk_180 (dw rcX11_walk_42 2 rfl) rfl
theorem dX11_walk_49 : decode cX11_walk 49 = .ok (.getfield 246, 3) := dk_180 (dw rcX11_walk_42 3 rfl) rfl
theorem dX11_walk_52 : decode cX11_walk 52 = .ok (.iconst 4, 1) := dk_7 (dw rcX11_walk_42 4 rfl)
theorem dX11_walk_53 : decode cX11_walk 53 = .ok (.iconst 0, 1) := dk_3 (dw rcX11_walk_42 5 rfl)
theorem dX11_walk_54 : decode cX11_walk 54 = .ok (.iastore, 1) := dk_79 (dw rcX11_walk_42 6 rfl)
theorem dX11_walk_55 : decode cX11_walk 55 = .ok (.aload_n 0, 1) := dk_42 (dw rcX11_walk_42 7 rfl)
theorem dX11_walk_56 : decode cX11_walk 56 = .ok (.getfield 65, 3) := dk_180 (dw rcX11_walk_42 8 rfl) rfl
theorem dX11_walk_59 : decode cX11_walk 59 = .ok (.invokevirtual 249, 3) := dk_182 (dw rcX11_walk_42 9 rfl) rfl
theorem dX11_walk_62 : decode cX11_walk 62 = .ok (.aload_n 0, 1) := dk_42 (dw rcX11_walk_42 10 rfl)
theorem dX11_walk_63 : decode cX11_walk 63 = .ok (.getfield 65, 3) := dk_180 (dw rcX11_walk_42 11 rfl) rfl
theorem dX11_walk_66 : decode cX11_walk 66 = .ok (.getfield 246, 3) := dk_180 (dw rcX11_walk_42 12 rfl) rfl
theorem dX11_walk_69 : decode cX11_walk 69 = .ok (.iconst 4, 1) := dk_7 (dw rcX11_walk_42 13 rfl)
theorem dX11_walk_70 : decode cX11_walk 70 = .ok (.iaload, 1) := dk_46 (dw rcX11_walk_42 14 rfl)
theorem dX11_walk_71 : decode cX11_walk 71 = .ok (.ireturn, 1) := dk_172 (dw rcX11_walk_42 15 rfl)
set_option maxHeartbeats 4000000 in
set_option maxRecDepth 100000 in
theorem k_Winch_1 (l : Launch) (D : va_G) (k : KT) (A : Nat → Prop) (a : Nat → Nat) (z : SK) (G : GS) (p0 : Int32) (p1 : Int32) (p2 : Int32) (hv_0_0 : G.2.2 0 0 = 1) (hv_0_1 : G.2.2 0 1 = 2) (hv_6_4 : G.2.2 6 4 = 1) : Met l yX11_inch (WS yX11_inch cX11_inch 4 (some .int)) ({ frames := 3, cells := 0, slots := 0, locals := 65 }) (va_Pc [.ref (a 0), .int p0, .int p1, .int p2] (cW D k A a z G)) (va_Qi (fun (r : Int32) (G1 : GS) => P_Winch_1 p0 p1 p2 G r G1) (fun (G1 : GS) t => Wd D k A a G1 t.heap) A) 0 0 A := by
  refine Met.ofW (cc := cX11_inch) (maxL := 4) (ret := (some .int)) (by decide) rfl ?_
  intro p e s m args below meth c s₁ B hml hv
  obtain ⟨rfl, hW, hB_G, hK, hZ⟩ := hv
  have hx := B.exec
  have hb := B.bytes
  have hr := B.returns
  have hts := atoms_spec (ws := WS yX11_inch cX11_inch 4 (some .int)) B.pre
  have hgd : ∀ w ∈ gd, w ∈ WS yX11_inch cX11_inch 4 (some .int) := fun w h => List.mem_cons_of_mem _ h
  have hg : ∀ w ∈ gd, w.before _ s = true := fun w h => hts w (hgd w h)
  have hown : s.vm.findClass RX11 = some m.cls := findClass_of_methodNamed B.named
  have hS : va_S A s.heap s.heap [] := va_S.rf
  have hF : Fr [] [] G G := Fr.rf
  have hl := lv_entry ([.ref (a 0), .int p0, .int p1, .int p2]) (n := 4) (Nat.le_of_ble_eq_true rfl)
  rw [lg_entry_eq]
  generalize (lg_sl ([.ref (a 0), .int p0, .int p1, .int p2]) ++ List.replicate (4 - (lg_sl ([.ref (a 0), .int p0, .int p1, .int p2])).length) Slot.unset).toArray = ls at hl ⊢
  have hl : lv_has ls 4 [(0, .ref (a 0)), (1, .int p0), (2, .int p1), (3, .int p2)] := hl
  refine lv_aload_n hx hb dX11_inch_0 rfl (lv_at hl 0 rfl) ?_
  refine S_getV (n := 1) (C := RX11) (T := TX11) (N := 13) hx hb hg iX11 hown hK hW kd_0 rfl 0 (lt_b rfl) (hg (Cond.fieldLink RX11 10 "SlabWalk" "paving" "LSlabWalk$Paving;") m570) (fun _ h9 => h9) rfl hv_0_0 dX11_inch_1 ?_
  refine lv_iload_n hx hb dX11_inch_4 rfl (lv_at hl 1 rfl) ?_
  refine lv_iload_n hx hb dX11_inch_5 rfl (lv_at hl 2 rfl) ?_
  refine S_calli (va_runV (As := [.int p0, .int p1]) (rest := []) ⟨hx, hb, hml, hown, hts⟩ (k_hasInch_1 l D k A a z G p0 p1 ) (cwV 2 hts (gd_V hgd m882 m883 m884 m118 m885) rfl rfl rfl hd_X6_hasInch ⟨Nat.le_of_ble_eq_true rfl, Nat.le_of_ble_eq_true rfl⟩) (pre_W hW hB_G hK hZ hS kd_1 rfl) rfl rfl hl.1 rfl (lv_room (Nat.le_of_ble_eq_true rfl)) dX11_inch_6 ⟨Nat.le_of_ble_eq_true rfl, Nat.le_of_ble_eq_true rfl⟩) hS (fun r_1 G_2 H locs hpo hW hS => ?_)
  have hX_5 : P_hasInch_1 p0 p1 G r_1 G_2 := hpo
  obtain ⟨hB_G_2, hq_3, f_6, hp_4, -⟩ := hpo
  have hF := hF.call9 hq_3 rfl rfl
  refine lv_if_eq (tgt := 21) hx hb dX11_inch_9 rfl (fun c_7 => ?_) (fun c_7 => ?_)
  · have c_7 : r_1.toInt = 0 := xI_eq rfl rfl c_7
    refine ic_m1 hx hb dX11_inch_21 ?_
    exact W.iret (v := (-1)) hx hb hr (fun t ht _ => ⟨⟨(-1), G_2, rfl, (P_Winch_1_mk ⟨hB_G_2, hF, ⟨r_1, G_2, hX_5, (Or.inl ⟨c_7, ⟨rfl, rfl⟩⟩)⟩⟩), wd_t ht hW⟩, hS.F ht⟩) hS.2.2 dX11_inch_22
  · have c_7 : r_1.toInt ≠ 0 := xI_ne rfl rfl c_7
    refine lv_iload_n hx hb dX11_inch_12 rfl (lv_at hl 3 rfl) ?_
    refine lv_if_lt (tgt := 21) hx hb dX11_inch_13 rfl (fun c_8 => ?_) (fun c_8 => ?_)
    · have c_8 : p2.toInt < 0 := xI_lt rfl rfl c_8
      refine ic_m1 hx hb dX11_inch_21 ?_
      exact W.iret (v := (-1)) hx hb hr (fun t ht _ => ⟨⟨(-1), G_2, rfl, (P_Winch_1_mk ⟨hB_G_2, hF, ⟨r_1, G_2, hX_5, (Or.inr ⟨c_7, (Or.inl ⟨c_8, ⟨rfl, rfl⟩⟩)⟩)⟩⟩), wd_t ht hW⟩, hS.F ht⟩) hS.2.2 dX11_inch_22
    · have c_8 : 0 ≤ p2.toInt := xI_nlt rfl rfl c_8
      refine lv_iload_n hx hb dX11_inch_16 rfl (lv_at hl 3 rfl) ?_
      refine ic_4 hx hb dX11_inch_17 ?_
      refine lv_icmp_le (tgt := 23) hx hb dX11_inch_18 rfl (fun c_9 => ?_) (fun c_9 => ?_)
      · have c_9 : p2.toInt ≤ 4 := xI_le rfl rfl c_9
        refine lv_aload_n hx hb dX11_inch_23 rfl (lv_at hl 0 rfl) ?_
        refine S_getV (n := 1) (C := RX11) (T := TX11) (N := 13) hx hb hg iX11 hown hK hW kd_0 rfl 0 (lt_b rfl) (hg (Cond.fieldLink RX11 10 "SlabWalk" "paving" "LSlabWalk$Paving;") m570) (fun _ h9 => h9) rfl (((hq_3.r9 0 0 rfl rfl)).trans (hv_0_0)) dX11_inch_24 ?_
        refine lv_iload_n hx hb dX11_inch_27 rfl (lv_at hl 1 rfl) ?_
        refine lv_iload_n hx hb dX11_inch_28 rfl (lv_at hl 2 rfl) ?_
        refine S_calli (va_runV (As := [.int p0, .int p1]) (rest := []) ⟨hx, hb, hml, hown, hts⟩ (k_inchAt_1 l D k A a z G_2 p0 p1 ) (cwV 2 hts (gd_V hgd m890 m891 m892 m118 m893) rfl rfl rfl hd_X6_inchAt ⟨Nat.le_of_ble_eq_true rfl, Nat.le_of_ble_eq_true rfl⟩) (pre_W hW hB_G_2 hK hZ hS kd_1 rfl) rfl rfl hl.1 rfl (lv_room (Nat.le_of_ble_eq_true rfl)) dX11_inch_29 ⟨Nat.le_of_ble_eq_true rfl, Nat.le_of_ble_eq_true rfl⟩) hS (fun r_10 G_11 H locs hpo hW hS => ?_)
        have hX_14 : P_inchAt_1 p0 p1 G_2 r_10 G_11 := hpo
        obtain ⟨hB_G_11, hq_12, -⟩ := hpo
        have hF := hF.call9 hq_12 rfl rfl
        refine lv_iload_n hx hb dX11_inch_32 rfl (lv_at hl 3 rfl) ?_
        refine S_calli (va_runS (As := [.int r_10, .int p2]) (rest := []) ⟨hx, hb, hml, hown, hts⟩ (k_part l D k A a z G_11 r_10 p2 ) (va_cwS 2 hts (gd_S hgd m895 m896 m118 m897) rfl rfl rfl hd_X6_part.2 ⟨Nat.le_of_ble_eq_true rfl, Nat.le_of_ble_eq_true rfl⟩) (pre_S hW hB_G_11 hK hZ hS) rfl rfl hl.1 rfl (lv_room (Nat.le_of_ble_eq_true rfl)) dX11_inch_33 ⟨Nat.le_of_ble_eq_true rfl, Nat.le_of_ble_eq_true rfl⟩) hS (fun r_15 G_16 H locs hpo hW hS => ?_)
        have hX_19 : P_part r_10 p2 G_11 r_15 G_16 := hpo
        obtain ⟨hB_G_16, hq_17, -⟩ := hpo
        have hF := hF.call9 hq_17 rfl rfl
        exact W.iret (v := r_15) hx hb hr (fun t ht _ => ⟨⟨r_15, G_16, rfl, (P_Winch_1_mk ⟨hB_G_16, hF, ⟨r_1, G_2, hX_5, (Or.inr ⟨c_7, (Or.inr ⟨c_8, (Or.inl ⟨c_9, ⟨r_10, G_11, hX_14, ⟨r_15, G_16, hX_19, ⟨rfl, rfl⟩⟩⟩⟩)⟩)⟩)⟩⟩), wd_t ht hW⟩, hS.F ht⟩) hS.2.2 dX11_inch_36
      · have c_9 : 4 < p2.toInt := xI_nle rfl rfl c_9
        refine ic_m1 hx hb dX11_inch_21 ?_
        exact W.iret (v := (-1)) hx hb hr (fun t ht _ => ⟨⟨(-1), G_2, rfl, (P_Winch_1_mk ⟨hB_G_2, hF, ⟨r_1, G_2, hX_5, (Or.inr ⟨c_7, (Or.inr ⟨c_8, (Or.inr ⟨c_9, ⟨rfl, rfl⟩⟩)⟩)⟩)⟩⟩), wd_t ht hW⟩, hS.F ht⟩) hS.2.2 dX11_inch_22

set_option maxHeartbeats 4000000 in
set_option maxRecDepth 100000 in
theorem k_Wlength_1 (l : Launch) (D : va_G) (k : KT) (A : Nat → Prop) (a : Nat → Nat) (z : SK) (G : GS) (p0 : Int32) (hv_0_0 : G.2.2 0 0 = 1) (hv_0_1 : G.2.2 0 1 = 2) (hv_6_4 : G.2.2 6 4 = 1) : Met l yX11_length (WS yX11_length cX11_length 2 (some .int)) ({ frames := 1, cells := 0, slots := 0, locals := 21 }) (va_Pc [.ref (a 0), .int p0] (cW D k A a z G)) (va_Qi (fun (r : Int32) (G1 : GS) => P_Wlength_1 p0 G r G1) (fun (G1 : GS) t => Wd D k A a G1 t.heap) A) 0 0 A := by
  refine Met.ofW (cc := cX11_length) (maxL := 2) (ret := (some .int)) (by decide) rfl ?_
  intro p e s m args below meth c s₁ B hml hv
  obtain ⟨rfl, hW, hB_G, hK, hZ⟩ := hv
  have hx := B.exec
  have hb := B.bytes
  have hr := B.returns
  have hts := atoms_spec (ws := WS yX11_length cX11_length 2 (some .int)) B.pre
  have hgd : ∀ w ∈ gd, w ∈ WS yX11_length cX11_length 2 (some .int) := fun w h => List.mem_cons_of_mem _ h
  have hg : ∀ w ∈ gd, w.before _ s = true := fun w h => hts w (hgd w h)
  have hown : s.vm.findClass RX11 = some m.cls := findClass_of_methodNamed B.named
  have hS : va_S A s.heap s.heap [] := va_S.rf
  have hF : Fr [] [] G G := Fr.rf
  have hl := lv_entry ([.ref (a 0), .int p0]) (n := 2) (Nat.le_of_ble_eq_true rfl)
  rw [lg_entry_eq]
  generalize (lg_sl ([.ref (a 0), .int p0]) ++ List.replicate (2 - (lg_sl ([.ref (a 0), .int p0])).length) Slot.unset).toArray = ls at hl ⊢
  have hl : lv_has ls 2 [(0, .ref (a 0)), (1, .int p0)] := hl
  refine lv_aload_n hx hb dX11_length_0 rfl (lv_at hl 0 rfl) ?_
  refine S_getV (n := 1) (C := RX11) (T := TX11) (N := 13) hx hb hg iX11 hown hK hW kd_0 rfl 0 (lt_b rfl) (hg (Cond.fieldLink RX11 10 "SlabWalk" "paving" "LSlabWalk$Paving;") m570) (fun _ h9 => h9) rfl hv_0_0 dX11_length_1 ?_
  refine lv_iload_n hx hb dX11_length_4 rfl (lv_at hl 1 rfl) ?_
  refine S_calli (va_runV (As := [.int p0]) (rest := []) ⟨hx, hb, hml, hown, hts⟩ (k_hasStreet_1 l D k A a z G p0 ) (cwV 1 hts (gd_V hgd m902 m887 m888 m118 m889) rfl rfl rfl hd_X6_hasStreet ⟨Nat.le_of_ble_eq_true rfl, Nat.le_of_ble_eq_true rfl⟩) (pre_W hW hB_G hK hZ hS kd_1 rfl) rfl rfl hl.1 rfl (lv_room (Nat.le_of_ble_eq_true rfl)) dX11_length_5 ⟨Nat.le_of_ble_eq_true rfl, Nat.le_of_ble_eq_true rfl⟩) hS (fun r_1 G_2 H locs hpo hW hS => ?_)
  have hX_5 : P_hasStreet_1 p0 G r_1 G_2 := hpo
  obtain ⟨hB_G_2, hq_3, f_6, hp_4, -⟩ := hpo
  have hF := hF.call9 hq_3 rfl rfl
  refine lv_if_eq (tgt := 23) hx hb dX11_length_8 rfl (fun c_7 => ?_) (fun c_7 => ?_)
  · have c_7 : r_1.toInt = 0 := xI_eq rfl rfl c_7
    refine ic_m1 hx hb dX11_length_23 ?_
    exact W.iret (v := (-1)) hx hb hr (fun t ht _ => ⟨⟨(-1), G_2, rfl, (P_Wlength_1_mk ⟨hB_G_2, hF, ⟨r_1, G_2, hX_5, (Or.inl ⟨c_7, ⟨rfl, rfl⟩⟩)⟩⟩), wd_t ht hW⟩, hS.F ht⟩) hS.2.2 dX11_length_24
  · have c_7 : r_1.toInt ≠ 0 := xI_ne rfl rfl c_7
    refine lv_aload_n hx hb dX11_length_11 rfl (lv_at hl 0 rfl) ?_
    refine S_getV (n := 1) (C := RX11) (T := TX11) (N := 13) hx hb hg iX11 hown hK hW kd_0 rfl 0 (lt_b rfl) (hg (Cond.fieldLink RX11 10 "SlabWalk" "paving" "LSlabWalk$Paving;") m570) (fun _ h9 => h9) rfl (((hq_3.r9 0 0 rfl rfl)).trans (hv_0_0)) dX11_length_12 ?_
    refine S_getR (n := 10) (C := RX6) (T := TX6) (N := 17) hx hb hg iX6 hown hK hW kd_1 rfl 0 (lt_b rfl) (hg (Cond.fieldLink RX11 125 "SlabWalk$Paving" "length" "[I") m159) (fun _ h9 => h9) rfl dX11_length_15 ?_
    refine lv_iload_n hx hb dX11_length_18 rfl (lv_at hl 1 rfl) ?_
    refine S_iald hx hb hK hW kd_10 (vin (by omega) (by omega)) dX11_length_19 (fun y_8 ey_8 => ?_)
    have ty_8 : 0 ≤ y_8.toInt ∧ y_8.toInt ≤ 400 := bv_10 hB_G_2 ey_8
    refine lv_goto (tgt := 24) hx hb dX11_length_20 rfl ?_
    exact W.iret (v := y_8) hx hb hr (fun t ht _ => ⟨⟨y_8, G_2, rfl, (P_Wlength_1_mk ⟨hB_G_2, hF, ⟨r_1, G_2, hX_5, (Or.inr ⟨c_7, ⟨y_8, ey_8, ⟨rfl, rfl⟩⟩⟩)⟩⟩), wd_t ht hW⟩, hS.F ht⟩) hS.2.2 dX11_length_24

set_option maxHeartbeats 4000000 in
set_option maxRecDepth 100000 in
theorem k_Wline_1 (l : Launch) (D : va_G) (k : KT) (A : Nat → Prop) (a : Nat → Nat) (z : SK) (G : GS) (p0 : Int32) (p1 : Int32) (p2 : Int32) (hv_0_0 : G.2.2 0 0 = 1) (hv_0_1 : G.2.2 0 1 = 2) (hv_6_4 : G.2.2 6 4 = 1) : Met l yX11_line (WS yX11_line cX11_line 4 (some .int)) ({ frames := 4, cells := 0, slots := 0, locals := 96 }) (va_Pc [.ref (a 0), .int p0, .int p1, .int p2] (cW D k A a z G)) (va_Qi (fun (r : Int32) (G1 : GS) => P_Wline_1 p0 p1 p2 G r G1) (fun (G1 : GS) t => Wd D k A a G1 t.heap) A) 0 0 A := by
  refine Met.ofW (cc := cX11_line) (maxL := 4) (ret := (some .int)) (by decide) rfl ?_
  intro p e s m args below meth c s₁ B hml hv
  obtain ⟨rfl, hW, hB_G, hK, hZ⟩ := hv
  have hx := B.exec
  have hb := B.bytes
  have hr := B.returns
  have hts := atoms_spec (ws := WS yX11_line cX11_line 4 (some .int)) B.pre
  have hgd : ∀ w ∈ gd, w ∈ WS yX11_line cX11_line 4 (some .int) := fun w h => List.mem_cons_of_mem _ h
  have hg : ∀ w ∈ gd, w.before _ s = true := fun w h => hts w (hgd w h)
  have hown : s.vm.findClass RX11 = some m.cls := findClass_of_methodNamed B.named
  have hS : va_S A s.heap s.heap [] := va_S.rf
  have hF : Fr [37, 38, 39] [(6, 3)] G G := Fr.rf
  have hl := lv_entry ([.ref (a 0), .int p0, .int p1, .int p2]) (n := 4) (Nat.le_of_ble_eq_true rfl)
  rw [lg_entry_eq]
  generalize (lg_sl ([.ref (a 0), .int p0, .int p1, .int p2]) ++ List.replicate (4 - (lg_sl ([.ref (a 0), .int p0, .int p1, .int p2])).length) Slot.unset).toArray = ls at hl ⊢
  have hl : lv_has ls 4 [(0, .ref (a 0)), (1, .int p0), (2, .int p1), (3, .int p2)] := hl
  refine lv_aload_n hx hb dX11_line_0 rfl (lv_at hl 0 rfl) ?_
  refine S_getV (n := 1) (C := RX11) (T := TX11) (N := 13) hx hb hg iX11 hown hK hW kd_0 rfl 0 (lt_b rfl) (hg (Cond.fieldLink RX11 10 "SlabWalk" "paving" "LSlabWalk$Paving;") m570) (fun _ h9 => h9) rfl hv_0_0 dX11_line_1 ?_
  refine lv_iload_n hx hb dX11_line_4 rfl (lv_at hl 1 rfl) ?_
  refine lv_iload_n hx hb dX11_line_5 rfl (lv_at hl 3 rfl) ?_
  refine S_calli (va_runV (As := [.int p0, .int p2]) (rest := []) ⟨hx, hb, hml, hown, hts⟩ (k_hasInch_1 l D k A a z G p0 p2 ) (cwV 2 hts (gd_V hgd m882 m883 m884 m118 m885) rfl rfl rfl hd_X6_hasInch ⟨Nat.le_of_ble_eq_true rfl, Nat.le_of_ble_eq_true rfl⟩) (pre_W hW hB_G hK hZ hS kd_1 rfl) rfl rfl hl.1 rfl (lv_room (Nat.le_of_ble_eq_true rfl)) dX11_line_6 ⟨Nat.le_of_ble_eq_true rfl, Nat.le_of_ble_eq_true rfl⟩) hS (fun r_1 G_2 H locs hpo hW hS => ?_)
  have hX_5 : P_hasInch_1 p0 p2 G r_1 G_2 := hpo
  obtain ⟨hB_G_2, hq_3, f_6, hp_4, -⟩ := hpo
  have hF := hF.call9 hq_3 rfl rfl
  refine lv_if_eq (tgt := 23) hx hb dX11_line_9 rfl (fun c_7 => ?_) (fun c_7 => ?_)
  · have c_7 : r_1.toInt = 0 := xI_eq rfl rfl c_7
    refine ic_m1 hx hb dX11_line_23 ?_
    exact W.iret (v := (-1)) hx hb hr (fun t ht _ => ⟨⟨(-1), G_2, rfl, (P_Wline_1_mk ⟨hB_G_2, hF, ⟨r_1, G_2, hX_5, (Or.inl ⟨c_7, ⟨rfl, rfl⟩⟩)⟩⟩), wd_t ht hW⟩, hS.F ht⟩) hS.2.2 dX11_line_24
  · have c_7 : r_1.toInt ≠ 0 := xI_ne rfl rfl c_7
    refine lv_aload_n hx hb dX11_line_12 rfl (lv_at hl 0 rfl) ?_
    refine S_getV (n := 1) (C := RX11) (T := TX11) (N := 13) hx hb hg iX11 hown hK hW kd_0 rfl 0 (lt_b rfl) (hg (Cond.fieldLink RX11 10 "SlabWalk" "paving" "LSlabWalk$Paving;") m570) (fun _ h9 => h9) rfl (((hq_3.r9 0 0 rfl rfl)).trans (hv_0_0)) dX11_line_13 ?_
    refine lv_iload_n hx hb dX11_line_16 rfl (lv_at hl 2 rfl) ?_
    refine S_calli (va_runV (As := [.int p1]) (rest := []) ⟨hx, hb, hml, hown, hts⟩ (k_hasSet_1 l D k A a z G_2 p1 ) (cwV 1 hts (gd_V hgd m907 m908 m909 m118 m910) rfl rfl rfl hd_X6_hasSet ⟨Nat.le_of_ble_eq_true rfl, Nat.le_of_ble_eq_true rfl⟩) (pre_W hW hB_G_2 hK hZ hS kd_1 rfl) rfl rfl hl.1 rfl (lv_room (Nat.le_of_ble_eq_true rfl)) dX11_line_17 ⟨Nat.le_of_ble_eq_true rfl, Nat.le_of_ble_eq_true rfl⟩) hS (fun r_8 G_9 H locs hpo hW hS => ?_)
    have hX_12 : P_hasSet_1 p1 G_2 r_8 G_9 := hpo
    obtain ⟨hB_G_9, hq_10, f_13, hp_11, -⟩ := hpo
    have hF := hF.call9 hq_10 rfl rfl
    refine lv_if_ne (tgt := 25) hx hb dX11_line_20 rfl (fun c_14 => ?_) (fun c_14 => ?_)
    · have c_14 : r_8.toInt ≠ 0 := xI_ne rfl rfl c_14
      refine lv_aload_n hx hb dX11_line_25 rfl (lv_at hl 0 rfl) ?_
      refine S_getR (n := 6) (C := RX11) (T := TX11) (N := 13) hx hb hg iX11 hown hK hW kd_0 rfl 4 (lt_b rfl) (hg (Cond.fieldLink RX11 37 "SlabWalk" "lines" "LSlabWalk$Lines;") m574) (fun _ h9 => h9) rfl dX11_line_26 ?_
      refine lv_iload_n hx hb dX11_line_29 rfl (lv_at hl 1 rfl) ?_
      refine lv_aload_n hx hb dX11_line_30 rfl (lv_at hl 0 rfl) ?_
      refine S_calli (va_runV (As := []) (rest := [.int p0, .ref (a 6)]) ⟨hx, hb, hml, hown, hts⟩ (k_wToday l D k A a z G_9  ) (cwV 0 hts (gd_V hgd m911 m913 m27 m117 m914) rfl rfl rfl hd_X11_today ⟨Nat.le_of_ble_eq_true rfl, Nat.le_of_ble_eq_true rfl⟩) (pre_W hW hB_G_9 hK hZ hS kd_0 rfl) rfl rfl hl.1 rfl (lv_room (Nat.le_of_ble_eq_true rfl)) dX11_line_31 ⟨Nat.le_of_ble_eq_true rfl, Nat.le_of_ble_eq_true rfl⟩) hS (fun r_15 G_16 H locs hpo hW hS => ?_)
      have hX_19 : P_wToday G_9 r_15 G_16 := hpo
      obtain ⟨hB_G_16, hq_17, -⟩ := hpo
      have hF := hF.call9 hq_17 rfl rfl
      refine S_callv (va_runV (As := [.int p0, .int r_15]) (rest := []) ⟨hx, hb, hml, hown, hts⟩ (k_lFind_1 l D k A a z G_16 p0 r_15 ((((hq_17.r9 6 4 rfl rfl).trans ((hq_10.r9 6 4 rfl rfl).trans (hq_3.r9 6 4 rfl rfl)))).trans (hv_6_4))) (cwV 2 hts (gd_V hgd m915 m916 m917 m122 m918) rfl rfl rfl hd_X3_findFor ⟨Nat.le_of_ble_eq_true rfl, Nat.le_of_ble_eq_true rfl⟩) (pre_W hW hB_G_16 hK hZ hS kd_6 rfl) rfl rfl hl.1 rfl (lv_room (Nat.le_of_ble_eq_true rfl)) dX11_line_34 ⟨Nat.le_of_ble_eq_true rfl, Nat.le_of_ble_eq_true rfl⟩) hS (fun G_21 H locs hpo hW hS => ?_)
      have hX_24 : P_lFind_1 p0 r_15 G_16 G_21 := hpo
      obtain ⟨hB_G_21, hq_22, -⟩ := hpo
      have hF := hF.call9 hq_22 rfl rfl
      refine lv_aload_n hx hb dX11_line_37 rfl (lv_at hl 0 rfl) ?_
      refine S_getR (n := 6) (C := RX11) (T := TX11) (N := 13) hx hb hg iX11 hown hK hW kd_0 rfl 4 (lt_b rfl) (hg (Cond.fieldLink RX11 37 "SlabWalk" "lines" "LSlabWalk$Lines;") m574) (fun _ h9 => h9) rfl dX11_line_38 ?_
      refine lv_iload_n hx hb dX11_line_41 rfl (lv_at hl 1 rfl) ?_
      refine lv_iload_n hx hb dX11_line_42 rfl (lv_at hl 2 rfl) ?_
      refine lv_iload_n hx hb dX11_line_43 rfl (lv_at hl 3 rfl) ?_
      refine S_calli (va_runV (As := [.int p0, .int p1, .int p2]) (rest := []) ⟨hx, hb, hml, hown, hts⟩ (k_lIsLine_1 l D k A a z G_21 p0 p1 p2 ((((hq_22.r9 6 4 rfl rfl).trans ((hq_17.r9 6 4 rfl rfl).trans ((hq_10.r9 6 4 rfl rfl).trans (hq_3.r9 6 4 rfl rfl))))).trans (hv_6_4))) (cwV 3 hts (gd_V hgd m940 m941 m942 m122 m943) rfl rfl rfl hd_X3_isLine ⟨Nat.le_of_ble_eq_true rfl, Nat.le_of_ble_eq_true rfl⟩) (pre_W hW hB_G_21 hK hZ hS kd_6 rfl) rfl rfl hl.1 rfl (lv_room (Nat.le_of_ble_eq_true rfl)) dX11_line_44 ⟨Nat.le_of_ble_eq_true rfl, Nat.le_of_ble_eq_true rfl⟩) hS (fun r_25 G_26 H locs hpo hW hS => ?_)
      have hX_29 : P_lIsLine_1 p0 p1 p2 G_21 r_25 G_26 := hpo
      obtain ⟨hB_G_26, hq_27, f_30, -⟩ := hpo
      have hF := hF.call9 hq_27 rfl rfl
      refine lv_if_eq (tgt := 54) hx hb dX11_line_47 rfl (fun c_31 => ?_) (fun c_31 => ?_)
      · have c_31 : r_25.toInt = 0 := xI_eq rfl rfl c_31
        refine ic_0 hx hb dX11_line_54 ?_
        exact W.iret (v := 0) hx hb hr (fun t ht _ => ⟨⟨0, G_26, rfl, (P_Wline_1_mk ⟨hB_G_26, hF, ⟨r_1, G_2, hX_5, (Or.inr ⟨c_7, ⟨r_8, G_9, hX_12, (Or.inr ⟨c_14, ⟨r_15, G_16, hX_19, ⟨G_21, hX_24, ⟨r_25, G_26, hX_29, (Or.inl ⟨c_31, ⟨rfl, rfl⟩⟩)⟩⟩⟩⟩)⟩⟩)⟩⟩), wd_t ht hW⟩, hS.F ht⟩) hS.2.2 dX11_line_55
      · have c_31 : r_25.toInt ≠ 0 := xI_ne rfl rfl c_31
        refine ic_1 hx hb dX11_line_50 ?_
        refine lv_goto (tgt := 55) hx hb dX11_line_51 rfl ?_
        exact W.iret (v := 1) hx hb hr (fun t ht _ => ⟨⟨1, G_26, rfl, (P_Wline_1_mk ⟨hB_G_26, hF, ⟨r_1, G_2, hX_5, (Or.inr ⟨c_7, ⟨r_8, G_9, hX_12, (Or.inr ⟨c_14, ⟨r_15, G_16, hX_19, ⟨G_21, hX_24, ⟨r_25, G_26, hX_29, (Or.inr ⟨c_31, ⟨rfl, rfl⟩⟩)⟩⟩⟩⟩)⟩⟩)⟩⟩), wd_t ht hW⟩, hS.F ht⟩) hS.2.2 dX11_line_55
    · have c_14 : r_8.toInt = 0 := xI_eq rfl rfl c_14
      refine ic_m1 hx hb dX11_line_23 ?_
      exact W.iret (v := (-1)) hx hb hr (fun t ht _ => ⟨⟨(-1), G_9, rfl, (P_Wline_1_mk ⟨hB_G_9, hF, ⟨r_1, G_2, hX_5, (Or.inr ⟨c_7, ⟨r_8, G_9, hX_12, (Or.inl ⟨c_14, ⟨rfl, rfl⟩⟩)⟩⟩)⟩⟩), wd_t ht hW⟩, hS.F ht⟩) hS.2.2 dX11_line_24

set_option maxHeartbeats 4000000 in
set_option maxRecDepth 100000 in
theorem k_Wgap_1 (l : Launch) (D : va_G) (k : KT) (A : Nat → Prop) (a : Nat → Nat) (z : SK) (G : GS) (p0 : Int32) (p1 : Int32) (p2 : Int32) (hv_0_0 : G.2.2 0 0 = 1) (hv_0_1 : G.2.2 0 1 = 2) (hv_6_4 : G.2.2 6 4 = 1) : Met l yX11_gap (WS yX11_gap cX11_gap 10 (some .int)) ({ frames := 4, cells := 0, slots := 0, locals := 96 }) (va_Pc [.ref (a 0), .int p0, .int p1, .int p2] (cW D k A a z G)) (va_Qi (fun (r : Int32) (G1 : GS) => P_Wgap_1 p0 p1 p2 G r G1) (fun (G1 : GS) t => Wd D k A a G1 t.heap) A) 0 0 A := by
  refine Met.ofW (cc := cX11_gap) (maxL := 10) (ret := (some .int)) (by decide) rfl ?_
  intro p e s m args below meth c s₁ B hml hv
  obtain ⟨rfl, hW, hB_G, hK, hZ⟩ := hv
  have hx := B.exec
  have hb := B.bytes
  have hr := B.returns
  have hts := atoms_spec (ws := WS yX11_gap cX11_gap 10 (some .int)) B.pre
  have hgd : ∀ w ∈ gd, w ∈ WS yX11_gap cX11_gap 10 (some .int) := fun w h => List.mem_cons_of_mem _ h
  have hg : ∀ w ∈ gd, w.before _ s = true := fun w h => hts w (hgd w h)
  have hown : s.vm.findClass RX11 = some m.cls := findClass_of_methodNamed B.named
  have hS : va_S A s.heap s.heap [] := va_S.rf
  have hF : Fr [37, 38, 39] [(6, 3)] G G := Fr.rf
  have hl := lv_entry ([.ref (a 0), .int p0, .int p1, .int p2]) (n := 10) (Nat.le_of_ble_eq_true rfl)
  rw [lg_entry_eq]
  generalize (lg_sl ([.ref (a 0), .int p0, .int p1, .int p2]) ++ List.replicate (10 - (lg_sl ([.ref (a 0), .int p0, .int p1, .int p2])).length) Slot.unset).toArray = ls at hl ⊢
  have hl : lv_has ls 10 [(0, .ref (a 0)), (1, .int p0), (2, .int p1), (3, .int p2)] := hl
  refine lv_aload_n hx hb dX11_gap_0 rfl (lv_at hl 0 rfl) ?_
  refine S_getV (n := 1) (C := RX11) (T := TX11) (N := 13) hx hb hg iX11 hown hK hW kd_0 rfl 0 (lt_b rfl) (hg (Cond.fieldLink RX11 10 "SlabWalk" "paving" "LSlabWalk$Paving;") m570) (fun _ h9 => h9) rfl hv_0_0 dX11_gap_1 ?_
  refine lv_iload_n hx hb dX11_gap_4 rfl (lv_at hl 1 rfl) ?_
  refine S_calli (va_runV (As := [.int p0]) (rest := []) ⟨hx, hb, hml, hown, hts⟩ (k_hasStreet_1 l D k A a z G p0 ) (cwV 1 hts (gd_V hgd m902 m887 m888 m118 m889) rfl rfl rfl hd_X6_hasStreet ⟨Nat.le_of_ble_eq_true rfl, Nat.le_of_ble_eq_true rfl⟩) (pre_W hW hB_G hK hZ hS kd_1 rfl) rfl rfl hl.1 rfl (lv_room (Nat.le_of_ble_eq_true rfl)) dX11_gap_5 ⟨Nat.le_of_ble_eq_true rfl, Nat.le_of_ble_eq_true rfl⟩) hS (fun r_1 G_2 H locs hpo hW hS => ?_)
  have hX_5 : P_hasStreet_1 p0 G r_1 G_2 := hpo
  obtain ⟨hB_G_2, hq_3, f_6, hp_4, -⟩ := hpo
  have hF := hF.call9 hq_3 rfl rfl
  refine lv_if_eq (tgt := 22) hx hb dX11_gap_8 rfl (fun c_7 => ?_) (fun c_7 => ?_)
  · have c_7 : r_1.toInt = 0 := xI_eq rfl rfl c_7
    refine ic_m1 hx hb dX11_gap_22 ?_
    exact W.iret (v := (-1)) hx hb hr (fun t ht _ => ⟨⟨(-1), G_2, rfl, (P_Wgap_1_mk ⟨hB_G_2, hF, ⟨r_1, G_2, hX_5, (Or.inl ⟨c_7, ⟨rfl, rfl⟩⟩)⟩⟩), wd_t ht hW⟩, hS.F ht⟩) hS.2.2 dX11_gap_23
  · have c_7 : r_1.toInt ≠ 0 := xI_ne rfl rfl c_7
    refine lv_aload_n hx hb dX11_gap_11 rfl (lv_at hl 0 rfl) ?_
    refine S_getV (n := 1) (C := RX11) (T := TX11) (N := 13) hx hb hg iX11 hown hK hW kd_0 rfl 0 (lt_b rfl) (hg (Cond.fieldLink RX11 10 "SlabWalk" "paving" "LSlabWalk$Paving;") m570) (fun _ h9 => h9) rfl (((hq_3.r9 0 0 rfl rfl)).trans (hv_0_0)) dX11_gap_12 ?_
    refine lv_iload_n hx hb dX11_gap_15 rfl (lv_at hl 2 rfl) ?_
    refine S_calli (va_runV (As := [.int p1]) (rest := []) ⟨hx, hb, hml, hown, hts⟩ (k_hasSet_1 l D k A a z G_2 p1 ) (cwV 1 hts (gd_V hgd m907 m908 m909 m118 m910) rfl rfl rfl hd_X6_hasSet ⟨Nat.le_of_ble_eq_true rfl, Nat.le_of_ble_eq_true rfl⟩) (pre_W hW hB_G_2 hK hZ hS kd_1 rfl) rfl rfl hl.1 rfl (lv_room (Nat.le_of_ble_eq_true rfl)) dX11_gap_16 ⟨Nat.le_of_ble_eq_true rfl, Nat.le_of_ble_eq_true rfl⟩) hS (fun r_8 G_9 H locs hpo hW hS => ?_)
    have hX_12 : P_hasSet_1 p1 G_2 r_8 G_9 := hpo
    obtain ⟨hB_G_9, hq_10, f_13, hp_11, -⟩ := hpo
    have hF := hF.call9 hq_10 rfl rfl
    refine lv_if_ne (tgt := 24) hx hb dX11_gap_19 rfl (fun c_14 => ?_) (fun c_14 => ?_)
    · have c_14 : r_8.toInt ≠ 0 := xI_ne rfl rfl c_14
      refine lv_aload_n hx hb dX11_gap_24 rfl (lv_at hl 0 rfl) ?_
      refine S_getR (n := 6) (C := RX11) (T := TX11) (N := 13) hx hb hg iX11 hown hK hW kd_0 rfl 4 (lt_b rfl) (hg (Cond.fieldLink RX11 37 "SlabWalk" "lines" "LSlabWalk$Lines;") m574) (fun _ h9 => h9) rfl dX11_gap_25 ?_
      refine lv_iload_n hx hb dX11_gap_28 rfl (lv_at hl 1 rfl) ?_
      refine lv_aload_n hx hb dX11_gap_29 rfl (lv_at hl 0 rfl) ?_
      refine S_calli (va_runV (As := []) (rest := [.int p0, .ref (a 6)]) ⟨hx, hb, hml, hown, hts⟩ (k_wToday l D k A a z G_9  ) (cwV 0 hts (gd_V hgd m911 m913 m27 m117 m914) rfl rfl rfl hd_X11_today ⟨Nat.le_of_ble_eq_true rfl, Nat.le_of_ble_eq_true rfl⟩) (pre_W hW hB_G_9 hK hZ hS kd_0 rfl) rfl rfl hl.1 rfl (lv_room (Nat.le_of_ble_eq_true rfl)) dX11_gap_30 ⟨Nat.le_of_ble_eq_true rfl, Nat.le_of_ble_eq_true rfl⟩) hS (fun r_15 G_16 H locs hpo hW hS => ?_)
      have hX_19 : P_wToday G_9 r_15 G_16 := hpo
      obtain ⟨hB_G_16, hq_17, -⟩ := hpo
      have hF := hF.call9 hq_17 rfl rfl
      refine S_callv (va_runV (As := [.int p0, .int r_15]) (rest := []) ⟨hx, hb, hml, hown, hts⟩ (k_lFind_1 l D k A a z G_16 p0 r_15 ((((hq_17.r9 6 4 rfl rfl).trans ((hq_10.r9 6 4 rfl rfl).trans (hq_3.r9 6 4 rfl rfl)))).trans (hv_6_4))) (cwV 2 hts (gd_V hgd m915 m916 m917 m122 m918) rfl rfl rfl hd_X3_findFor ⟨Nat.le_of_ble_eq_true rfl, Nat.le_of_ble_eq_true rfl⟩) (pre_W hW hB_G_16 hK hZ hS kd_6 rfl) rfl rfl hl.1 rfl (lv_room (Nat.le_of_ble_eq_true rfl)) dX11_gap_33 ⟨Nat.le_of_ble_eq_true rfl, Nat.le_of_ble_eq_true rfl⟩) hS (fun G_21 H locs hpo hW hS => ?_)
      have hX_24 : P_lFind_1 p0 r_15 G_16 G_21 := hpo
      obtain ⟨hB_G_21, hq_22, -⟩ := hpo
      have hF := hF.call9 hq_22 rfl rfl
      refine ic_0 hx hb dX11_gap_36 ?_
      refine lv_istore (lv' := [(4, .int 0), (0, .ref (a 0)), (1, .int p0), (2, .int p1), (3, .int p2)]) hx hb dX11_gap_37 hl (lt_b rfl) rfl (fun ls hl => ?_)
      refine ic_m1 hx hb dX11_gap_39 ?_
      refine lv_istore (lv' := [(5, .int (-1)), (4, .int 0), (0, .ref (a 0)), (1, .int p0), (2, .int p1), (3, .int p2)]) hx hb dX11_gap_40 hl (lt_b rfl) rfl (fun ls hl => ?_)
      refine ic_0 hx hb dX11_gap_42 ?_
      refine lv_istore (lv' := [(6, .int 0), (5, .int (-1)), (4, .int 0), (0, .ref (a 0)), (1, .int p0), (2, .int p1), (3, .int p2)]) hx hb dX11_gap_43 hl (lt_b rfl) rfl (fun ls hl => ?_)
      refine ic_0 hx hb dX11_gap_45 ?_
      refine lv_istore (lv' := [(7, .int 0), (6, .int 0), (5, .int (-1)), (4, .int 0), (0, .ref (a 0)), (1, .int p0), (2, .int p1), (3, .int p2)]) hx hb dX11_gap_46 hl (lt_b rfl) rfl (fun ls hl => ?_)
      refine ic_0 hx hb dX11_gap_48 ?_
      refine lv_istore (lv' := [(8, .int 0), (7, .int 0), (6, .int 0), (5, .int (-1)), (4, .int 0), (0, .ref (a 0)), (1, .int p0), (2, .int p1), (3, .int p2)]) hx hb dX11_gap_49 hl (lt_b rfl) rfl (fun ls hl => ?_)
      have qc_35 : ((-1) : Int32).toInt = (-1) := rfl
      have qc_36 : (0 : Int32).toInt = 0 := rfl
      refine loop_N (Inv := fun n H locs ls => ∃ (G_25 : GS) (x_29 : Int32) (x_30 : Int32) (x_31 : Int32) (x_32 : Int32) (x_33 : Int32), (n : Int) = 400 - x_29.toInt ∧ (0 ≤ x_29.toInt ∧ x_29.toInt ≤ 400) ∧ (x_32.toInt ≤ 400) ∧ (0 ≤ x_33.toInt) ∧ Rc (St_k_Wgap_1_1 p0 p1) (0, 0, 0, (-1), 0, G_21) (x_29, x_30, x_31, x_32, x_33, G_25) ∧ Wd D k A a G_25 H ∧ Bd G_25 ∧ Fr [37, 38, 39] [(6, 3)] G G_25 ∧ Fr [] [] G_21 G_25 ∧ va_S A s.heap H locs ∧ lv_has ls 10 [(8, .int x_29), (7, .int x_30), (6, .int x_31), (5, .int x_32), (4, .int x_33), (0, .ref (a 0)), (1, .int p0), (2, .int p1), (3, .int p2)]) (fun n_28 H locs ls ih_27 hI => ?_) (400 - 0 : Int).toNat ⟨G_21, 0, 0, 0, (-1), 0, (Int.toNat_of_nonneg ((by first | (clear f_6 hp_4 c_7 f_13 hp_11 c_14; omega) | omega))), ⟨(by first | (clear f_6 hp_4 c_7 f_13 hp_11 c_14; omega) | omega), (by first | (clear f_6 hp_4 c_7 f_13 hp_11 c_14; omega) | omega)⟩, ((by first | (clear f_6 hp_4 c_7 f_13 hp_11 c_14; omega) | omega)), ((by first | (clear f_6 hp_4 c_7 f_13 hp_11 c_14; omega) | omega)), Rc.rf, hW, hB_G_21, hF, Fr.rf, hS, lv_sub hl [0, 1, 2, 3, 4, 5, 6, 7, 8] rfl⟩
      obtain ⟨G_25, x_29, x_30, x_31, x_32, x_33, hn_40, f_37, f_38, f_39, hX_34, hW, hB_G_25, hF, hq_26, hS, hl⟩ := hI
      refine lv_iload hx hb dX11_gap_51 (lv_at hl 0 rfl) ?_
      refine lv_aload_n hx hb dX11_gap_53 rfl (lv_at hl 5 rfl) ?_
      refine S_getV (n := 1) (C := RX11) (T := TX11) (N := 13) hx hb hg iX11 hown hK hW kd_0 rfl 0 (lt_b rfl) (hg (Cond.fieldLink RX11 10 "SlabWalk" "paving" "LSlabWalk$Paving;") m570) (fun _ h9 => h9) rfl ((((hq_26.r9 0 0 rfl rfl).trans ((hq_22.r9 0 0 rfl rfl).trans ((hq_17.r9 0 0 rfl rfl).trans ((hq_10.r9 0 0 rfl rfl).trans (hq_3.r9 0 0 rfl rfl)))))).trans (hv_0_0)) dX11_gap_54 ?_
      refine S_getR (n := 10) (C := RX6) (T := TX6) (N := 17) hx hb hg iX6 hown hK hW kd_1 rfl 0 (lt_b rfl) (hg (Cond.fieldLink RX11 125 "SlabWalk$Paving" "length" "[I") m159) (fun _ h9 => h9) rfl dX11_gap_57 ?_
      refine lv_iload_n hx hb dX11_gap_60 rfl (lv_at hl 6 rfl) ?_
      refine S_iald hx hb hK hW kd_10 (vin ((by first | (clear f_13 hp_11 c_14 hn_40 f_37 f_38 f_39; omega) | omega)) ((by first | (clear f_13 hp_11 c_14 hn_40 f_37 f_38 f_39; omega) | omega))) dX11_gap_61 (fun y_41 ey_41 => ?_)
      have ty_41 : 0 ≤ y_41.toInt ∧ y_41.toInt ≤ 400 := bv_10 hB_G_25 ey_41
      refine lv_icmp_ge (tgt := 134) hx hb dX11_gap_62 rfl (fun c_42 => ?_) (fun c_42 => ?_)
      · have c_42 : y_41.toInt ≤ x_29.toInt := xI_le rfl rfl c_42
        refine lv_iload_n hx hb dX11_gap_134 rfl (lv_at hl 8 rfl) ?_
        refine lv_if_ne (tgt := 143) hx hb dX11_gap_135 rfl (fun c_43 => ?_) (fun c_43 => ?_)
        · have c_43 : p2.toInt ≠ 0 := xI_ne rfl rfl c_43
          refine lv_iload_n hx hb dX11_gap_143 rfl (lv_at hl 8 rfl) ?_
          refine ic_1 hx hb dX11_gap_144 ?_
          refine lv_icmp_ne (tgt := 153) hx hb dX11_gap_145 rfl (fun c_44 => ?_) (fun c_44 => ?_)
          · have c_44 : p2.toInt ≠ 1 := xI_ne rfl rfl c_44
            refine lv_iload_n hx hb dX11_gap_153 rfl (lv_at hl 8 rfl) ?_
            refine ic_2 hx hb dX11_gap_154 ?_
            refine lv_icmp_ne (tgt := 163) hx hb dX11_gap_155 rfl (fun c_45 => ?_) (fun c_45 => ?_)
            · have c_45 : p2.toInt ≠ 2 := xI_ne rfl rfl c_45
              refine ic_m1 hx hb dX11_gap_163 ?_
              exact W.iret (v := (-1)) hx hb hr (fun t ht _ => ⟨⟨(-1), G_25, rfl, (P_Wgap_1_mk ⟨hB_G_25, hF, ⟨r_1, G_2, hX_5, (Or.inr ⟨c_7, ⟨r_8, G_9, hX_12, (Or.inr ⟨c_14, ⟨r_15, G_16, hX_19, ⟨G_21, hX_24, ⟨x_29, x_30, x_31, x_32, x_33, G_25, hX_34, f_37, f_38, f_39, hB_G_25, hq_26, ⟨y_41, ey_41, ⟨c_42, (Or.inr ⟨c_43, (Or.inr ⟨c_44, (Or.inr ⟨c_45, ⟨rfl, rfl⟩⟩)⟩)⟩)⟩⟩⟩⟩⟩⟩)⟩⟩)⟩⟩), wd_t ht hW⟩, hS.F ht⟩) hS.2.2 dX11_gap_164
            · have c_45 : p2.toInt = 2 := xI_eq rfl rfl c_45
              refine lv_iload hx hb dX11_gap_158 (lv_at hl 2 rfl) ?_
              refine lv_goto (tgt := 164) hx hb dX11_gap_160 rfl ?_
              exact W.iret (v := x_31) hx hb hr (fun t ht _ => ⟨⟨x_31, G_25, rfl, (P_Wgap_1_mk ⟨hB_G_25, hF, ⟨r_1, G_2, hX_5, (Or.inr ⟨c_7, ⟨r_8, G_9, hX_12, (Or.inr ⟨c_14, ⟨r_15, G_16, hX_19, ⟨G_21, hX_24, ⟨x_29, x_30, x_31, x_32, x_33, G_25, hX_34, f_37, f_38, f_39, hB_G_25, hq_26, ⟨y_41, ey_41, ⟨c_42, (Or.inr ⟨c_43, (Or.inr ⟨c_44, (Or.inl ⟨c_45, ⟨rfl, rfl⟩⟩)⟩)⟩)⟩⟩⟩⟩⟩⟩)⟩⟩)⟩⟩), wd_t ht hW⟩, hS.F ht⟩) hS.2.2 dX11_gap_164
          · have c_44 : p2.toInt = 1 := xI_eq rfl rfl c_44
            refine lv_iload hx hb dX11_gap_148 (lv_at hl 3 rfl) ?_
            refine lv_goto (tgt := 164) hx hb dX11_gap_150 rfl ?_
            exact W.iret (v := x_32) hx hb hr (fun t ht _ => ⟨⟨x_32, G_25, rfl, (P_Wgap_1_mk ⟨hB_G_25, hF, ⟨r_1, G_2, hX_5, (Or.inr ⟨c_7, ⟨r_8, G_9, hX_12, (Or.inr ⟨c_14, ⟨r_15, G_16, hX_19, ⟨G_21, hX_24, ⟨x_29, x_30, x_31, x_32, x_33, G_25, hX_34, f_37, f_38, f_39, hB_G_25, hq_26, ⟨y_41, ey_41, ⟨c_42, (Or.inr ⟨c_43, (Or.inl ⟨c_44, ⟨rfl, rfl⟩⟩)⟩)⟩⟩⟩⟩⟩⟩)⟩⟩)⟩⟩), wd_t ht hW⟩, hS.F ht⟩) hS.2.2 dX11_gap_164
        · have c_43 : p2.toInt = 0 := xI_eq rfl rfl c_43
          refine lv_iload hx hb dX11_gap_138 (lv_at hl 4 rfl) ?_
          refine lv_goto (tgt := 164) hx hb dX11_gap_140 rfl ?_
          exact W.iret (v := x_33) hx hb hr (fun t ht _ => ⟨⟨x_33, G_25, rfl, (P_Wgap_1_mk ⟨hB_G_25, hF, ⟨r_1, G_2, hX_5, (Or.inr ⟨c_7, ⟨r_8, G_9, hX_12, (Or.inr ⟨c_14, ⟨r_15, G_16, hX_19, ⟨G_21, hX_24, ⟨x_29, x_30, x_31, x_32, x_33, G_25, hX_34, f_37, f_38, f_39, hB_G_25, hq_26, ⟨y_41, ey_41, ⟨c_42, (Or.inl ⟨c_43, ⟨rfl, rfl⟩⟩)⟩⟩⟩⟩⟩⟩)⟩⟩)⟩⟩), wd_t ht hW⟩, hS.F ht⟩) hS.2.2 dX11_gap_164
      · have c_42 : x_29.toInt < y_41.toInt := xI_nle rfl rfl c_42
        refine lv_aload_n hx hb dX11_gap_65 rfl (lv_at hl 5 rfl) ?_
        refine S_getR (n := 6) (C := RX11) (T := TX11) (N := 13) hx hb hg iX11 hown hK hW kd_0 rfl 4 (lt_b rfl) (hg (Cond.fieldLink RX11 37 "SlabWalk" "lines" "LSlabWalk$Lines;") m574) (fun _ h9 => h9) rfl dX11_gap_66 ?_
        refine lv_iload_n hx hb dX11_gap_69 rfl (lv_at hl 6 rfl) ?_
        refine lv_iload_n hx hb dX11_gap_70 rfl (lv_at hl 7 rfl) ?_
        refine lv_iload hx hb dX11_gap_71 (lv_at hl 0 rfl) ?_
        refine S_calli (va_runV (As := [.int p0, .int p1, .int x_29]) (rest := []) ⟨hx, hb, hml, hown, hts⟩ (k_lIsLine_1 l D k A a z G_25 p0 p1 x_29 ((((hq_26.r9 6 4 rfl rfl).trans ((hq_22.r9 6 4 rfl rfl).trans ((hq_17.r9 6 4 rfl rfl).trans ((hq_10.r9 6 4 rfl rfl).trans (hq_3.r9 6 4 rfl rfl)))))).trans (hv_6_4))) (cwV 3 hts (gd_V hgd m940 m941 m942 m122 m943) rfl rfl rfl hd_X3_isLine ⟨Nat.le_of_ble_eq_true rfl, Nat.le_of_ble_eq_true rfl⟩) (pre_W hW hB_G_25 hK hZ hS kd_6 rfl) rfl rfl hl.1 rfl (lv_room (Nat.le_of_ble_eq_true rfl)) dX11_gap_73 ⟨Nat.le_of_ble_eq_true rfl, Nat.le_of_ble_eq_true rfl⟩) hS (fun r_46 G_47 H locs hpo hW hS => ?_)
        have hX_50 : P_lIsLine_1 p0 p1 x_29 G_25 r_46 G_47 := hpo
        obtain ⟨hB_G_47, hq_48, f_51, -⟩ := hpo
        have hF := hF.call9 hq_48 rfl rfl
        refine lv_istore (lv' := [(9, .int r_46), (8, .int x_29), (7, .int x_30), (6, .int x_31), (5, .int x_32), (4, .int x_33), (0, .ref (a 0)), (1, .int p0), (2, .int p1), (3, .int p2)]) hx hb dX11_gap_76 hl (lt_b rfl) rfl (fun ls hl => ?_)
        refine lv_iload hx hb dX11_gap_78 (lv_at hl 3 rfl) ?_
        refine lv_iload hx hb dX11_gap_80 (lv_at hl 0 rfl) ?_
        refine W.cut (σ := Int32) (pcJ := 90) (J := fun y H locs ls => ∃ (G_63 : GS), (0 ≤ y.toInt ∧ y.toInt ≤ 1) ∧ Jn_k_Wgap_1_2 r_46 G_47 y G_63 ∧ Wd D k A a G_63 H ∧ Bd G_63 ∧ Fr [37, 38, 39] [(6, 3)] G G_63 ∧ Fr [] [] G_47 G_63 ∧ va_S A s.heap H locs ∧ lv_has ls 10 [(9, .int r_46), (8, .int x_29), (7, .int x_30), (5, .int x_32), (4, .int x_33), (0, .ref (a 0)), (1, .int p0), (2, .int p1), (3, .int p2)]) (stJ := fun y => [.int y, .int x_31]) ?_ (fun hJ_64 => ?_)
        · intro y H locs ls hI
          obtain ⟨w_61, hy⟩ : ∃ q, q = y := ⟨_, rfl⟩
          subst hy
          obtain ⟨G_63, f_67, hX_66, hW, hB_G_63, hF, hq_65, hS, hl⟩ := hI
          refine lv_iadd hx hb dX11_gap_90 ?_
          refine lv_topi (fun y_68 ey_68 => ?_)
          refine lv_istore (lv' := [(6, .int y_68), (9, .int r_46), (8, .int x_29), (7, .int x_30), (5, .int x_32), (4, .int x_33), (0, .ref (a 0)), (1, .int p0), (2, .int p1), (3, .int p2)]) hx hb dX11_gap_91 hl (lt_b rfl) rfl (fun ls hl => ?_)
          refine lv_iload hx hb dX11_gap_93 (lv_at hl 1 rfl) ?_
          refine lv_if_eq (tgt := 102) hx hb dX11_gap_95 rfl (fun c_69 => ?_) (fun c_69 => ?_)
          · have c_69 : r_46.toInt = 0 := xI_eq rfl rfl c_69
            refine lv_iload hx hb dX11_gap_102 (lv_at hl 3 rfl) ?_
            refine ic_1 hx hb dX11_gap_104 ?_
            refine lv_iadd hx hb dX11_gap_105 ?_
            refine lv_topi (fun y_70 ey_70 => ?_)
            refine lv_istore (lv' := [(7, .int y_70), (6, .int y_68), (9, .int r_46), (8, .int x_29), (5, .int x_32), (4, .int x_33), (0, .ref (a 0)), (1, .int p0), (2, .int p1), (3, .int p2)]) hx hb dX11_gap_106 hl (lt_b rfl) rfl (fun ls hl => ?_)
            refine lv_iload hx hb dX11_gap_108 (lv_at hl 0 rfl) ?_
            refine lv_iload hx hb dX11_gap_110 (lv_at hl 5 rfl) ?_
            refine lv_icmp_le (tgt := 128) hx hb dX11_gap_112 rfl (fun c_71 => ?_) (fun c_71 => ?_)
            · have c_71 : y_70.toInt ≤ x_33.toInt := xI_le rfl rfl c_71
              obtain ⟨y_72, ey_72⟩ : ∃ q, q = x_29 + 1 := ⟨_, rfl⟩
              have ty_72 : y_72.toInt = x_29.toInt + 1 := xI_add rfl rfl ey_72 ((by first | (clear f_6 hp_4 c_7 f_13 hp_11 c_14 hn_40 f_38 f_39 f_51 f_67 c_69 c_71; omega) | omega)) ((by first | (clear f_6 hp_4 c_7 f_13 hp_11 c_14 hn_40 f_38 f_39 f_51 f_67 c_69 c_71; omega) | omega))
              refine lv_iinc (v := y_72) (lv' := [(8, .int y_72), (7, .int y_70), (6, .int y_68), (9, .int r_46), (5, .int x_32), (4, .int x_33), (0, .ref (a 0)), (1, .int p0), (2, .int p1), (3, .int p2)]) hx hb dX11_gap_128 hl (k := 3) rfl (by rw [ey_72]; rfl) (lt_b rfl) rfl (fun ls hl => ?_)
              refine lv_goto (tgt := 51) hx hb dX11_gap_131 rfl ?_
              exact ih_27 (400 - y_72.toInt : Int).toNat ((by first | (clear f_6 hp_4 c_7 f_13 hp_11 c_14 f_38 f_39 f_51 f_67 c_69 c_71; omega) | omega)) _ _ _ ⟨G_63, y_72, y_70, y_68, x_32, x_33, (Int.toNat_of_nonneg ((by first | (clear f_6 hp_4 c_7 f_13 hp_11 c_14 hn_40 f_38 f_39 f_51 f_67 c_69 c_71; omega) | omega))), ⟨(by first | (clear f_6 hp_4 c_7 f_13 hp_11 c_14 hn_40 f_38 f_39 f_51 f_67 c_69 c_71; omega) | omega), (by first | (clear f_6 hp_4 c_7 f_13 hp_11 c_14 hn_40 f_38 f_39 f_51 f_67 c_69 c_71; omega) | omega)⟩, ((by first | (clear f_6 hp_4 c_7 f_13 hp_11 c_14 hn_40 f_37 f_39 ty_41 c_42 f_51 f_67 c_69 c_71 ty_72; omega) | omega)), ((by first | (clear f_6 hp_4 c_7 f_13 hp_11 c_14 hn_40 f_37 f_38 ty_41 c_42 f_51 f_67 c_69 ty_72; omega) | omega)), (hX_34.st (St_k_Wgap_1_1_mk ⟨x_29, x_30, x_31, x_32, x_33, G_25, y_72, y_70, y_68, x_32, x_33, G_63, rfl, rfl, f_37, f_38, f_39, hB_G_25, ⟨y_41, ey_41, ⟨c_42, ⟨r_46, G_47, hX_50, ⟨w_61, G_63, hX_66, f_67, hB_G_63, hq_65, ⟨y_68, ey_68, (Or.inl ⟨c_69, ⟨y_70, ey_70, (Or.inl ⟨c_71, ⟨y_72, ty_72, ⟨rfl, rfl, rfl, rfl, rfl, rfl⟩⟩⟩)⟩⟩)⟩⟩⟩⟩⟩⟩)), hW, hB_G_63, hF, (Fr.call9 (rs := []) (fs := []) (Fr.call9 (rs := []) (fs := []) (Fr.call9 (rs := []) (fs := []) Fr.rf hq_26 rfl rfl) hq_48 rfl rfl) hq_65 rfl rfl), hS, lv_sub hl [0, 1, 2, 4, 5, 6, 7, 8, 9] rfl⟩
            · have c_71 : x_33.toInt < y_70.toInt := xI_nle rfl rfl c_71
              refine lv_iload hx hb dX11_gap_115 (lv_at hl 0 rfl) ?_
              refine lv_istore (lv' := [(4, .int y_70), (7, .int y_70), (6, .int y_68), (9, .int r_46), (8, .int x_29), (5, .int x_32), (0, .ref (a 0)), (1, .int p0), (2, .int p1), (3, .int p2)]) hx hb dX11_gap_117 hl (lt_b rfl) rfl (fun ls hl => ?_)
              refine lv_iload hx hb dX11_gap_119 (lv_at hl 4 rfl) ?_
              refine lv_iload hx hb dX11_gap_121 (lv_at hl 1 rfl) ?_
              refine lv_isub hx hb dX11_gap_123 ?_
              refine lv_topi (fun y_73 ey_73 => ?_)
              have e_74 := tI_rng y_70
              have ty_73 : y_73.toInt = x_29.toInt - y_70.toInt := xI_sub rfl rfl ey_73 ((by first | (clear f_6 hp_4 c_7 f_13 hp_11 c_14 hn_40 f_38 f_51 f_67 c_69; omega) | omega)) ((by first | (clear f_6 hp_4 c_7 f_13 hp_11 c_14 hn_40 f_38 f_51 f_67 c_69; omega) | omega))
              refine ic_1 hx hb dX11_gap_124 ?_
              refine lv_iadd hx hb dX11_gap_125 ?_
              refine lv_topi (fun y_75 ey_75 => ?_)
              have e_76 := tI_rng y_73
              have ty_75 : y_75.toInt = y_73.toInt + 1 := xI_add rfl rfl ey_75 ((by first | (clear f_6 hp_4 c_7 f_13 hp_11 c_14 hn_40 f_38 f_51 f_67 c_69; omega) | omega)) ((by first | (clear f_6 hp_4 c_7 f_13 hp_11 c_14 hn_40 f_38 f_51 f_67 c_69; omega) | omega))
              refine lv_istore (lv' := [(5, .int y_75), (4, .int y_70), (7, .int y_70), (6, .int y_68), (9, .int r_46), (8, .int x_29), (0, .ref (a 0)), (1, .int p0), (2, .int p1), (3, .int p2)]) hx hb dX11_gap_126 hl (lt_b rfl) rfl (fun ls hl => ?_)
              obtain ⟨y_77, ey_77⟩ : ∃ q, q = x_29 + 1 := ⟨_, rfl⟩
              have ty_77 : y_77.toInt = x_29.toInt + 1 := xI_add rfl rfl ey_77 ((by first | (clear f_6 hp_4 c_7 f_13 hp_11 c_14 hn_40 f_38 f_51 f_67 c_69; omega) | omega)) ((by first | (clear f_6 hp_4 c_7 f_13 hp_11 c_14 hn_40 f_38 f_51 f_67 c_69; omega) | omega))
              refine lv_iinc (v := y_77) (lv' := [(8, .int y_77), (5, .int y_75), (4, .int y_70), (7, .int y_70), (6, .int y_68), (9, .int r_46), (0, .ref (a 0)), (1, .int p0), (2, .int p1), (3, .int p2)]) hx hb dX11_gap_128 hl (k := 5) rfl (by rw [ey_77]; rfl) (lt_b rfl) rfl (fun ls hl => ?_)
              refine lv_goto (tgt := 51) hx hb dX11_gap_131 rfl ?_
              exact ih_27 (400 - y_77.toInt : Int).toNat ((by first | (clear f_6 hp_4 c_7 f_13 hp_11 c_14 f_38 f_51 f_67 c_69; omega) | omega)) _ _ _ ⟨G_63, y_77, y_70, y_68, y_75, y_70, (Int.toNat_of_nonneg ((by first | (clear f_6 hp_4 c_7 f_13 hp_11 c_14 hn_40 f_38 f_51 f_67 c_69; omega) | omega))), ⟨(by first | (clear f_6 hp_4 c_7 f_13 hp_11 c_14 hn_40 f_38 f_51 f_67 c_69; omega) | omega), (by first | (clear f_6 hp_4 c_7 f_13 hp_11 c_14 hn_40 f_38 f_51 f_67 c_69; omega) | omega)⟩, ((by first | (clear f_6 hp_4 c_7 f_13 hp_11 c_14 hn_40 f_38 f_51 f_67 c_69; omega) | omega)), ((by first | (clear f_6 hp_4 c_7 f_13 hp_11 c_14 hn_40 f_38 f_51 f_67 c_69; omega) | omega)), (hX_34.st (St_k_Wgap_1_1_mk ⟨x_29, x_30, x_31, x_32, x_33, G_25, y_77, y_70, y_68, y_75, y_70, G_63, rfl, rfl, f_37, f_38, f_39, hB_G_25, ⟨y_41, ey_41, ⟨c_42, ⟨r_46, G_47, hX_50, ⟨w_61, G_63, hX_66, f_67, hB_G_63, hq_65, ⟨y_68, ey_68, (Or.inl ⟨c_69, ⟨y_70, ey_70, (Or.inr ⟨c_71, ⟨y_73, ty_73, ⟨y_75, ty_75, ⟨y_77, ty_77, ⟨rfl, rfl, rfl, rfl, rfl, rfl⟩⟩⟩⟩⟩)⟩⟩)⟩⟩⟩⟩⟩⟩)), hW, hB_G_63, hF, (Fr.call9 (rs := []) (fs := []) (Fr.call9 (rs := []) (fs := []) (Fr.call9 (rs := []) (fs := []) Fr.rf hq_26 rfl rfl) hq_48 rfl rfl) hq_65 rfl rfl), hS, lv_sub hl [0, 3, 4, 1, 2, 6, 7, 8, 9] rfl⟩
          · have c_69 : r_46.toInt ≠ 0 := xI_ne rfl rfl c_69
            refine ic_0 hx hb dX11_gap_98 ?_
            refine lv_goto (tgt := 106) hx hb dX11_gap_99 rfl ?_
            refine lv_istore (lv' := [(7, .int 0), (6, .int y_68), (9, .int r_46), (8, .int x_29), (5, .int x_32), (4, .int x_33), (0, .ref (a 0)), (1, .int p0), (2, .int p1), (3, .int p2)]) hx hb dX11_gap_106 hl (lt_b rfl) rfl (fun ls hl => ?_)
            refine lv_iload hx hb dX11_gap_108 (lv_at hl 0 rfl) ?_
            refine lv_iload hx hb dX11_gap_110 (lv_at hl 5 rfl) ?_
            refine lv_icmp_le (tgt := 128) hx hb dX11_gap_112 rfl (fun c_78 => ?_) (fun c_78 => ?_)
            · have c_78 : 0 ≤ x_33.toInt := xI_le rfl rfl c_78
              obtain ⟨y_79, ey_79⟩ : ∃ q, q = x_29 + 1 := ⟨_, rfl⟩
              have ty_79 : y_79.toInt = x_29.toInt + 1 := xI_add rfl rfl ey_79 ((by first | (clear f_6 hp_4 c_7 f_13 hp_11 c_14 hn_40 f_38 f_39 f_51 f_67 c_69 c_78; omega) | omega)) ((by first | (clear f_6 hp_4 c_7 f_13 hp_11 c_14 hn_40 f_38 f_39 f_51 f_67 c_69 c_78; omega) | omega))
              refine lv_iinc (v := y_79) (lv' := [(8, .int y_79), (7, .int 0), (6, .int y_68), (9, .int r_46), (5, .int x_32), (4, .int x_33), (0, .ref (a 0)), (1, .int p0), (2, .int p1), (3, .int p2)]) hx hb dX11_gap_128 hl (k := 3) rfl (by rw [ey_79]; rfl) (lt_b rfl) rfl (fun ls hl => ?_)
              refine lv_goto (tgt := 51) hx hb dX11_gap_131 rfl ?_
              have qc_80 : (0 : Int32).toInt = 0 := rfl
              exact ih_27 (400 - y_79.toInt : Int).toNat ((by first | (clear f_6 hp_4 c_7 f_13 hp_11 c_14 f_38 f_39 f_51 f_67 c_69 c_78; omega) | omega)) _ _ _ ⟨G_63, y_79, 0, y_68, x_32, x_33, (Int.toNat_of_nonneg ((by first | (clear f_6 hp_4 c_7 f_13 hp_11 c_14 hn_40 f_38 f_39 f_51 f_67 c_69 c_78; omega) | omega))), ⟨(by first | (clear f_6 hp_4 c_7 f_13 hp_11 c_14 hn_40 f_38 f_39 f_51 f_67 c_69 c_78; omega) | omega), (by first | (clear f_6 hp_4 c_7 f_13 hp_11 c_14 hn_40 f_38 f_39 f_51 f_67 c_69 c_78; omega) | omega)⟩, ((by first | (clear f_6 hp_4 c_7 f_13 hp_11 c_14 hn_40 f_37 f_39 ty_41 c_42 f_51 f_67 c_69 c_78 ty_79; omega) | omega)), ((by first | (clear f_6 hp_4 c_7 f_13 hp_11 c_14 hn_40 f_37 f_38 ty_41 c_42 f_51 f_67 c_69 ty_79; omega) | omega)), (hX_34.st (St_k_Wgap_1_1_mk ⟨x_29, x_30, x_31, x_32, x_33, G_25, y_79, 0, y_68, x_32, x_33, G_63, rfl, rfl, f_37, f_38, f_39, hB_G_25, ⟨y_41, ey_41, ⟨c_42, ⟨r_46, G_47, hX_50, ⟨w_61, G_63, hX_66, f_67, hB_G_63, hq_65, ⟨y_68, ey_68, (Or.inr ⟨c_69, ⟨y_79, ty_79, ⟨rfl, rfl, rfl, rfl, rfl, rfl⟩⟩⟩)⟩⟩⟩⟩⟩⟩)), hW, hB_G_63, hF, (Fr.call9 (rs := []) (fs := []) (Fr.call9 (rs := []) (fs := []) (Fr.call9 (rs := []) (fs := []) Fr.rf hq_26 rfl rfl) hq_48 rfl rfl) hq_65 rfl rfl), hS, lv_sub hl [0, 1, 2, 4, 5, 6, 7, 8, 9] rfl⟩
            · have c_78 : x_33.toInt < 0 := xI_nle rfl rfl c_78
              exfalso; first | (clear f_6 hp_4 c_7 f_13 hp_11 c_14 hn_40 f_37 f_38 ty_41 c_42 f_51 f_67 c_69; omega) | omega
        refine lv_if_eq (tgt := 89) hx hb dX11_gap_82 rfl (fun c_81 => ?_) (fun c_81 => ?_)
        · have c_81 : r_46.toInt = 0 := xI_eq rfl rfl c_81
          refine ic_0 hx hb dX11_gap_89 ?_
          have qc_82 : (0 : Int32).toInt = 0 := rfl
          exact hJ_64 0 _ _ _ ⟨G_47, ⟨(by first | (clear f_6 hp_4 c_7 f_13 hp_11 c_14 hn_40 f_37 f_38 f_39 ty_41 c_42 f_51 c_81; omega) | omega), (by first | (clear f_6 hp_4 c_7 f_13 hp_11 c_14 hn_40 f_37 f_38 f_39 ty_41 c_42 f_51 c_81; omega) | omega)⟩, (Jn_k_Wgap_1_2_mk (Or.inl ⟨c_81, ⟨rfl, rfl⟩⟩)), hW, hB_G_47, hF, (Fr.rf (rs := []) (fs := [])), hS, lv_sub hl [0, 1, 2, 4, 5, 6, 7, 8, 9] rfl⟩
        · have c_81 : r_46.toInt ≠ 0 := xI_ne rfl rfl c_81
          refine ic_1 hx hb dX11_gap_85 ?_
          refine lv_goto (tgt := 90) hx hb dX11_gap_86 rfl ?_
          have qc_83 : (1 : Int32).toInt = 1 := rfl
          exact hJ_64 1 _ _ _ ⟨G_47, ⟨(by first | (clear f_6 hp_4 c_7 f_13 hp_11 c_14 hn_40 f_37 f_38 f_39 ty_41 c_42 f_51 c_81; omega) | omega), (by first | (clear f_6 hp_4 c_7 f_13 hp_11 c_14 hn_40 f_37 f_38 f_39 ty_41 c_42 f_51 c_81; omega) | omega)⟩, (Jn_k_Wgap_1_2_mk (Or.inr ⟨c_81, ⟨rfl, rfl⟩⟩)), hW, hB_G_47, hF, (Fr.rf (rs := []) (fs := [])), hS, lv_sub hl [0, 1, 2, 4, 5, 6, 7, 8, 9] rfl⟩
    · have c_14 : r_8.toInt = 0 := xI_eq rfl rfl c_14
      refine ic_m1 hx hb dX11_gap_22 ?_
      exact W.iret (v := (-1)) hx hb hr (fun t ht _ => ⟨⟨(-1), G_9, rfl, (P_Wgap_1_mk ⟨hB_G_9, hF, ⟨r_1, G_2, hX_5, (Or.inr ⟨c_7, ⟨r_8, G_9, hX_12, (Or.inl ⟨c_14, ⟨rfl, rfl⟩⟩)⟩⟩)⟩⟩), wd_t ht hW⟩, hS.F ht⟩) hS.2.2 dX11_gap_23

set_option maxHeartbeats 4000000 in
set_option maxRecDepth 100000 in
theorem k_Wfoot_1 (l : Launch) (D : va_G) (k : KT) (A : Nat → Prop) (a : Nat → Nat) (z : SK) (G : GS) (p0 : Int32) (p1 : Int32) (p2 : Int32) (p3 : Int32) (hv_0_0 : G.2.2 0 0 = 1) (hv_0_1 : G.2.2 0 1 = 2) (hv_6_4 : G.2.2 6 4 = 1) : Met l yX11_foot (WS yX11_foot cX11_foot 5 (some .int)) ({ frames := 4, cells := 0, slots := 0, locals := 96 }) (va_Pc [.ref (a 0), .int p0, .int p1, .int p2, .int p3] (cW D k A a z G)) (va_Qi (fun (r : Int32) (G1 : GS) => P_Wfoot_1 p0 p1 p2 p3 G r G1) (fun (G1 : GS) t => Wd D k A a G1 t.heap) A) 0 0 A := by
  refine Met.ofW (cc := cX11_foot) (maxL := 5) (ret := (some .int)) (by decide) rfl ?_
  intro p e s m args below meth c s₁ B hml hv
  obtain ⟨rfl, hW, hB_G, hK, hZ⟩ := hv
  have hx := B.exec
  have hb := B.bytes
  have hr := B.returns
  have hts := atoms_spec (ws := WS yX11_foot cX11_foot 5 (some .int)) B.pre
  have hgd : ∀ w ∈ gd, w ∈ WS yX11_foot cX11_foot 5 (some .int) := fun w h => List.mem_cons_of_mem _ h
  have hg : ∀ w ∈ gd, w.before _ s = true := fun w h => hts w (hgd w h)
  have hown : s.vm.findClass RX11 = some m.cls := findClass_of_methodNamed B.named
  have hS : va_S A s.heap s.heap [] := va_S.rf
  have hF : Fr [37, 38, 39] [(6, 3)] G G := Fr.rf
  have hl := lv_entry ([.ref (a 0), .int p0, .int p1, .int p2, .int p3]) (n := 5) (Nat.le_of_ble_eq_true rfl)
  rw [lg_entry_eq]
  generalize (lg_sl ([.ref (a 0), .int p0, .int p1, .int p2, .int p3]) ++ List.replicate (5 - (lg_sl ([.ref (a 0), .int p0, .int p1, .int p2, .int p3])).length) Slot.unset).toArray = ls at hl ⊢
  have hl : lv_has ls 5 [(0, .ref (a 0)), (1, .int p0), (2, .int p1), (3, .int p2), (4, .int p3)] := hl
  refine lv_aload_n hx hb dX11_foot_0 rfl (lv_at hl 0 rfl) ?_
  refine lv_iload_n hx hb dX11_foot_1 rfl (lv_at hl 1 rfl) ?_
  refine lv_iload_n hx hb dX11_foot_2 rfl (lv_at hl 2 rfl) ?_
  refine lv_iload_n hx hb dX11_foot_3 rfl (lv_at hl 3 rfl) ?_
  refine S_calli (va_runV (As := [.int p0, .int p1, .int p2]) (rest := []) ⟨hx, hb, hml, hown, hts⟩ (k_wAsk_1 l D k A a z G p0 p1 p2 hv_0_0 hv_0_1 hv_6_4) (cwV 3 hts (gd_V hgd m953 m955 m31 m117 m956) rfl rfl rfl hd_X11_canAsk ⟨Nat.le_of_ble_eq_true rfl, Nat.le_of_ble_eq_true rfl⟩) (pre_W hW hB_G hK hZ hS kd_0 rfl) rfl rfl hl.1 rfl (lv_room (Nat.le_of_ble_eq_true rfl)) dX11_foot_4 ⟨Nat.le_of_ble_eq_true rfl, Nat.le_of_ble_eq_true rfl⟩) hS (fun r_1 G_2 H locs hpo hW hS => ?_)
  have hX_5 : P_wAsk_1 p0 p1 p2 G r_1 G_2 := hpo
  obtain ⟨hB_G_2, hq_3, f_6, hp_4, -⟩ := hpo
  have hF := hF.call9 hq_3 rfl rfl
  refine lv_if_eq (tgt := 23) hx hb dX11_foot_7 rfl (fun c_7 => ?_) (fun c_7 => ?_)
  · have c_7 : r_1.toInt = 0 := xI_eq rfl rfl c_7
    refine ic_m1 hx hb dX11_foot_23 ?_
    exact W.iret (v := (-1)) hx hb hr (fun t ht _ => ⟨⟨(-1), G_2, rfl, (P_Wfoot_1_mk ⟨hB_G_2, hF, ⟨r_1, G_2, hX_5, (Or.inl ⟨c_7, ⟨rfl, rfl⟩⟩)⟩⟩), wd_t ht hW⟩, hS.F ht⟩) hS.2.2 dX11_foot_24
  · have c_7 : r_1.toInt ≠ 0 := xI_ne rfl rfl c_7
    refine lv_aload_n hx hb dX11_foot_10 rfl (lv_at hl 0 rfl) ?_
    refine S_getV (n := 1) (C := RX11) (T := TX11) (N := 13) hx hb hg iX11 hown hK hW kd_0 rfl 0 (lt_b rfl) (hg (Cond.fieldLink RX11 10 "SlabWalk" "paving" "LSlabWalk$Paving;") m570) (fun _ h9 => h9) rfl (((hq_3.r9 0 0 rfl rfl)).trans (hv_0_0)) dX11_foot_11 ?_
    refine lv_iload_n hx hb dX11_foot_14 rfl (lv_at hl 2 rfl) ?_
    refine lv_iload hx hb dX11_foot_15 (lv_at hl 4 rfl) ?_
    refine S_calli (va_runV (As := [.int p1, .int p3]) (rest := []) ⟨hx, hb, hml, hown, hts⟩ (k_hasInch_1 l D k A a z G_2 p1 p3 ) (cwV 2 hts (gd_V hgd m882 m883 m884 m118 m885) rfl rfl rfl hd_X6_hasInch ⟨Nat.le_of_ble_eq_true rfl, Nat.le_of_ble_eq_true rfl⟩) (pre_W hW hB_G_2 hK hZ hS kd_1 rfl) rfl rfl hl.1 rfl (lv_room (Nat.le_of_ble_eq_true rfl)) dX11_foot_17 ⟨Nat.le_of_ble_eq_true rfl, Nat.le_of_ble_eq_true rfl⟩) hS (fun r_8 G_9 H locs hpo hW hS => ?_)
    have hX_12 : P_hasInch_1 p1 p3 G_2 r_8 G_9 := hpo
    obtain ⟨hB_G_9, hq_10, f_13, hp_11, -⟩ := hpo
    have hF := hF.call9 hq_10 rfl rfl
    refine lv_if_ne (tgt := 25) hx hb dX11_foot_20 rfl (fun c_14 => ?_) (fun c_14 => ?_)
    · have c_14 : r_8.toInt ≠ 0 := xI_ne rfl rfl c_14
      refine lv_aload_n hx hb dX11_foot_25 rfl (lv_at hl 0 rfl) ?_
      refine S_getR (n := 6) (C := RX11) (T := TX11) (N := 13) hx hb hg iX11 hown hK hW kd_0 rfl 4 (lt_b rfl) (hg (Cond.fieldLink RX11 37 "SlabWalk" "lines" "LSlabWalk$Lines;") m574) (fun _ h9 => h9) rfl dX11_foot_26 ?_
      refine lv_iload_n hx hb dX11_foot_29 rfl (lv_at hl 2 rfl) ?_
      refine lv_aload_n hx hb dX11_foot_30 rfl (lv_at hl 0 rfl) ?_
      refine S_calli (va_runV (As := []) (rest := [.int p1, .ref (a 6)]) ⟨hx, hb, hml, hown, hts⟩ (k_wToday l D k A a z G_9  ) (cwV 0 hts (gd_V hgd m911 m913 m27 m117 m914) rfl rfl rfl hd_X11_today ⟨Nat.le_of_ble_eq_true rfl, Nat.le_of_ble_eq_true rfl⟩) (pre_W hW hB_G_9 hK hZ hS kd_0 rfl) rfl rfl hl.1 rfl (lv_room (Nat.le_of_ble_eq_true rfl)) dX11_foot_31 ⟨Nat.le_of_ble_eq_true rfl, Nat.le_of_ble_eq_true rfl⟩) hS (fun r_15 G_16 H locs hpo hW hS => ?_)
      have hX_19 : P_wToday G_9 r_15 G_16 := hpo
      obtain ⟨hB_G_16, hq_17, -⟩ := hpo
      have hF := hF.call9 hq_17 rfl rfl
      refine S_callv (va_runV (As := [.int p1, .int r_15]) (rest := []) ⟨hx, hb, hml, hown, hts⟩ (k_lFind_1 l D k A a z G_16 p1 r_15 ((((hq_17.r9 6 4 rfl rfl).trans ((hq_10.r9 6 4 rfl rfl).trans (hq_3.r9 6 4 rfl rfl)))).trans (hv_6_4))) (cwV 2 hts (gd_V hgd m915 m916 m917 m122 m918) rfl rfl rfl hd_X3_findFor ⟨Nat.le_of_ble_eq_true rfl, Nat.le_of_ble_eq_true rfl⟩) (pre_W hW hB_G_16 hK hZ hS kd_6 rfl) rfl rfl hl.1 rfl (lv_room (Nat.le_of_ble_eq_true rfl)) dX11_foot_34 ⟨Nat.le_of_ble_eq_true rfl, Nat.le_of_ble_eq_true rfl⟩) hS (fun G_21 H locs hpo hW hS => ?_)
      have hX_24 : P_lFind_1 p1 r_15 G_16 G_21 := hpo
      obtain ⟨hB_G_21, hq_22, -⟩ := hpo
      have hF := hF.call9 hq_22 rfl rfl
      refine lv_aload_n hx hb dX11_foot_37 rfl (lv_at hl 0 rfl) ?_
      refine S_getR (n := 6) (C := RX11) (T := TX11) (N := 13) hx hb hg iX11 hown hK hW kd_0 rfl 4 (lt_b rfl) (hg (Cond.fieldLink RX11 37 "SlabWalk" "lines" "LSlabWalk$Lines;") m574) (fun _ h9 => h9) rfl dX11_foot_38 ?_
      refine lv_iload_n hx hb dX11_foot_41 rfl (lv_at hl 1 rfl) ?_
      refine lv_iload_n hx hb dX11_foot_42 rfl (lv_at hl 2 rfl) ?_
      refine lv_iload_n hx hb dX11_foot_43 rfl (lv_at hl 3 rfl) ?_
      refine lv_iload hx hb dX11_foot_44 (lv_at hl 4 rfl) ?_
      refine S_calli (va_runV (As := [.int p0, .int p1, .int p2, .int p3]) (rest := []) ⟨hx, hb, hml, hown, hts⟩ (k_lIsLawful_1 l D k A a z G_21 p0 p1 p2 p3 ((((hq_22.r9 6 4 rfl rfl).trans ((hq_17.r9 6 4 rfl rfl).trans ((hq_10.r9 6 4 rfl rfl).trans (hq_3.r9 6 4 rfl rfl))))).trans (hv_6_4))) (cwV 4 hts (gd_V hgd m961 m962 m963 m122 m964) rfl rfl rfl hd_X3_isLawful ⟨Nat.le_of_ble_eq_true rfl, Nat.le_of_ble_eq_true rfl⟩) (pre_W hW hB_G_21 hK hZ hS kd_6 rfl) rfl rfl hl.1 rfl (lv_room (Nat.le_of_ble_eq_true rfl)) dX11_foot_46 ⟨Nat.le_of_ble_eq_true rfl, Nat.le_of_ble_eq_true rfl⟩) hS (fun r_25 G_26 H locs hpo hW hS => ?_)
      have hX_29 : P_lIsLawful_1 p0 p1 p2 p3 G_21 r_25 G_26 := hpo
      obtain ⟨hB_G_26, hq_27, f_30, -⟩ := hpo
      have hF := hF.call9 hq_27 rfl rfl
      refine lv_if_eq (tgt := 56) hx hb dX11_foot_49 rfl (fun c_31 => ?_) (fun c_31 => ?_)
      · have c_31 : r_25.toInt = 0 := xI_eq rfl rfl c_31
        refine ic_0 hx hb dX11_foot_56 ?_
        exact W.iret (v := 0) hx hb hr (fun t ht _ => ⟨⟨0, G_26, rfl, (P_Wfoot_1_mk ⟨hB_G_26, hF, ⟨r_1, G_2, hX_5, (Or.inr ⟨c_7, ⟨r_8, G_9, hX_12, (Or.inr ⟨c_14, ⟨r_15, G_16, hX_19, ⟨G_21, hX_24, ⟨r_25, G_26, hX_29, (Or.inl ⟨c_31, ⟨rfl, rfl⟩⟩)⟩⟩⟩⟩)⟩⟩)⟩⟩), wd_t ht hW⟩, hS.F ht⟩) hS.2.2 dX11_foot_57
      · have c_31 : r_25.toInt ≠ 0 := xI_ne rfl rfl c_31
        refine ic_1 hx hb dX11_foot_52 ?_
        refine lv_goto (tgt := 57) hx hb dX11_foot_53 rfl ?_
        exact W.iret (v := 1) hx hb hr (fun t ht _ => ⟨⟨1, G_26, rfl, (P_Wfoot_1_mk ⟨hB_G_26, hF, ⟨r_1, G_2, hX_5, (Or.inr ⟨c_7, ⟨r_8, G_9, hX_12, (Or.inr ⟨c_14, ⟨r_15, G_16, hX_19, ⟨G_21, hX_24, ⟨r_25, G_26, hX_29, (Or.inr ⟨c_31, ⟨rfl, rfl⟩⟩)⟩⟩⟩⟩)⟩⟩)⟩⟩), wd_t ht hW⟩, hS.F ht⟩) hS.2.2 dX11_foot_57
    · have c_14 : r_8.toInt = 0 := xI_eq rfl rfl c_14
      refine ic_m1 hx hb dX11_foot_23 ?_
      exact W.iret (v := (-1)) hx hb hr (fun t ht _ => ⟨⟨(-1), G_9, rfl, (P_Wfoot_1_mk ⟨hB_G_9, hF, ⟨r_1, G_2, hX_5, (Or.inr ⟨c_7, ⟨r_8, G_9, hX_12, (Or.inl ⟨c_14, ⟨rfl, rfl⟩⟩)⟩⟩)⟩⟩), wd_t ht hW⟩, hS.F ht⟩) hS.2.2 dX11_foot_24

set_option maxHeartbeats 4000000 in
set_option maxRecDepth 100000 in
theorem k_Wabout_1 (l : Launch) (D : va_G) (k : KT) (A : Nat → Prop) (a : Nat → Nat) (z : SK) (G : GS) (p0 : Int32) (hv_0_0 : G.2.2 0 0 = 1) (hv_0_1 : G.2.2 0 1 = 2) (hv_6_4 : G.2.2 6 4 = 1) : Met l yX11_about (WS yX11_about cX11_about 2 (some .int)) ({ frames := 1, cells := 0, slots := 0, locals := 20 }) (va_Pc [.ref (a 0), .int p0] (cW D k A a z G)) (va_Qi (fun (r : Int32) (G1 : GS) => P_Wabout_1 p0 G r G1) (fun (G1 : GS) t => Wd D k A a G1 t.heap) A) 0 0 A := by
  refine Met.ofW (cc := cX11_about) (maxL := 2) (ret := (some .int)) (by decide) rfl ?_
  intro p e s m args below meth c s₁ B hml hv
  obtain ⟨rfl, hW, hB_G, hK, hZ⟩ := hv
  have hx := B.exec
  have hb := B.bytes
  have hr := B.returns
  have hts := atoms_spec (ws := WS yX11_about cX11_about 2 (some .int)) B.pre
  have hgd : ∀ w ∈ gd, w ∈ WS yX11_about cX11_about 2 (some .int) := fun w h => List.mem_cons_of_mem _ h
  have hg : ∀ w ∈ gd, w.before _ s = true := fun w h => hts w (hgd w h)
  have hown : s.vm.findClass RX11 = some m.cls := findClass_of_methodNamed B.named
  have hS : va_S A s.heap s.heap [] := va_S.rf
  have hF : Fr [] [] G G := Fr.rf
  have hl := lv_entry ([.ref (a 0), .int p0]) (n := 2) (Nat.le_of_ble_eq_true rfl)
  rw [lg_entry_eq]
  generalize (lg_sl ([.ref (a 0), .int p0]) ++ List.replicate (2 - (lg_sl ([.ref (a 0), .int p0])).length) Slot.unset).toArray = ls at hl ⊢
  have hl : lv_has ls 2 [(0, .ref (a 0)), (1, .int p0)] := hl
  refine lv_iload_n hx hb dX11_about_0 rfl (lv_at hl 1 rfl) ?_
  by_cases c_1 : p0 = 0
  · refine lv_tableIn (tgt := 76) hx hb dX11_about_1 (by rw [c_1]; decide) (by rw [c_1]; decide) (off := 75) (by rw [c_1]; decide) (by decide) ?_
    have c_1 : p0.toInt = 0 := xI_eq rfl rfl c_1
    refine lv_aload_n hx hb dX11_about_76 rfl (lv_at hl 0 rfl) ?_
    refine S_getV (n := 1) (C := RX11) (T := TX11) (N := 13) hx hb hg iX11 hown hK hW kd_0 rfl 0 (lt_b rfl) (hg (Cond.fieldLink RX11 10 "SlabWalk" "paving" "LSlabWalk$Paving;") m570) (fun _ h9 => h9) rfl hv_0_0 dX11_about_77 ?_
    have b_2 : 0 ≤ (G.1 1 9).toInt ∧ (G.1 1 9).toInt ≤ 3 := bd_1_9 hB_G
    refine S_getI (v := (G.1 1 9)) (C := RX6) (T := TX6) (N := 17) hx hb hg iX6 hown hK hW kd_1 rfl 9 (lt_b rfl) (hg (Cond.fieldLink RX11 95 "SlabWalk$Paving" "streets" "I") m187) (fun _ h9 => h9) rfl rfl dX11_about_80 ?_
    exact W.iret (v := (G.1 1 9)) hx hb hr (fun t ht _ => ⟨⟨(G.1 1 9), G, rfl, (P_Wabout_1_mk ⟨hB_G, hF, (Or.inl ⟨c_1, ⟨rfl, rfl⟩⟩)⟩), wd_t ht hW⟩, hS.F ht⟩) hS.2.2 dX11_about_83
  by_cases c_3 : p0 = 1
  · refine lv_tableIn (tgt := 84) hx hb dX11_about_1 (by rw [c_3]; decide) (by rw [c_3]; decide) (off := 83) (by rw [c_3]; decide) (by decide) ?_
    have c_3 : p0.toInt = 1 := xI_eq rfl rfl c_3
    refine lv_aload_n hx hb dX11_about_84 rfl (lv_at hl 0 rfl) ?_
    refine S_getV (n := 1) (C := RX11) (T := TX11) (N := 13) hx hb hg iX11 hown hK hW kd_0 rfl 0 (lt_b rfl) (hg (Cond.fieldLink RX11 10 "SlabWalk" "paving" "LSlabWalk$Paving;") m570) (fun _ h9 => h9) rfl hv_0_0 dX11_about_85 ?_
    have b_4 : 0 ≤ (G.1 1 10).toInt ∧ (G.1 1 10).toInt ≤ 4 := bd_1_10 hB_G
    refine S_getI (v := (G.1 1 10)) (C := RX6) (T := TX6) (N := 17) hx hb hg iX6 hown hK hW kd_1 rfl 10 (lt_b rfl) (hg (Cond.fieldLink RX11 305 "SlabWalk$Paving" "walkers" "I") m191) (fun _ h9 => h9) rfl rfl dX11_about_88 ?_
    exact W.iret (v := (G.1 1 10)) hx hb hr (fun t ht _ => ⟨⟨(G.1 1 10), G, rfl, (P_Wabout_1_mk ⟨hB_G, hF, (Or.inr ⟨(xI_ne (Y := 0) rfl rfl c_1), (Or.inl ⟨c_3, ⟨rfl, rfl⟩⟩)⟩)⟩), wd_t ht hW⟩, hS.F ht⟩) hS.2.2 dX11_about_91
  by_cases c_5 : p0 = 2
  · refine lv_tableIn (tgt := 92) hx hb dX11_about_1 (by rw [c_5]; decide) (by rw [c_5]; decide) (off := 91) (by rw [c_5]; decide) (by decide) ?_
    have c_5 : p0.toInt = 2 := xI_eq rfl rfl c_5
    refine lv_aload_n hx hb dX11_about_92 rfl (lv_at hl 0 rfl) ?_
    refine S_getV (n := 1) (C := RX11) (T := TX11) (N := 13) hx hb hg iX11 hown hK hW kd_0 rfl 0 (lt_b rfl) (hg (Cond.fieldLink RX11 10 "SlabWalk" "paving" "LSlabWalk$Paving;") m570) (fun _ h9 => h9) rfl hv_0_0 dX11_about_93 ?_
    have b_6 : 0 ≤ (G.1 1 11).toInt ∧ (G.1 1 11).toInt ≤ 6 := bd_1_11 hB_G
    refine S_getI (v := (G.1 1 11)) (C := RX6) (T := TX6) (N := 17) hx hb hg iX6 hown hK hW kd_1 rfl 11 (lt_b rfl) (hg (Cond.fieldLink RX11 228 "SlabWalk$Paving" "rules" "I") m195) (fun _ h9 => h9) rfl rfl dX11_about_96 ?_
    exact W.iret (v := (G.1 1 11)) hx hb hr (fun t ht _ => ⟨⟨(G.1 1 11), G, rfl, (P_Wabout_1_mk ⟨hB_G, hF, (Or.inr ⟨(xI_ne (Y := 0) rfl rfl c_1), (Or.inr ⟨(xI_ne (Y := 1) rfl rfl c_3), (Or.inl ⟨c_5, ⟨rfl, rfl⟩⟩)⟩)⟩)⟩), wd_t ht hW⟩, hS.F ht⟩) hS.2.2 dX11_about_99
  by_cases c_7 : p0 = 3
  · refine lv_tableIn (tgt := 100) hx hb dX11_about_1 (by rw [c_7]; decide) (by rw [c_7]; decide) (off := 99) (by rw [c_7]; decide) (by decide) ?_
    have c_7 : p0.toInt = 3 := xI_eq rfl rfl c_7
    refine lv_aload_n hx hb dX11_about_100 rfl (lv_at hl 0 rfl) ?_
    refine S_calli (va_runV (As := []) (rest := []) ⟨hx, hb, hml, hown, hts⟩ (k_wToday l D k A a z G  ) (cwV 0 hts (gd_V hgd m911 m913 m27 m117 m914) rfl rfl rfl hd_X11_today ⟨Nat.le_of_ble_eq_true rfl, Nat.le_of_ble_eq_true rfl⟩) (pre_W hW hB_G hK hZ hS kd_0 rfl) rfl rfl hl.1 rfl (lv_room (Nat.le_of_ble_eq_true rfl)) dX11_about_101 ⟨Nat.le_of_ble_eq_true rfl, Nat.le_of_ble_eq_true rfl⟩) hS (fun r_8 G_9 H locs hpo hW hS => ?_)
    have hX_12 : P_wToday G r_8 G_9 := hpo
    obtain ⟨hB_G_9, hq_10, -⟩ := hpo
    have hF := hF.call9 hq_10 rfl rfl
    exact W.iret (v := r_8) hx hb hr (fun t ht _ => ⟨⟨r_8, G_9, rfl, (P_Wabout_1_mk ⟨hB_G_9, hF, (Or.inr ⟨(xI_ne (Y := 0) rfl rfl c_1), (Or.inr ⟨(xI_ne (Y := 1) rfl rfl c_3), (Or.inr ⟨(xI_ne (Y := 2) rfl rfl c_5), (Or.inl ⟨c_7, ⟨r_8, G_9, hX_12, ⟨rfl, rfl⟩⟩⟩)⟩)⟩)⟩)⟩), wd_t ht hW⟩, hS.F ht⟩) hS.2.2 dX11_about_104
  by_cases c_13 : p0 = 4
  · refine lv_tableIn (tgt := 105) hx hb dX11_about_1 (by rw [c_13]; decide) (by rw [c_13]; decide) (off := 104) (by rw [c_13]; decide) (by decide) ?_
    have c_13 : p0.toInt = 4 := xI_eq rfl rfl c_13
    refine lv_aload_n hx hb dX11_about_105 rfl (lv_at hl 0 rfl) ?_
    refine S_getR (n := 30) (C := RX11) (T := TX11) (N := 13) hx hb hg iX11 hown hK hW kd_0 rfl 8 (lt_b rfl) (hg (Cond.fieldLink RX11 65 "SlabWalk" "earnest" "LSlabWalk$Earnest;") m578) (fun _ h9 => h9) rfl dX11_about_106 ?_
    refine S_getR (n := 58) (C := RX1) (T := TX1) (N := 6) hx hb hg iX1 hown hK hW kd_30 rfl 0 (lt_b rfl) (hg (Cond.fieldLink RX11 246 "SlabWalk$Earnest" "now" "[I") m493) (fun _ h9 => h9) rfl dX11_about_109 ?_
    refine lv_bipush (v := 7) hx hb dX11_about_112 (by decide) ?_
    refine S_iald hx hb hK hW kd_58 (vin (by decide) (by decide)) dX11_about_114 (fun y_14 ey_14 => ?_)
    exact W.iret (v := y_14) hx hb hr (fun t ht _ => ⟨⟨y_14, G, rfl, (P_Wabout_1_mk ⟨hB_G, hF, (Or.inr ⟨(xI_ne (Y := 0) rfl rfl c_1), (Or.inr ⟨(xI_ne (Y := 1) rfl rfl c_3), (Or.inr ⟨(xI_ne (Y := 2) rfl rfl c_5), (Or.inr ⟨(xI_ne (Y := 3) rfl rfl c_7), (Or.inl ⟨c_13, ⟨y_14, ey_14, ⟨rfl, rfl⟩⟩⟩)⟩)⟩)⟩)⟩)⟩), wd_t ht hW⟩, hS.F ht⟩) hS.2.2 dX11_about_115
  by_cases c_15 : p0 = 5
  · refine lv_tableIn (tgt := 116) hx hb dX11_about_1 (by rw [c_15]; decide) (by rw [c_15]; decide) (off := 115) (by rw [c_15]; decide) (by decide) ?_
    have c_15 : p0.toInt = 5 := xI_eq rfl rfl c_15
    refine lv_aload_n hx hb dX11_about_116 rfl (lv_at hl 0 rfl) ?_
    refine S_getR (n := 30) (C := RX11) (T := TX11) (N := 13) hx hb hg iX11 hown hK hW kd_0 rfl 8 (lt_b rfl) (hg (Cond.fieldLink RX11 65 "SlabWalk" "earnest" "LSlabWalk$Earnest;") m578) (fun _ h9 => h9) rfl dX11_about_117 ?_
    refine S_getR (n := 58) (C := RX1) (T := TX1) (N := 6) hx hb hg iX1 hown hK hW kd_30 rfl 0 (lt_b rfl) (hg (Cond.fieldLink RX11 246 "SlabWalk$Earnest" "now" "[I") m493) (fun _ h9 => h9) rfl dX11_about_120 ?_
    refine lv_bipush (v := 8) hx hb dX11_about_123 (by decide) ?_
    refine S_iald hx hb hK hW kd_58 (vin (by decide) (by decide)) dX11_about_125 (fun y_16 ey_16 => ?_)
    exact W.iret (v := y_16) hx hb hr (fun t ht _ => ⟨⟨y_16, G, rfl, (P_Wabout_1_mk ⟨hB_G, hF, (Or.inr ⟨(xI_ne (Y := 0) rfl rfl c_1), (Or.inr ⟨(xI_ne (Y := 1) rfl rfl c_3), (Or.inr ⟨(xI_ne (Y := 2) rfl rfl c_5), (Or.inr ⟨(xI_ne (Y := 3) rfl rfl c_7), (Or.inr ⟨(xI_ne (Y := 4) rfl rfl c_13), (Or.inl ⟨c_15, ⟨y_16, ey_16, ⟨rfl, rfl⟩⟩⟩)⟩)⟩)⟩)⟩)⟩)⟩), wd_t ht hW⟩, hS.F ht⟩) hS.2.2 dX11_about_126
  by_cases c_17 : p0 = 6
  · refine lv_tableIn (tgt := 127) hx hb dX11_about_1 (by rw [c_17]; decide) (by rw [c_17]; decide) (off := 126) (by rw [c_17]; decide) (by decide) ?_
    have c_17 : p0.toInt = 6 := xI_eq rfl rfl c_17
    refine lv_aload_n hx hb dX11_about_127 rfl (lv_at hl 0 rfl) ?_
    refine S_getR (n := 30) (C := RX11) (T := TX11) (N := 13) hx hb hg iX11 hown hK hW kd_0 rfl 8 (lt_b rfl) (hg (Cond.fieldLink RX11 65 "SlabWalk" "earnest" "LSlabWalk$Earnest;") m578) (fun _ h9 => h9) rfl dX11_about_128 ?_
    refine S_getR (n := 58) (C := RX1) (T := TX1) (N := 6) hx hb hg iX1 hown hK hW kd_30 rfl 0 (lt_b rfl) (hg (Cond.fieldLink RX11 246 "SlabWalk$Earnest" "now" "[I") m493) (fun _ h9 => h9) rfl dX11_about_131 ?_
    refine lv_bipush (v := 9) hx hb dX11_about_134 (by decide) ?_
    refine S_iald hx hb hK hW kd_58 (vin (by decide) (by decide)) dX11_about_136 (fun y_18 ey_18 => ?_)
    exact W.iret (v := y_18) hx hb hr (fun t ht _ => ⟨⟨y_18, G, rfl, (P_Wabout_1_mk ⟨hB_G, hF, (Or.inr ⟨(xI_ne (Y := 0) rfl rfl c_1), (Or.inr ⟨(xI_ne (Y := 1) rfl rfl c_3), (Or.inr ⟨(xI_ne (Y := 2) rfl rfl c_5), (Or.inr ⟨(xI_ne (Y := 3) rfl rfl c_7), (Or.inr ⟨(xI_ne (Y := 4) rfl rfl c_13), (Or.inr ⟨(xI_ne (Y := 5) rfl rfl c_15), (Or.inl ⟨c_17, ⟨y_18, ey_18, ⟨rfl, rfl⟩⟩⟩)⟩)⟩)⟩)⟩)⟩)⟩)⟩), wd_t ht hW⟩, hS.F ht⟩) hS.2.2 dX11_about_137
  by_cases c_19 : p0 = 7
  · refine lv_tableIn (tgt := 138) hx hb dX11_about_1 (by rw [c_19]; decide) (by rw [c_19]; decide) (off := 137) (by rw [c_19]; decide) (by decide) ?_
    have c_19 : p0.toInt = 7 := xI_eq rfl rfl c_19
    refine lv_aload_n hx hb dX11_about_138 rfl (lv_at hl 0 rfl) ?_
    refine S_getR (n := 30) (C := RX11) (T := TX11) (N := 13) hx hb hg iX11 hown hK hW kd_0 rfl 8 (lt_b rfl) (hg (Cond.fieldLink RX11 65 "SlabWalk" "earnest" "LSlabWalk$Earnest;") m578) (fun _ h9 => h9) rfl dX11_about_139 ?_
    have b_20 : 0 ≤ (G.1 30 4).toInt ∧ (G.1 30 4).toInt ≤ 40 := bd_30_4 hB_G
    refine S_getI (v := (G.1 30 4)) (C := RX1) (T := TX1) (N := 6) hx hb hg iX1 hown hK hW kd_30 rfl 4 (lt_b rfl) (hg (Cond.fieldLink RX11 308 "SlabWalk$Earnest" "done" "I") m498) (fun _ h9 => h9) rfl rfl dX11_about_142 ?_
    exact W.iret (v := (G.1 30 4)) hx hb hr (fun t ht _ => ⟨⟨(G.1 30 4), G, rfl, (P_Wabout_1_mk ⟨hB_G, hF, (Or.inr ⟨(xI_ne (Y := 0) rfl rfl c_1), (Or.inr ⟨(xI_ne (Y := 1) rfl rfl c_3), (Or.inr ⟨(xI_ne (Y := 2) rfl rfl c_5), (Or.inr ⟨(xI_ne (Y := 3) rfl rfl c_7), (Or.inr ⟨(xI_ne (Y := 4) rfl rfl c_13), (Or.inr ⟨(xI_ne (Y := 5) rfl rfl c_15), (Or.inr ⟨(xI_ne (Y := 6) rfl rfl c_17), (Or.inl ⟨c_19, ⟨rfl, rfl⟩⟩)⟩)⟩)⟩)⟩)⟩)⟩)⟩)⟩), wd_t ht hW⟩, hS.F ht⟩) hS.2.2 dX11_about_145
  by_cases c_21 : p0 = 8
  · refine lv_tableIn (tgt := 146) hx hb dX11_about_1 (by rw [c_21]; decide) (by rw [c_21]; decide) (off := 145) (by rw [c_21]; decide) (by decide) ?_
    have c_21 : p0.toInt = 8 := xI_eq rfl rfl c_21
    refine lv_aload_n hx hb dX11_about_146 rfl (lv_at hl 0 rfl) ?_
    refine S_getR (n := 30) (C := RX11) (T := TX11) (N := 13) hx hb hg iX11 hown hK hW kd_0 rfl 8 (lt_b rfl) (hg (Cond.fieldLink RX11 65 "SlabWalk" "earnest" "LSlabWalk$Earnest;") m578) (fun _ h9 => h9) rfl dX11_about_147 ?_
    have b_22 : 0 ≤ (G.1 30 5).toInt ∧ (G.1 30 5).toInt ≤ 40 := bd_30_5 hB_G
    refine S_getI (v := (G.1 30 5)) (C := RX1) (T := TX1) (N := 6) hx hb hg iX1 hown hK hW kd_30 rfl 5 (lt_b rfl) (hg (Cond.fieldLink RX11 311 "SlabWalk$Earnest" "undone" "I") m500) (fun _ h9 => h9) rfl rfl dX11_about_150 ?_
    exact W.iret (v := (G.1 30 5)) hx hb hr (fun t ht _ => ⟨⟨(G.1 30 5), G, rfl, (P_Wabout_1_mk ⟨hB_G, hF, (Or.inr ⟨(xI_ne (Y := 0) rfl rfl c_1), (Or.inr ⟨(xI_ne (Y := 1) rfl rfl c_3), (Or.inr ⟨(xI_ne (Y := 2) rfl rfl c_5), (Or.inr ⟨(xI_ne (Y := 3) rfl rfl c_7), (Or.inr ⟨(xI_ne (Y := 4) rfl rfl c_13), (Or.inr ⟨(xI_ne (Y := 5) rfl rfl c_15), (Or.inr ⟨(xI_ne (Y := 6) rfl rfl c_17), (Or.inr ⟨(xI_ne (Y := 7) rfl rfl c_19), (Or.inl ⟨c_21, ⟨rfl, rfl⟩⟩)⟩)⟩)⟩)⟩)⟩)⟩)⟩)⟩)⟩), wd_t ht hW⟩, hS.F ht⟩) hS.2.2 dX11_about_153
  by_cases c_23 : p0 = 9
  · refine lv_tableIn (tgt := 154) hx hb dX11_about_1 (by rw [c_23]; decide) (by rw [c_23]; decide) (off := 153) (by rw [c_23]; decide) (by decide) ?_
    have c_23 : p0.toInt = 9 := xI_eq rfl rfl c_23
    refine lv_aload_n hx hb dX11_about_154 rfl (lv_at hl 0 rfl) ?_
    refine S_getR (n := 31) (C := RX11) (T := TX11) (N := 13) hx hb hg iX11 hown hK hW kd_0 rfl 9 (lt_b rfl) (hg (Cond.fieldLink RX11 72 "SlabWalk" "sights" "LSlabWalk$Sights;") m579) (fun _ h9 => h9) rfl dX11_about_155 ?_
    have b_24 : 0 ≤ (G.1 31 5).toInt ∧ (G.1 31 5).toInt ≤ 20 := bd_31_5 hB_G
    refine S_getI (v := (G.1 31 5)) (C := RX8) (T := TX8) (N := 7) hx hb hg iX8 hown hK hW kd_31 rfl 5 (lt_b rfl) (hg (Cond.fieldLink RX11 285 "SlabWalk$Sights" "count" "I") m529) (fun _ h9 => h9) rfl rfl dX11_about_158 ?_
    exact W.iret (v := (G.1 31 5)) hx hb hr (fun t ht _ => ⟨⟨(G.1 31 5), G, rfl, (P_Wabout_1_mk ⟨hB_G, hF, (Or.inr ⟨(xI_ne (Y := 0) rfl rfl c_1), (Or.inr ⟨(xI_ne (Y := 1) rfl rfl c_3), (Or.inr ⟨(xI_ne (Y := 2) rfl rfl c_5), (Or.inr ⟨(xI_ne (Y := 3) rfl rfl c_7), (Or.inr ⟨(xI_ne (Y := 4) rfl rfl c_13), (Or.inr ⟨(xI_ne (Y := 5) rfl rfl c_15), (Or.inr ⟨(xI_ne (Y := 6) rfl rfl c_17), (Or.inr ⟨(xI_ne (Y := 7) rfl rfl c_19), (Or.inr ⟨(xI_ne (Y := 8) rfl rfl c_21), (Or.inl ⟨c_23, ⟨rfl, rfl⟩⟩)⟩)⟩)⟩)⟩)⟩)⟩)⟩)⟩)⟩)⟩), wd_t ht hW⟩, hS.F ht⟩) hS.2.2 dX11_about_161
  by_cases c_25 : p0 = 10
  · refine lv_tableIn (tgt := 162) hx hb dX11_about_1 (by rw [c_25]; decide) (by rw [c_25]; decide) (off := 161) (by rw [c_25]; decide) (by decide) ?_
    have c_25 : p0.toInt = 10 := xI_eq rfl rfl c_25
    refine lv_aload_n hx hb dX11_about_162 rfl (lv_at hl 0 rfl) ?_
    refine S_getR (n := 31) (C := RX11) (T := TX11) (N := 13) hx hb hg iX11 hown hK hW kd_0 rfl 9 (lt_b rfl) (hg (Cond.fieldLink RX11 72 "SlabWalk" "sights" "LSlabWalk$Sights;") m579) (fun _ h9 => h9) rfl dX11_about_163 ?_
    have b_26 : 0 ≤ (G.1 31 6).toInt ∧ (G.1 31 6).toInt ≤ 100000 := bd_31_6 hB_G
    refine S_getI (v := (G.1 31 6)) (C := RX8) (T := TX8) (N := 7) hx hb hg iX8 hown hK hW kd_31 rfl 6 (lt_b rfl) (hg (Cond.fieldLink RX11 278 "SlabWalk$Sights" "time" "I") m531) (fun _ h9 => h9) rfl rfl dX11_about_166 ?_
    exact W.iret (v := (G.1 31 6)) hx hb hr (fun t ht _ => ⟨⟨(G.1 31 6), G, rfl, (P_Wabout_1_mk ⟨hB_G, hF, (Or.inr ⟨(xI_ne (Y := 0) rfl rfl c_1), (Or.inr ⟨(xI_ne (Y := 1) rfl rfl c_3), (Or.inr ⟨(xI_ne (Y := 2) rfl rfl c_5), (Or.inr ⟨(xI_ne (Y := 3) rfl rfl c_7), (Or.inr ⟨(xI_ne (Y := 4) rfl rfl c_13), (Or.inr ⟨(xI_ne (Y := 5) rfl rfl c_15), (Or.inr ⟨(xI_ne (Y := 6) rfl rfl c_17), (Or.inr ⟨(xI_ne (Y := 7) rfl rfl c_19), (Or.inr ⟨(xI_ne (Y := 8) rfl rfl c_21), (Or.inr ⟨(xI_ne (Y := 9) rfl rfl c_23), (Or.inl ⟨c_25, ⟨rfl, rfl⟩⟩)⟩)⟩)⟩)⟩)⟩)⟩)⟩)⟩)⟩)⟩)⟩), wd_t ht hW⟩, hS.F ht⟩) hS.2.2 dX11_about_169
  by_cases c_27 : p0 = 11
  · refine lv_tableIn (tgt := 170) hx hb dX11_about_1 (by rw [c_27]; decide) (by rw [c_27]; decide) (off := 169) (by rw [c_27]; decide) (by decide) ?_
    have c_27 : p0.toInt = 11 := xI_eq rfl rfl c_27
    refine lv_aload_n hx hb dX11_about_170 rfl (lv_at hl 0 rfl) ?_
    have b_28 : 0 ≤ (G.1 0 11).toInt ∧ (G.1 0 11).toInt ≤ 1600 := bd_0_11 hB_G
    refine S_getI (v := (G.1 0 11)) (C := RX11) (T := TX11) (N := 13) hx hb hg iX11 hown hK hW kd_0 rfl 11 (lt_b rfl) (hg (Cond.fieldLink RX11 83 "SlabWalk" "taped" "I") m581) (fun _ h9 => h9) rfl rfl dX11_about_171 ?_
    exact W.iret (v := (G.1 0 11)) hx hb hr (fun t ht _ => ⟨⟨(G.1 0 11), G, rfl, (P_Wabout_1_mk ⟨hB_G, hF, (Or.inr ⟨(xI_ne (Y := 0) rfl rfl c_1), (Or.inr ⟨(xI_ne (Y := 1) rfl rfl c_3), (Or.inr ⟨(xI_ne (Y := 2) rfl rfl c_5), (Or.inr ⟨(xI_ne (Y := 3) rfl rfl c_7), (Or.inr ⟨(xI_ne (Y := 4) rfl rfl c_13), (Or.inr ⟨(xI_ne (Y := 5) rfl rfl c_15), (Or.inr ⟨(xI_ne (Y := 6) rfl rfl c_17), (Or.inr ⟨(xI_ne (Y := 7) rfl rfl c_19), (Or.inr ⟨(xI_ne (Y := 8) rfl rfl c_21), (Or.inr ⟨(xI_ne (Y := 9) rfl rfl c_23), (Or.inr ⟨(xI_ne (Y := 10) rfl rfl c_25), (Or.inl ⟨c_27, ⟨rfl, rfl⟩⟩)⟩)⟩)⟩)⟩)⟩)⟩)⟩)⟩)⟩)⟩)⟩)⟩), wd_t ht hW⟩, hS.F ht⟩) hS.2.2 dX11_about_174
  by_cases c_29 : p0 = 12
  · refine lv_tableIn (tgt := 175) hx hb dX11_about_1 (by rw [c_29]; decide) (by rw [c_29]; decide) (off := 174) (by rw [c_29]; decide) (by decide) ?_
    have c_29 : p0.toInt = 12 := xI_eq rfl rfl c_29
    refine lv_aload_n hx hb dX11_about_175 rfl (lv_at hl 0 rfl) ?_
    refine S_getV (n := 1) (C := RX11) (T := TX11) (N := 13) hx hb hg iX11 hown hK hW kd_0 rfl 0 (lt_b rfl) (hg (Cond.fieldLink RX11 10 "SlabWalk" "paving" "LSlabWalk$Paving;") m570) (fun _ h9 => h9) rfl hv_0_0 dX11_about_176 ?_
    have b_30 : 0 ≤ (G.1 1 12).toInt ∧ (G.1 1 12).toInt ≤ 90 := bd_1_12 hB_G
    refine S_getI (v := (G.1 1 12)) (C := RX6) (T := TX6) (N := 17) hx hb hg iX6 hown hK hW kd_1 rfl 12 (lt_b rfl) (hg (Cond.fieldLink RX11 314 "SlabWalk$Paving" "units" "I") m198) (fun _ h9 => h9) rfl rfl dX11_about_179 ?_
    exact W.iret (v := (G.1 1 12)) hx hb hr (fun t ht _ => ⟨⟨(G.1 1 12), G, rfl, (P_Wabout_1_mk ⟨hB_G, hF, (Or.inr ⟨(xI_ne (Y := 0) rfl rfl c_1), (Or.inr ⟨(xI_ne (Y := 1) rfl rfl c_3), (Or.inr ⟨(xI_ne (Y := 2) rfl rfl c_5), (Or.inr ⟨(xI_ne (Y := 3) rfl rfl c_7), (Or.inr ⟨(xI_ne (Y := 4) rfl rfl c_13), (Or.inr ⟨(xI_ne (Y := 5) rfl rfl c_15), (Or.inr ⟨(xI_ne (Y := 6) rfl rfl c_17), (Or.inr ⟨(xI_ne (Y := 7) rfl rfl c_19), (Or.inr ⟨(xI_ne (Y := 8) rfl rfl c_21), (Or.inr ⟨(xI_ne (Y := 9) rfl rfl c_23), (Or.inr ⟨(xI_ne (Y := 10) rfl rfl c_25), (Or.inr ⟨(xI_ne (Y := 11) rfl rfl c_27), (Or.inl ⟨c_29, ⟨rfl, rfl⟩⟩)⟩)⟩)⟩)⟩)⟩)⟩)⟩)⟩)⟩)⟩)⟩)⟩)⟩), wd_t ht hW⟩, hS.F ht⟩) hS.2.2 dX11_about_182
  by_cases c_31 : p0 = 13
  · refine lv_tableIn (tgt := 183) hx hb dX11_about_1 (by rw [c_31]; decide) (by rw [c_31]; decide) (off := 182) (by rw [c_31]; decide) (by decide) ?_
    have c_31 : p0.toInt = 13 := xI_eq rfl rfl c_31
    refine lv_aload_n hx hb dX11_about_183 rfl (lv_at hl 0 rfl) ?_
    have b_32 : 0 ≤ (G.1 0 12).toInt ∧ (G.1 0 12).toInt ≤ 400 := bd_0_12 hB_G
    refine S_getI (v := (G.1 0 12)) (C := RX11) (T := TX11) (N := 13) hx hb hg iX11 hown hK hW kd_0 rfl 12 (lt_b rfl) (hg (Cond.fieldLink RX11 150 "SlabWalk" "lie" "I") m582) (fun _ h9 => h9) rfl rfl dX11_about_184 ?_
    exact W.iret (v := (G.1 0 12)) hx hb hr (fun t ht _ => ⟨⟨(G.1 0 12), G, rfl, (P_Wabout_1_mk ⟨hB_G, hF, (Or.inr ⟨(xI_ne (Y := 0) rfl rfl c_1), (Or.inr ⟨(xI_ne (Y := 1) rfl rfl c_3), (Or.inr ⟨(xI_ne (Y := 2) rfl rfl c_5), (Or.inr ⟨(xI_ne (Y := 3) rfl rfl c_7), (Or.inr ⟨(xI_ne (Y := 4) rfl rfl c_13), (Or.inr ⟨(xI_ne (Y := 5) rfl rfl c_15), (Or.inr ⟨(xI_ne (Y := 6) rfl rfl c_17), (Or.inr ⟨(xI_ne (Y := 7) rfl rfl c_19), (Or.inr ⟨(xI_ne (Y := 8) rfl rfl c_21), (Or.inr ⟨(xI_ne (Y := 9) rfl rfl c_23), (Or.inr ⟨(xI_ne (Y := 10) rfl rfl c_25), (Or.inr ⟨(xI_ne (Y := 11) rfl rfl c_27), (Or.inr ⟨(xI_ne (Y := 12) rfl rfl c_29), (Or.inl ⟨c_31, ⟨rfl, rfl⟩⟩)⟩)⟩)⟩)⟩)⟩)⟩)⟩)⟩)⟩)⟩)⟩)⟩)⟩)⟩), wd_t ht hW⟩, hS.F ht⟩) hS.2.2 dX11_about_187
  by_cases c_33 : p0 = 14
  · refine lv_tableIn (tgt := 188) hx hb dX11_about_1 (by rw [c_33]; decide) (by rw [c_33]; decide) (off := 187) (by rw [c_33]; decide) (by decide) ?_
    have c_33 : p0.toInt = 14 := xI_eq rfl rfl c_33
    refine lv_aload_n hx hb dX11_about_188 rfl (lv_at hl 0 rfl) ?_
    refine S_getV (n := 1) (C := RX11) (T := TX11) (N := 13) hx hb hg iX11 hown hK hW kd_0 rfl 0 (lt_b rfl) (hg (Cond.fieldLink RX11 10 "SlabWalk" "paving" "LSlabWalk$Paving;") m570) (fun _ h9 => h9) rfl hv_0_0 dX11_about_189 ?_
    refine S_calli (va_runV (As := []) (rest := []) ⟨hx, hb, hml, hown, hts⟩ (k_allSlips_1 l D k A a z G  ) (cwV 0 hts (gd_V hgd m1307 m1199 m1200 m118 m1201) rfl rfl rfl hd_X6_allSlips ⟨Nat.le_of_ble_eq_true rfl, Nat.le_of_ble_eq_true rfl⟩) (pre_W hW hB_G hK hZ hS kd_1 rfl) rfl rfl hl.1 rfl (lv_room (Nat.le_of_ble_eq_true rfl)) dX11_about_192 ⟨Nat.le_of_ble_eq_true rfl, Nat.le_of_ble_eq_true rfl⟩) hS (fun r_34 G_35 H locs hpo hW hS => ?_)
    have hX_38 : P_allSlips_1 G r_34 G_35 := hpo
    obtain ⟨hB_G_35, hq_36, f_39, -⟩ := hpo
    have hF := hF.call9 hq_36 rfl rfl
    exact W.iret (v := r_34) hx hb hr (fun t ht _ => ⟨⟨r_34, G_35, rfl, (P_Wabout_1_mk ⟨hB_G_35, hF, (Or.inr ⟨(xI_ne (Y := 0) rfl rfl c_1), (Or.inr ⟨(xI_ne (Y := 1) rfl rfl c_3), (Or.inr ⟨(xI_ne (Y := 2) rfl rfl c_5), (Or.inr ⟨(xI_ne (Y := 3) rfl rfl c_7), (Or.inr ⟨(xI_ne (Y := 4) rfl rfl c_13), (Or.inr ⟨(xI_ne (Y := 5) rfl rfl c_15), (Or.inr ⟨(xI_ne (Y := 6) rfl rfl c_17), (Or.inr ⟨(xI_ne (Y := 7) rfl rfl c_19), (Or.inr ⟨(xI_ne (Y := 8) rfl rfl c_21), (Or.inr ⟨(xI_ne (Y := 9) rfl rfl c_23), (Or.inr ⟨(xI_ne (Y := 10) rfl rfl c_25), (Or.inr ⟨(xI_ne (Y := 11) rfl rfl c_27), (Or.inr ⟨(xI_ne (Y := 12) rfl rfl c_29), (Or.inr ⟨(xI_ne (Y := 13) rfl rfl c_31), (Or.inl ⟨c_33, ⟨r_34, G_35, hX_38, ⟨rfl, rfl⟩⟩⟩)⟩)⟩)⟩)⟩)⟩)⟩)⟩)⟩)⟩)⟩)⟩)⟩)⟩)⟩)⟩), wd_t ht hW⟩, hS.F ht⟩) hS.2.2 dX11_about_195
  refine lv_tableOut (tgt := 196) hx hb dX11_about_1 (tb_out (lo := 0) (hi := 14) (by have c_1 := xI_ne (Y := 0) rfl rfl c_1; have c_3 := xI_ne (Y := 1) rfl rfl c_3; have c_5 := xI_ne (Y := 2) rfl rfl c_5; have c_7 := xI_ne (Y := 3) rfl rfl c_7; have c_13 := xI_ne (Y := 4) rfl rfl c_13; have c_15 := xI_ne (Y := 5) rfl rfl c_15; have c_17 := xI_ne (Y := 6) rfl rfl c_17; have c_19 := xI_ne (Y := 7) rfl rfl c_19; have c_21 := xI_ne (Y := 8) rfl rfl c_21; have c_23 := xI_ne (Y := 9) rfl rfl c_23; have c_25 := xI_ne (Y := 10) rfl rfl c_25; have c_27 := xI_ne (Y := 11) rfl rfl c_27; have c_29 := xI_ne (Y := 12) rfl rfl c_29; have c_31 := xI_ne (Y := 13) rfl rfl c_31; have c_33 := xI_ne (Y := 14) rfl rfl c_33; omega)) (by decide) ?_
  have c_1 := xI_ne (Y := 0) rfl rfl c_1
  have c_3 := xI_ne (Y := 1) rfl rfl c_3
  have c_5 := xI_ne (Y := 2) rfl rfl c_5
  have c_7 := xI_ne (Y := 3) rfl rfl c_7
  have c_13 := xI_ne (Y := 4) rfl rfl c_13
  have c_15 := xI_ne (Y := 5) rfl rfl c_15
  have c_17 := xI_ne (Y := 6) rfl rfl c_17
  have c_19 := xI_ne (Y := 7) rfl rfl c_19
  have c_21 := xI_ne (Y := 8) rfl rfl c_21
  have c_23 := xI_ne (Y := 9) rfl rfl c_23
  have c_25 := xI_ne (Y := 10) rfl rfl c_25
  have c_27 := xI_ne (Y := 11) rfl rfl c_27
  have c_29 := xI_ne (Y := 12) rfl rfl c_29
  have c_31 := xI_ne (Y := 13) rfl rfl c_31
  have c_33 := xI_ne (Y := 14) rfl rfl c_33
  refine ic_m1 hx hb dX11_about_196 ?_
  exact W.iret (v := (-1)) hx hb hr (fun t ht _ => ⟨⟨(-1), G, rfl, (P_Wabout_1_mk ⟨hB_G, hF, (Or.inr ⟨c_1, (Or.inr ⟨c_3, (Or.inr ⟨c_5, (Or.inr ⟨c_7, (Or.inr ⟨c_13, (Or.inr ⟨c_15, (Or.inr ⟨c_17, (Or.inr ⟨c_19, (Or.inr ⟨c_21, (Or.inr ⟨c_23, (Or.inr ⟨c_25, (Or.inr ⟨c_27, (Or.inr ⟨c_29, (Or.inr ⟨c_31, (Or.inr ⟨c_33, ⟨rfl, rfl⟩⟩)⟩)⟩)⟩)⟩)⟩)⟩)⟩)⟩)⟩)⟩)⟩)⟩)⟩)⟩)⟩), wd_t ht hW⟩, hS.F ht⟩) hS.2.2 dX11_about_197

set_option maxHeartbeats 4000000 in
set_option maxRecDepth 100000 in
theorem k_Wforce_1 (l : Launch) (D : va_G) (k : KT) (A : Nat → Prop) (a : Nat → Nat) (z : SK) (G : GS) (p0 : Int32) (hv_0_0 : G.2.2 0 0 = 1) (hv_0_1 : G.2.2 0 1 = 2) (hv_6_4 : G.2.2 6 4 = 1) (he : (G.1 30 4).toInt + (G.1 30 5).toInt ≤ 40) : Met l yX11_force (WS yX11_force cX11_force 2 (some .int)) ({ frames := 2, cells := 0, slots := 0, locals := 60 }) (va_Pc [.ref (a 0), .int p0] (cW D k A a z G)) (va_Qi (fun (r : Int32) (G1 : GS) => P_Wforce_1 p0 G r G1) (fun (G1 : GS) t => Wd D k A a G1 t.heap) A) 0 0 A := by
  refine Met.ofW (cc := cX11_force) (maxL := 2) (ret := (some .int)) (by decide) rfl ?_
  intro p e s m args below meth c s₁ B hml hv
  obtain ⟨rfl, hW, hB_G, hK, hZ⟩ := hv
  have hx := B.exec
  have hb := B.bytes
  have hr := B.returns
  have hts := atoms_spec (ws := WS yX11_force cX11_force 2 (some .int)) B.pre
  have hgd : ∀ w ∈ gd, w ∈ WS yX11_force cX11_force 2 (some .int) := fun w h => List.mem_cons_of_mem _ h
  have hg : ∀ w ∈ gd, w.before _ s = true := fun w h => hts w (hgd w h)
  have hown : s.vm.findClass RX11 = some m.cls := findClass_of_methodNamed B.named
  have hS : va_S A s.heap s.heap [] := va_S.rf
  have hF : Fr [58, 59] [(30, 4), (30, 5)] G G := Fr.rf
  have hl := lv_entry ([.ref (a 0), .int p0]) (n := 2) (Nat.le_of_ble_eq_true rfl)
  rw [lg_entry_eq]
  generalize (lg_sl ([.ref (a 0), .int p0]) ++ List.replicate (2 - (lg_sl ([.ref (a 0), .int p0])).length) Slot.unset).toArray = ls at hl ⊢
  have hl : lv_has ls 2 [(0, .ref (a 0)), (1, .int p0)] := hl
  refine lv_aload_n hx hb dX11_force_0 rfl (lv_at hl 0 rfl) ?_
  refine S_getV (n := 1) (C := RX11) (T := TX11) (N := 13) hx hb hg iX11 hown hK hW kd_0 rfl 0 (lt_b rfl) (hg (Cond.fieldLink RX11 10 "SlabWalk" "paving" "LSlabWalk$Paving;") m570) (fun _ h9 => h9) rfl hv_0_0 dX11_force_1 ?_
  refine lv_iload_n hx hb dX11_force_4 rfl (lv_at hl 1 rfl) ?_
  refine S_calli (va_runV (As := [.int p0]) (rest := []) ⟨hx, hb, hml, hown, hts⟩ (k_hasRule_1 l D k A a z G p0 ) (cwV 1 hts (gd_V hgd m1206 m1207 m1208 m118 m1209) rfl rfl rfl hd_X6_hasRule ⟨Nat.le_of_ble_eq_true rfl, Nat.le_of_ble_eq_true rfl⟩) (pre_W hW hB_G hK hZ hS kd_1 rfl) rfl rfl hl.1 rfl (lv_room (Nat.le_of_ble_eq_true rfl)) dX11_force_5 ⟨Nat.le_of_ble_eq_true rfl, Nat.le_of_ble_eq_true rfl⟩) hS (fun r_1 G_2 H locs hpo hW hS => ?_)
  have hX_5 : P_hasRule_1 p0 G r_1 G_2 := hpo
  obtain ⟨hB_G_2, hq_3, f_6, hp_4, -⟩ := hpo
  have hF := hF.call9 hq_3 rfl rfl
  refine lv_if_ne (tgt := 13) hx hb dX11_force_8 rfl (fun c_7 => ?_) (fun c_7 => ?_)
  · have c_7 : r_1.toInt ≠ 0 := xI_ne rfl rfl c_7
    refine lv_aload_n hx hb dX11_force_13 rfl (lv_at hl 0 rfl) ?_
    refine S_getR (n := 30) (C := RX11) (T := TX11) (N := 13) hx hb hg iX11 hown hK hW kd_0 rfl 8 (lt_b rfl) (hg (Cond.fieldLink RX11 65 "SlabWalk" "earnest" "LSlabWalk$Earnest;") m578) (fun _ h9 => h9) rfl dX11_force_14 ?_
    refine S_getR (n := 58) (C := RX1) (T := TX1) (N := 6) hx hb hg iX1 hown hK hW kd_30 rfl 0 (lt_b rfl) (hg (Cond.fieldLink RX11 246 "SlabWalk$Earnest" "now" "[I") m493) (fun _ h9 => h9) rfl dX11_force_17 ?_
    refine lv_bipush (v := 8) hx hb dX11_force_20 (by decide) ?_
    refine lv_dup2_11 hx hb dX11_force_22 rfl rfl ?_
    refine S_iald hx hb hK hW kd_58 (vin (by decide) (by decide)) dX11_force_23 (fun y_8 ey_8 => ?_)
    refine ic_1 hx hb dX11_force_24 ?_
    refine lv_iload_n hx hb dX11_force_25 rfl (lv_at hl 1 rfl) ?_
    refine lv_ishl hx hb dX11_force_26 ?_
    refine lv_topi (fun y_9 ey_9 => ?_)
    have ty_9 := sh5 (Y := p0.toInt) rfl ey_9 rfl (by omega) (by omega)
    refine lv_ixor hx hb dX11_force_27 ?_
    refine lv_topi (fun y_10 ey_10 => ?_)
    refine S_iast hx hb hK hW hS kd_58 (vin (by decide) (by decide)) dX11_force_28 (fun G_11 H locs eG_11 hW hS => ?_)
    have hB_G_11 : Bd G_11 := hB_G_2.put (lo := (-2147483648)) (hi := 2147483647) eG_11 rfl rfl rfl (tI_rng _).1 (tI_rng _).2 (hB_G_2.2.put eG_11 rfl)
    have hF := hF.put eG_11 (Or.inl (by decide))
    refine lv_aload_n hx hb dX11_force_29 rfl (lv_at hl 0 rfl) ?_
    refine S_getR (n := 30) (C := RX11) (T := TX11) (N := 13) hx hb hg iX11 hown hK hW kd_0 rfl 8 (lt_b rfl) (hg (Cond.fieldLink RX11 65 "SlabWalk" "earnest" "LSlabWalk$Earnest;") m578) (fun _ h9 => h9) rfl dX11_force_30 ?_
    refine S_callv (va_runV (As := []) (rest := []) ⟨hx, hb, hml, hown, hts⟩ (k_eKeep l D k A a z G_11  ) (cwV 0 hts (gd_V hgd m1178 m1179 m1180 m127 m1181) rfl rfl rfl hd_X1_keepAct ⟨Nat.le_of_ble_eq_true rfl, Nat.le_of_ble_eq_true rfl⟩) (pre_W hW hB_G_11 hK hZ hS kd_30 rfl) rfl rfl hl.1 rfl (lv_room (Nat.le_of_ble_eq_true rfl)) dX11_force_33 ⟨Nat.le_of_ble_eq_true rfl, Nat.le_of_ble_eq_true rfl⟩) hS (fun G_13 H locs hpo hW hS => ?_)
    have hX_16 : P_eKeep G_11 G_13 := hpo
    obtain ⟨hB_G_13, hq_14, hp_15, -⟩ := hpo
    have hF := hF.call9 hq_14 rfl rfl
    refine lv_aload_n hx hb dX11_force_36 rfl (lv_at hl 0 rfl) ?_
    refine S_getR (n := 30) (C := RX11) (T := TX11) (N := 13) hx hb hg iX11 hown hK hW kd_0 rfl 8 (lt_b rfl) (hg (Cond.fieldLink RX11 65 "SlabWalk" "earnest" "LSlabWalk$Earnest;") m578) (fun _ h9 => h9) rfl dX11_force_37 ?_
    refine S_getR (n := 58) (C := RX1) (T := TX1) (N := 6) hx hb hg iX1 hown hK hW kd_30 rfl 0 (lt_b rfl) (hg (Cond.fieldLink RX11 246 "SlabWalk$Earnest" "now" "[I") m493) (fun _ h9 => h9) rfl dX11_force_40 ?_
    refine lv_bipush (v := 8) hx hb dX11_force_43 (by decide) ?_
    refine S_iald hx hb hK hW kd_58 (vin (by decide) (by decide)) dX11_force_45 (fun y_17 ey_17 => ?_)
    refine lv_iload_n hx hb dX11_force_46 rfl (lv_at hl 1 rfl) ?_
    refine lv_ishr hx hb dX11_force_47 ?_
    refine lv_topi (fun y_18 ey_18 => ?_)
    refine ic_1 hx hb dX11_force_48 ?_
    refine lv_iand hx hb dX11_force_49 ?_
    refine lv_topi (fun y_19 ey_19 => ?_)
    have ty_19 := xI_and (Y := 1) rfl ey_19 (by decide)
    have b_20 : 0 ≤ (G_13.1 30 4).toInt ∧ (G_13.1 30 4).toInt ≤ 40 := bd_30_4 hB_G_13
    have b_21 : 0 ≤ (G_13.1 30 5).toInt ∧ (G_13.1 30 5).toInt ≤ 40 := bd_30_5 hB_G_13
    exact W.iret (v := y_19) hx hb hr (fun t ht _ => ⟨⟨y_19, G_13, rfl, (P_Wforce_1_mk ⟨hB_G_13, hF, ((by first | (clear he f_6 hp_4 c_7; omega) | omega)), ⟨r_1, G_2, hX_5, (Or.inr ⟨c_7, ⟨y_8, ey_8, ⟨y_9, ey_9, ⟨y_10, ey_10, ⟨G_11, hB_G_11, (Fr.put (rs := [58]) (fs := []) Fr.rf eG_11 (Or.inl (by decide))), rw_ast eG_11, ⟨G_13, hX_16, ⟨y_17, ey_17, ⟨y_18, ey_18, ⟨y_19, ey_19, ⟨rfl, rfl⟩⟩⟩⟩⟩⟩⟩⟩⟩⟩)⟩⟩), wd_t ht hW⟩, hS.F ht⟩) hS.2.2 dX11_force_50
  · have c_7 : r_1.toInt = 0 := xI_eq rfl rfl c_7
    refine ic_m1 hx hb dX11_force_11 ?_
    have b_22 : 0 ≤ (G.1 30 4).toInt ∧ (G.1 30 4).toInt ≤ 40 := bd_30_4 hB_G
    have g_23 : (G_2.1 30 4).toInt = (G.1 30 4).toInt := (congrArg Int32.toInt (show G_2.1 30 4 = (G.1 30 4) from (hq_3.i9 30 4 rfl rfl)))
    have b_24 : 0 ≤ (G.1 30 5).toInt ∧ (G.1 30 5).toInt ≤ 40 := bd_30_5 hB_G
    have g_25 : (G_2.1 30 5).toInt = (G.1 30 5).toInt := (congrArg Int32.toInt (show G_2.1 30 5 = (G.1 30 5) from (hq_3.i9 30 5 rfl rfl)))
    exact W.iret (v := (-1)) hx hb hr (fun t ht _ => ⟨⟨(-1), G_2, rfl, (P_Wforce_1_mk ⟨hB_G_2, hF, (by have hq : ((-1) : Int32).toInt = (-1) := rfl; (try dsimp only); omega), ⟨r_1, G_2, hX_5, (Or.inl ⟨c_7, ⟨rfl, rfl⟩⟩)⟩⟩), wd_t ht hW⟩, hS.F ht⟩) hS.2.2 dX11_force_12

set_option maxHeartbeats 4000000 in
set_option maxRecDepth 100000 in
theorem k_Wsight_1 (l : Launch) (D : va_G) (k : KT) (A : Nat → Prop) (a : Nat → Nat) (z : SK) (G : GS) (p0 : Int32) (p1 : Int32) (p2 : Int32) (hv_0_0 : G.2.2 0 0 = 1) (hv_0_1 : G.2.2 0 1 = 2) (hv_6_4 : G.2.2 6 4 = 1) : Met l yX11_sight (WS yX11_sight cX11_sight 4 (some .int)) ({ frames := 2, cells := 0, slots := 0, locals := 44 }) (va_Pc [.ref (a 0), .int p0, .int p1, .int p2] (cW D k A a z G)) (va_Qi (fun (r : Int32) (G1 : GS) => P_Wsight_1 p0 p1 p2 G r G1) (fun (G1 : GS) t => Wd D k A a G1 t.heap) A) 0 0 A := by
  refine Met.ofW (cc := cX11_sight) (maxL := 4) (ret := (some .int)) (by decide) rfl ?_
  intro p e s m args below meth c s₁ B hml hv
  obtain ⟨rfl, hW, hB_G, hK, hZ⟩ := hv
  have hx := B.exec
  have hb := B.bytes
  have hr := B.returns
  have hts := atoms_spec (ws := WS yX11_sight cX11_sight 4 (some .int)) B.pre
  have hgd : ∀ w ∈ gd, w ∈ WS yX11_sight cX11_sight 4 (some .int) := fun w h => List.mem_cons_of_mem _ h
  have hg : ∀ w ∈ gd, w.before _ s = true := fun w h => hts w (hgd w h)
  have hown : s.vm.findClass RX11 = some m.cls := findClass_of_methodNamed B.named
  have hS : va_S A s.heap s.heap [] := va_S.rf
  have hF : Fr [61, 62, 63, 64, 65] [(31, 5)] G G := Fr.rf
  have hl := lv_entry ([.ref (a 0), .int p0, .int p1, .int p2]) (n := 4) (Nat.le_of_ble_eq_true rfl)
  rw [lg_entry_eq]
  generalize (lg_sl ([.ref (a 0), .int p0, .int p1, .int p2]) ++ List.replicate (4 - (lg_sl ([.ref (a 0), .int p0, .int p1, .int p2])).length) Slot.unset).toArray = ls at hl ⊢
  have hl : lv_has ls 4 [(0, .ref (a 0)), (1, .int p0), (2, .int p1), (3, .int p2)] := hl
  refine lv_aload_n hx hb dX11_sight_0 rfl (lv_at hl 0 rfl) ?_
  refine S_getV (n := 1) (C := RX11) (T := TX11) (N := 13) hx hb hg iX11 hown hK hW kd_0 rfl 0 (lt_b rfl) (hg (Cond.fieldLink RX11 10 "SlabWalk" "paving" "LSlabWalk$Paving;") m570) (fun _ h9 => h9) rfl hv_0_0 dX11_sight_1 ?_
  refine lv_iload_n hx hb dX11_sight_4 rfl (lv_at hl 1 rfl) ?_
  refine lv_iload_n hx hb dX11_sight_5 rfl (lv_at hl 2 rfl) ?_
  refine lv_iload_n hx hb dX11_sight_6 rfl (lv_at hl 3 rfl) ?_
  refine S_calli (va_runV (As := [.int p0, .int p1, .int p2]) (rest := []) ⟨hx, hb, hml, hown, hts⟩ (k_stands_1 l D k A a z G p0 p1 p2 ) (cwV 3 hts (gd_V hgd m1121 m966 m967 m118 m968) rfl rfl rfl hd_X6_stands ⟨Nat.le_of_ble_eq_true rfl, Nat.le_of_ble_eq_true rfl⟩) (pre_W hW hB_G hK hZ hS kd_1 rfl) rfl rfl hl.1 rfl (lv_room (Nat.le_of_ble_eq_true rfl)) dX11_sight_7 ⟨Nat.le_of_ble_eq_true rfl, Nat.le_of_ble_eq_true rfl⟩) hS (fun r_1 G_2 H locs hpo hW hS => ?_)
  have hX_5 : P_stands_1 p0 p1 p2 G r_1 G_2 := hpo
  obtain ⟨hB_G_2, hq_3, f_6, hp_4, -⟩ := hpo
  have hF := hF.call9 hq_3 rfl rfl
  refine lv_if_eq (tgt := 26) hx hb dX11_sight_10 rfl (fun c_7 => ?_) (fun c_7 => ?_)
  · have c_7 : r_1.toInt = 0 := xI_eq rfl rfl c_7
    refine ic_m1 hx hb dX11_sight_26 ?_
    exact W.iret (v := (-1)) hx hb hr (fun t ht _ => ⟨⟨(-1), G_2, rfl, (P_Wsight_1_mk ⟨hB_G_2, hF, ⟨r_1, G_2, hX_5, (Or.inl ⟨c_7, ⟨rfl, rfl⟩⟩)⟩⟩), wd_t ht hW⟩, hS.F ht⟩) hS.2.2 dX11_sight_27
  · have c_7 : r_1.toInt ≠ 0 := xI_ne rfl rfl c_7
    refine lv_aload_n hx hb dX11_sight_13 rfl (lv_at hl 0 rfl) ?_
    refine S_getR (n := 31) (C := RX11) (T := TX11) (N := 13) hx hb hg iX11 hown hK hW kd_0 rfl 9 (lt_b rfl) (hg (Cond.fieldLink RX11 72 "SlabWalk" "sights" "LSlabWalk$Sights;") m579) (fun _ h9 => h9) rfl dX11_sight_14 ?_
    refine lv_iload_n hx hb dX11_sight_17 rfl (lv_at hl 1 rfl) ?_
    refine lv_iload_n hx hb dX11_sight_18 rfl (lv_at hl 2 rfl) ?_
    refine lv_iload_n hx hb dX11_sight_19 rfl (lv_at hl 3 rfl) ?_
    refine S_calli (va_runV (As := [.int p0, .int p1, .int p2]) (rest := []) ⟨hx, hb, hml, hown, hts⟩ (k_sTell l D k A a z G_2 p0 p1 p2 ) (cwV 3 hts (gd_V hgd m1246 m1247 m1248 m128 m1249) rfl rfl rfl hd_X8_tell ⟨Nat.le_of_ble_eq_true rfl, Nat.le_of_ble_eq_true rfl⟩) (pre_W hW hB_G_2 hK hZ hS kd_31 rfl) rfl rfl hl.1 rfl (lv_room (Nat.le_of_ble_eq_true rfl)) dX11_sight_20 ⟨Nat.le_of_ble_eq_true rfl, Nat.le_of_ble_eq_true rfl⟩) hS (fun r_8 G_9 H locs hpo hW hS => ?_)
    have hX_12 : P_sTell p0 p1 p2 G_2 r_8 G_9 := hpo
    obtain ⟨hB_G_9, hq_10, -⟩ := hpo
    have hF := hF.call9 hq_10 rfl rfl
    refine lv_goto (tgt := 27) hx hb dX11_sight_23 rfl ?_
    exact W.iret (v := r_8) hx hb hr (fun t ht _ => ⟨⟨r_8, G_9, rfl, (P_Wsight_1_mk ⟨hB_G_9, hF, ⟨r_1, G_2, hX_5, (Or.inr ⟨c_7, ⟨r_8, G_9, hX_12, ⟨rfl, rfl⟩⟩⟩)⟩⟩), wd_t ht hW⟩, hS.F ht⟩) hS.2.2 dX11_sight_27

set_option maxHeartbeats 4000000 in
set_option maxRecDepth 100000 in
theorem k_Wwalk_1 (l : Launch) (D : va_G) (k : KT) (A : Nat → Prop) (a : Nat → Nat) (z : SK) (G : GS) (p0 : Int32) (p1 : Int32) (p2 : Int32) (hv_0_0 : G.2.2 0 0 = 1) (hv_0_1 : G.2.2 0 1 = 2) (hv_6_4 : G.2.2 6 4 = 1) (he : (G.1 30 4).toInt + (G.1 30 5).toInt ≤ 40) : Met l yX11_walk (WS yX11_walk cX11_walk 4 (some .int)) ({ frames := 5, cells := 0, slots := 0, locals := 118 }) (va_Pc [.ref (a 0), .int p0, .int p1, .int p2] (cW D k A a z G)) (va_Qi (fun (r : Int32) (G1 : GS) => P_Wwalk_1 p0 p1 p2 G r G1) (fun (G1 : GS) t => Wd D k A a G1 t.heap) A) 0 0 A := by
  refine Met.ofW (cc := cX11_walk) (maxL := 4) (ret := (some .int)) (by decide) rfl ?_
  intro p e s m args below meth c s₁ B hml hv
  obtain ⟨rfl, hW, hB_G, hK, hZ⟩ := hv
  have hx := B.exec
  have hb := B.bytes
  have hr := B.returns
  have hts := atoms_spec (ws := WS yX11_walk cX11_walk 4 (some .int)) B.pre
  have hgd : ∀ w ∈ gd, w ∈ WS yX11_walk cX11_walk 4 (some .int) := fun w h => List.mem_cons_of_mem _ h
  have hg : ∀ w ∈ gd, w.before _ s = true := fun w h => hts w (hgd w h)
  have hown : s.vm.findClass RX11 = some m.cls := findClass_of_methodNamed B.named
  have hS : va_S A s.heap s.heap [] := va_S.rf
  have hF : Fr [37, 38, 39, 58, 59] [(6, 3), (30, 4), (30, 5)] G G := Fr.rf
  have hl := lv_entry ([.ref (a 0), .int p0, .int p1, .int p2]) (n := 4) (Nat.le_of_ble_eq_true rfl)
  rw [lg_entry_eq]
  generalize (lg_sl ([.ref (a 0), .int p0, .int p1, .int p2]) ++ List.replicate (4 - (lg_sl ([.ref (a 0), .int p0, .int p1, .int p2])).length) Slot.unset).toArray = ls at hl ⊢
  have hl : lv_has ls 4 [(0, .ref (a 0)), (1, .int p0), (2, .int p1), (3, .int p2)] := hl
  refine lv_aload_n hx hb dX11_walk_0 rfl (lv_at hl 0 rfl) ?_
  refine S_getV (n := 1) (C := RX11) (T := TX11) (N := 13) hx hb hg iX11 hown hK hW kd_0 rfl 0 (lt_b rfl) (hg (Cond.fieldLink RX11 10 "SlabWalk" "paving" "LSlabWalk$Paving;") m570) (fun _ h9 => h9) rfl hv_0_0 dX11_walk_1 ?_
  refine lv_iload_n hx hb dX11_walk_4 rfl (lv_at hl 1 rfl) ?_
  refine lv_iload_n hx hb dX11_walk_5 rfl (lv_at hl 2 rfl) ?_
  refine lv_iload_n hx hb dX11_walk_6 rfl (lv_at hl 3 rfl) ?_
  refine S_calli (va_runV (As := [.int p0, .int p1, .int p2]) (rest := []) ⟨hx, hb, hml, hown, hts⟩ (k_stands_1 l D k A a z G p0 p1 p2 ) (cwV 3 hts (gd_V hgd m1121 m966 m967 m118 m968) rfl rfl rfl hd_X6_stands ⟨Nat.le_of_ble_eq_true rfl, Nat.le_of_ble_eq_true rfl⟩) (pre_W hW hB_G hK hZ hS kd_1 rfl) rfl rfl hl.1 rfl (lv_room (Nat.le_of_ble_eq_true rfl)) dX11_walk_7 ⟨Nat.le_of_ble_eq_true rfl, Nat.le_of_ble_eq_true rfl⟩) hS (fun r_1 G_2 H locs hpo hW hS => ?_)
  have hX_5 : P_stands_1 p0 p1 p2 G r_1 G_2 := hpo
  obtain ⟨hB_G_2, hq_3, f_6, hp_4, -⟩ := hpo
  have hF := hF.call9 hq_3 rfl rfl
  refine lv_if_eq (tgt := 26) hx hb dX11_walk_10 rfl (fun c_7 => ?_) (fun c_7 => ?_)
  · have c_7 : r_1.toInt = 0 := xI_eq rfl rfl c_7
    refine ic_m1 hx hb dX11_walk_26 ?_
    have b_8 : 0 ≤ (G.1 30 4).toInt ∧ (G.1 30 4).toInt ≤ 40 := bd_30_4 hB_G
    have g_9 : (G_2.1 30 4).toInt = (G.1 30 4).toInt := (congrArg Int32.toInt (show G_2.1 30 4 = (G.1 30 4) from (hq_3.i9 30 4 rfl rfl)))
    have b_10 : 0 ≤ (G.1 30 5).toInt ∧ (G.1 30 5).toInt ≤ 40 := bd_30_5 hB_G
    have g_11 : (G_2.1 30 5).toInt = (G.1 30 5).toInt := (congrArg Int32.toInt (show G_2.1 30 5 = (G.1 30 5) from (hq_3.i9 30 5 rfl rfl)))
    exact W.iret (v := (-1)) hx hb hr (fun t ht _ => ⟨⟨(-1), G_2, rfl, (P_Wwalk_1_mk ⟨hB_G_2, hF, (by have hq : ((-1) : Int32).toInt = (-1) := rfl; (try dsimp only); omega), ⟨r_1, G_2, hX_5, (Or.inl ⟨c_7, ⟨rfl, rfl⟩⟩)⟩⟩), wd_t ht hW⟩, hS.F ht⟩) hS.2.2 dX11_walk_27
  · have c_7 : r_1.toInt ≠ 0 := xI_ne rfl rfl c_7
    refine lv_iload_n hx hb dX11_walk_13 rfl (lv_at hl 3 rfl) ?_
    refine lv_aload_n hx hb dX11_walk_14 rfl (lv_at hl 0 rfl) ?_
    refine S_getV (n := 1) (C := RX11) (T := TX11) (N := 13) hx hb hg iX11 hown hK hW kd_0 rfl 0 (lt_b rfl) (hg (Cond.fieldLink RX11 10 "SlabWalk" "paving" "LSlabWalk$Paving;") m570) (fun _ h9 => h9) rfl (((hq_3.r9 0 0 rfl rfl)).trans (hv_0_0)) dX11_walk_15 ?_
    refine S_getR (n := 14) (C := RX6) (T := TX6) (N := 17) hx hb hg iX6 hown hK hW kd_1 rfl 4 (lt_b rfl) (hg (Cond.fieldLink RX11 237 "SlabWalk$Paving" "most" "[I") m173) (fun _ h9 => h9) rfl dX11_walk_18 ?_
    refine lv_iload_n hx hb dX11_walk_21 rfl (lv_at hl 1 rfl) ?_
    refine S_iald hx hb hK hW kd_14 (vin (by omega) (by omega)) dX11_walk_22 (fun y_12 ey_12 => ?_)
    have ty_12 : 0 ≤ y_12.toInt ∧ y_12.toInt ≤ 60 := bv_14 hB_G_2 ey_12
    refine lv_icmp_lt (tgt := 28) hx hb dX11_walk_23 rfl (fun c_13 => ?_) (fun c_13 => ?_)
    · have c_13 : p2.toInt < y_12.toInt := xI_lt rfl rfl c_13
      refine lv_aload_n hx hb dX11_walk_28 rfl (lv_at hl 0 rfl) ?_
      refine S_getR (n := 30) (C := RX11) (T := TX11) (N := 13) hx hb hg iX11 hown hK hW kd_0 rfl 8 (lt_b rfl) (hg (Cond.fieldLink RX11 65 "SlabWalk" "earnest" "LSlabWalk$Earnest;") m578) (fun _ h9 => h9) rfl dX11_walk_29 ?_
      refine lv_iload_n hx hb dX11_walk_32 rfl (lv_at hl 1 rfl) ?_
      refine lv_iload_n hx hb dX11_walk_33 rfl (lv_at hl 2 rfl) ?_
      refine lv_iload_n hx hb dX11_walk_34 rfl (lv_at hl 3 rfl) ?_
      refine S_callv (va_runV (As := [.int p0, .int p1, .int p2]) (rest := []) ⟨hx, hb, hml, hown, hts⟩ (k_eSetOut l D k A a z G_2 p0 p1 p2 ) (cwV 3 hts (gd_V hgd m1170 m1171 m1172 m127 m1173) rfl rfl rfl hd_X1_setOut ⟨Nat.le_of_ble_eq_true rfl, Nat.le_of_ble_eq_true rfl⟩) (pre_W hW hB_G_2 hK hZ hS kd_30 rfl) rfl rfl hl.1 rfl (lv_room (Nat.le_of_ble_eq_true rfl)) dX11_walk_35 ⟨Nat.le_of_ble_eq_true rfl, Nat.le_of_ble_eq_true rfl⟩) hS (fun G_15 H locs hpo hW hS => ?_)
      have hX_18 : P_eSetOut p0 p1 p2 G_2 G_15 := hpo
      obtain ⟨hB_G_15, hq_16, -⟩ := hpo
      have hF := hF.call9 hq_16 rfl rfl
      refine lv_aload_n hx hb dX11_walk_38 rfl (lv_at hl 0 rfl) ?_
      refine S_calli (va_runV (As := []) (rest := []) ⟨hx, hb, hml, hown, hts⟩ (k_wLawful_1 l D k A a z G_15  ((((hq_16.r9 0 0 rfl rfl).trans (hq_3.r9 0 0 rfl rfl))).trans (hv_0_0)) ((((hq_16.r9 0 1 rfl rfl).trans (hq_3.r9 0 1 rfl rfl))).trans (hv_0_1)) ((((hq_16.r9 6 4 rfl rfl).trans (hq_3.r9 6 4 rfl rfl))).trans (hv_6_4))) (cwV 0 hts (gd_V hgd m1174 m1176 m43 m117 m1177) rfl rfl rfl hd_X11_isLawfulNow ⟨Nat.le_of_ble_eq_true rfl, Nat.le_of_ble_eq_true rfl⟩) (pre_W hW hB_G_15 hK hZ hS kd_0 rfl) rfl rfl hl.1 rfl (lv_room (Nat.le_of_ble_eq_true rfl)) dX11_walk_39 ⟨Nat.le_of_ble_eq_true rfl, Nat.le_of_ble_eq_true rfl⟩) hS (fun r_19 G_20 H locs hpo hW hS => ?_)
      have hX_23 : P_wLawful_1 G_15 r_19 G_20 := hpo
      obtain ⟨hB_G_20, hq_21, f_24, -⟩ := hpo
      have hF := hF.call9 hq_21 rfl rfl
      refine lv_if_ne (tgt := 55) hx hb dX11_walk_42 rfl (fun c_25 => ?_) (fun c_25 => ?_)
      · have c_25 : r_19.toInt ≠ 0 := xI_ne rfl rfl c_25
        refine lv_aload_n hx hb dX11_walk_55 rfl (lv_at hl 0 rfl) ?_
        refine S_getR (n := 30) (C := RX11) (T := TX11) (N := 13) hx hb hg iX11 hown hK hW kd_0 rfl 8 (lt_b rfl) (hg (Cond.fieldLink RX11 65 "SlabWalk" "earnest" "LSlabWalk$Earnest;") m578) (fun _ h9 => h9) rfl dX11_walk_56 ?_
        refine S_callv (va_runV (As := []) (rest := []) ⟨hx, hb, hml, hown, hts⟩ (k_eKeep l D k A a z G_20  ) (cwV 0 hts (gd_V hgd m1178 m1179 m1180 m127 m1181) rfl rfl rfl hd_X1_keepAct ⟨Nat.le_of_ble_eq_true rfl, Nat.le_of_ble_eq_true rfl⟩) (pre_W hW hB_G_20 hK hZ hS kd_30 rfl) rfl rfl hl.1 rfl (lv_room (Nat.le_of_ble_eq_true rfl)) dX11_walk_59 ⟨Nat.le_of_ble_eq_true rfl, Nat.le_of_ble_eq_true rfl⟩) hS (fun G_27 H locs hpo hW hS => ?_)
        have hX_30 : P_eKeep G_20 G_27 := hpo
        obtain ⟨hB_G_27, hq_28, hp_29, -⟩ := hpo
        have hF := hF.call9 hq_28 rfl rfl
        refine lv_aload_n hx hb dX11_walk_62 rfl (lv_at hl 0 rfl) ?_
        refine S_getR (n := 30) (C := RX11) (T := TX11) (N := 13) hx hb hg iX11 hown hK hW kd_0 rfl 8 (lt_b rfl) (hg (Cond.fieldLink RX11 65 "SlabWalk" "earnest" "LSlabWalk$Earnest;") m578) (fun _ h9 => h9) rfl dX11_walk_63 ?_
        refine S_getR (n := 58) (C := RX1) (T := TX1) (N := 6) hx hb hg iX1 hown hK hW kd_30 rfl 0 (lt_b rfl) (hg (Cond.fieldLink RX11 246 "SlabWalk$Earnest" "now" "[I") m493) (fun _ h9 => h9) rfl dX11_walk_66 ?_
        refine ic_4 hx hb dX11_walk_69 ?_
        refine S_iald hx hb hK hW kd_58 (vin (by decide) (by decide)) dX11_walk_70 (fun y_31 ey_31 => ?_)
        have b_32 : 0 ≤ (G_27.1 30 4).toInt ∧ (G_27.1 30 4).toInt ≤ 40 := bd_30_4 hB_G_27
        have b_33 : 0 ≤ (G_27.1 30 5).toInt ∧ (G_27.1 30 5).toInt ≤ 40 := bd_30_5 hB_G_27
        exact W.iret (v := y_31) hx hb hr (fun t ht _ => ⟨⟨y_31, G_27, rfl, (P_Wwalk_1_mk ⟨hB_G_27, hF, ((by first | (clear he f_6 hp_4 c_7 ty_12 c_13 f_24 c_25; omega) | omega)), ⟨r_1, G_2, hX_5, (Or.inr ⟨c_7, ⟨y_12, ey_12, (Or.inl ⟨c_13, ⟨G_15, hX_18, ⟨r_19, G_20, hX_23, (Or.inr ⟨c_25, ⟨G_27, hX_30, ⟨y_31, ey_31, ⟨rfl, rfl⟩⟩⟩⟩)⟩⟩⟩)⟩⟩)⟩⟩), wd_t ht hW⟩, hS.F ht⟩) hS.2.2 dX11_walk_71
      · have c_25 : r_19.toInt = 0 := xI_eq rfl rfl c_25
        refine lv_aload_n hx hb dX11_walk_45 rfl (lv_at hl 0 rfl) ?_
        refine S_getR (n := 30) (C := RX11) (T := TX11) (N := 13) hx hb hg iX11 hown hK hW kd_0 rfl 8 (lt_b rfl) (hg (Cond.fieldLink RX11 65 "SlabWalk" "earnest" "LSlabWalk$Earnest;") m578) (fun _ h9 => h9) rfl dX11_walk_46 ?_
        refine S_getR (n := 58) (C := RX1) (T := TX1) (N := 6) hx hb hg iX1 hown hK hW kd_30 rfl 0 (lt_b rfl) (hg (Cond.fieldLink RX11 246 "SlabWalk$Earnest" "now" "[I") m493) (fun _ h9 => h9) rfl dX11_walk_49 ?_
        refine ic_4 hx hb dX11_walk_52 ?_
        refine ic_0 hx hb dX11_walk_53 ?_
        refine S_iast hx hb hK hW hS kd_58 (vin (by decide) (by decide)) dX11_walk_54 (fun G_34 H locs eG_34 hW hS => ?_)
        have hB_G_34 : Bd G_34 := hB_G_20.put (lo := (-2147483648)) (hi := 2147483647) eG_34 rfl rfl rfl (tI_rng _).1 (tI_rng _).2 (hB_G_20.2.put eG_34 rfl)
        have hF := hF.put eG_34 (Or.inl (by decide))
        refine lv_aload_n hx hb dX11_walk_55 rfl (lv_at hl 0 rfl) ?_
        refine S_getR (n := 30) (C := RX11) (T := TX11) (N := 13) hx hb hg iX11 hown hK hW kd_0 rfl 8 (lt_b rfl) (hg (Cond.fieldLink RX11 65 "SlabWalk" "earnest" "LSlabWalk$Earnest;") m578) (fun _ h9 => h9) rfl dX11_walk_56 ?_
        refine S_callv (va_runV (As := []) (rest := []) ⟨hx, hb, hml, hown, hts⟩ (k_eKeep l D k A a z G_34  ) (cwV 0 hts (gd_V hgd m1178 m1179 m1180 m127 m1181) rfl rfl rfl hd_X1_keepAct ⟨Nat.le_of_ble_eq_true rfl, Nat.le_of_ble_eq_true rfl⟩) (pre_W hW hB_G_34 hK hZ hS kd_30 rfl) rfl rfl hl.1 rfl (lv_room (Nat.le_of_ble_eq_true rfl)) dX11_walk_59 ⟨Nat.le_of_ble_eq_true rfl, Nat.le_of_ble_eq_true rfl⟩) hS (fun G_36 H locs hpo hW hS => ?_)
        have hX_39 : P_eKeep G_34 G_36 := hpo
        obtain ⟨hB_G_36, hq_37, hp_38, -⟩ := hpo
        have hF := hF.call9 hq_37 rfl rfl
        refine lv_aload_n hx hb dX11_walk_62 rfl (lv_at hl 0 rfl) ?_
        refine S_getR (n := 30) (C := RX11) (T := TX11) (N := 13) hx hb hg iX11 hown hK hW kd_0 rfl 8 (lt_b rfl) (hg (Cond.fieldLink RX11 65 "SlabWalk" "earnest" "LSlabWalk$Earnest;") m578) (fun _ h9 => h9) rfl dX11_walk_63 ?_
        refine S_getR (n := 58) (C := RX1) (T := TX1) (N := 6) hx hb hg iX1 hown hK hW kd_30 rfl 0 (lt_b rfl) (hg (Cond.fieldLink RX11 246 "SlabWalk$Earnest" "now" "[I") m493) (fun _ h9 => h9) rfl dX11_walk_66 ?_
        refine ic_4 hx hb dX11_walk_69 ?_
        refine S_iald hx hb hK hW kd_58 (vin (by decide) (by decide)) dX11_walk_70 (fun y_40 ey_40 => ?_)
        have b_41 : 0 ≤ (G_36.1 30 4).toInt ∧ (G_36.1 30 4).toInt ≤ 40 := bd_30_4 hB_G_36
        have b_42 : 0 ≤ (G_36.1 30 5).toInt ∧ (G_36.1 30 5).toInt ≤ 40 := bd_30_5 hB_G_36
        exact W.iret (v := y_40) hx hb hr (fun t ht _ => ⟨⟨y_40, G_36, rfl, (P_Wwalk_1_mk ⟨hB_G_36, hF, ((by first | (clear he f_6 hp_4 c_7 ty_12 c_13 f_24 c_25; omega) | omega)), ⟨r_1, G_2, hX_5, (Or.inr ⟨c_7, ⟨y_12, ey_12, (Or.inl ⟨c_13, ⟨G_15, hX_18, ⟨r_19, G_20, hX_23, (Or.inl ⟨c_25, ⟨G_34, hB_G_34, (Fr.put (rs := [58]) (fs := []) Fr.rf eG_34 (Or.inl (by decide))), rw_ast eG_34, ⟨G_36, hX_39, ⟨y_40, ey_40, ⟨rfl, rfl⟩⟩⟩⟩⟩)⟩⟩⟩)⟩⟩)⟩⟩), wd_t ht hW⟩, hS.F ht⟩) hS.2.2 dX11_walk_71
    · have c_13 : y_12.toInt ≤ p2.toInt := xI_nlt rfl rfl c_13
      refine ic_m1 hx hb dX11_walk_26 ?_
      have b_43 : 0 ≤ (G.1 30 4).toInt ∧ (G.1 30 4).toInt ≤ 40 := bd_30_4 hB_G
      have g_44 : (G_2.1 30 4).toInt = (G.1 30 4).toInt := (congrArg Int32.toInt (show G_2.1 30 4 = (G.1 30 4) from (hq_3.i9 30 4 rfl rfl)))
      have b_45 : 0 ≤ (G.1 30 5).toInt ∧ (G.1 30 5).toInt ≤ 40 := bd_30_5 hB_G
      have g_46 : (G_2.1 30 5).toInt = (G.1 30 5).toInt := (congrArg Int32.toInt (show G_2.1 30 5 = (G.1 30 5) from (hq_3.i9 30 5 rfl rfl)))
      exact W.iret (v := (-1)) hx hb hr (fun t ht _ => ⟨⟨(-1), G_2, rfl, (P_Wwalk_1_mk ⟨hB_G_2, hF, (by have hq : ((-1) : Int32).toInt = (-1) := rfl; (try dsimp only); omega), ⟨r_1, G_2, hX_5, (Or.inr ⟨c_7, ⟨y_12, ey_12, (Or.inr ⟨c_13, ⟨rfl, rfl⟩⟩)⟩⟩)⟩⟩), wd_t ht hW⟩, hS.F ht⟩) hS.2.2 dX11_walk_27

set_option maxHeartbeats 4000000 in
set_option maxRecDepth 100000 in
theorem k_Wgo_1 (l : Launch) (D : va_G) (k : KT) (A : Nat → Prop) (a : Nat → Nat) (z : SK) (G : GS) (p0 : Int32) (hv_0_0 : G.2.2 0 0 = 1) (hv_0_1 : G.2.2 0 1 = 2) (hv_6_4 : G.2.2 6 4 = 1) (he : (G.1 30 4).toInt + (G.1 30 5).toInt ≤ 40) : Met l yX11_go (WS yX11_go cX11_go 5 (some .int)) ({ frames := 5, cells := 0, slots := 0, locals := 118 }) (va_Pc [.ref (a 0), .int p0] (cW D k A a z G)) (va_Qi (fun (r : Int32) (G1 : GS) => P_Wgo_1 p0 G r G1) (fun (G1 : GS) t => Wd D k A a G1 t.heap) A) 0 0 A := by
  refine Met.ofW (cc := cX11_go) (maxL := 5) (ret := (some .int)) (by decide) rfl ?_
  intro p e s m args below meth c s₁ B hml hv
  obtain ⟨rfl, hW, hB_G, hK, hZ⟩ := hv
  have hx := B.exec
  have hb := B.bytes
  have hr := B.returns
  have hts := atoms_spec (ws := WS yX11_go cX11_go 5 (some .int)) B.pre
  have hgd : ∀ w ∈ gd, w ∈ WS yX11_go cX11_go 5 (some .int) := fun w h => List.mem_cons_of_mem _ h
  have hg : ∀ w ∈ gd, w.before _ s = true := fun w h => hts w (hgd w h)
  have hown : s.vm.findClass RX11 = some m.cls := findClass_of_methodNamed B.named
  have hS : va_S A s.heap s.heap [] := va_S.rf
  have hF : Fr [37, 38, 39, 58, 59] [(6, 3), (30, 4), (30, 5)] G G := Fr.rf
  have hl := lv_entry ([.ref (a 0), .int p0]) (n := 5) (Nat.le_of_ble_eq_true rfl)
  rw [lg_entry_eq]
  generalize (lg_sl ([.ref (a 0), .int p0]) ++ List.replicate (5 - (lg_sl ([.ref (a 0), .int p0])).length) Slot.unset).toArray = ls at hl ⊢
  have hl : lv_has ls 5 [(0, .ref (a 0)), (1, .int p0)] := hl
  refine lv_aload_n hx hb dX11_go_0 rfl (lv_at hl 0 rfl) ?_
  refine lv_iload_n hx hb dX11_go_1 rfl (lv_at hl 1 rfl) ?_
  refine S_calli (va_runV (As := [.int p0]) (rest := []) ⟨hx, hb, hml, hown, hts⟩ (k_wGo_1 l D k A a z G p0 hv_0_0 hv_0_1 hv_6_4) (cwV 1 hts (gd_V hgd m1186 m1188 m44 m117 m1189) rfl rfl rfl hd_X11_canGo ⟨Nat.le_of_ble_eq_true rfl, Nat.le_of_ble_eq_true rfl⟩) (pre_W hW hB_G hK hZ hS kd_0 rfl) rfl rfl hl.1 rfl (lv_room (Nat.le_of_ble_eq_true rfl)) dX11_go_2 ⟨Nat.le_of_ble_eq_true rfl, Nat.le_of_ble_eq_true rfl⟩) hS (fun r_1 G_2 H locs hpo hW hS => ?_)
  have hX_5 : P_wGo_1 p0 G r_1 G_2 := hpo
  obtain ⟨hB_G_2, hq_3, f_6, hp_4, -⟩ := hpo
  have hF := hF.call9 hq_3 rfl rfl
  refine lv_if_ne (tgt := 10) hx hb dX11_go_5 rfl (fun c_7 => ?_) (fun c_7 => ?_)
  · have c_7 : r_1.toInt ≠ 0 := xI_ne rfl rfl c_7
    refine lv_aload_n hx hb dX11_go_10 rfl (lv_at hl 0 rfl) ?_
    refine S_getR (n := 30) (C := RX11) (T := TX11) (N := 13) hx hb hg iX11 hown hK hW kd_0 rfl 8 (lt_b rfl) (hg (Cond.fieldLink RX11 65 "SlabWalk" "earnest" "LSlabWalk$Earnest;") m578) (fun _ h9 => h9) rfl dX11_go_11 ?_
    refine S_getR (n := 58) (C := RX1) (T := TX1) (N := 6) hx hb hg iX1 hown hK hW kd_30 rfl 0 (lt_b rfl) (hg (Cond.fieldLink RX11 246 "SlabWalk$Earnest" "now" "[I") m493) (fun _ h9 => h9) rfl dX11_go_14 ?_
    refine lv_astore_n (lv' := [(2, .ref (a 58)), (0, .ref (a 0)), (1, .int p0)]) hx hb dX11_go_17 rfl hl (lt_b rfl) rfl (fun ls hl => ?_)
    refine lv_aload_n hx hb dX11_go_18 rfl (lv_at hl 0 rfl) ?_
    refine ic_0 hx hb dX11_go_19 ?_
    refine S_iald hx hb hK hW kd_58 (vin (by decide) (by decide)) dX11_go_20 (fun y_8 ey_8 => ?_)
    have u_9 : y_8.toInt = (G.1 58 0).toInt := congrArg Int32.toInt (ey_8.trans ((hq_3.i9 58 0 rfl rfl)))
    refine lv_istore_n (lv' := [(3, .int y_8), (2, .ref (a 58)), (0, .ref (a 0)), (1, .int p0)]) hx hb dX11_go_21 rfl hl (lt_b rfl) rfl (fun ls hl => ?_)
    refine lv_aload_n hx hb dX11_go_22 rfl (lv_at hl 2 rfl) ?_
    refine S_getR (n := 30) (C := RX11) (T := TX11) (N := 13) hx hb hg iX11 hown hK hW kd_0 rfl 8 (lt_b rfl) (hg (Cond.fieldLink RX11 65 "SlabWalk" "earnest" "LSlabWalk$Earnest;") m578) (fun _ h9 => h9) rfl dX11_go_23 ?_
    refine S_callv (va_runV (As := []) (rest := []) ⟨hx, hb, hml, hown, hts⟩ (k_eDraw l D k A a z G_2  ) (cwV 0 hts (gd_V hgd m1190 m1191 m1192 m127 m1193) rfl rfl rfl hd_X1_drawSeed ⟨Nat.le_of_ble_eq_true rfl, Nat.le_of_ble_eq_true rfl⟩) (pre_W hW hB_G_2 hK hZ hS kd_30 rfl) rfl rfl hl.1 rfl (lv_room (Nat.le_of_ble_eq_true rfl)) dX11_go_26 ⟨Nat.le_of_ble_eq_true rfl, Nat.le_of_ble_eq_true rfl⟩) hS (fun G_11 H locs hpo hW hS => ?_)
    have hX_14 : P_eDraw G_2 G_11 := hpo
    obtain ⟨hB_G_11, hq_12, -⟩ := hpo
    have hF := hF.call9 hq_12 rfl rfl
    refine lv_aload_n hx hb dX11_go_29 rfl (lv_at hl 1 rfl) ?_
    refine ic_2 hx hb dX11_go_30 ?_
    refine S_iald hx hb hK hW kd_58 (vin (by decide) (by decide)) dX11_go_31 (fun y_15 ey_15 => ?_)
    refine lv_iload_n hx hb dX11_go_32 rfl (lv_at hl 3 rfl) ?_
    refine lv_iadd hx hb dX11_go_33 ?_
    refine lv_topi (fun y_16 ey_16 => ?_)
    refine lv_aload_n hx hb dX11_go_34 rfl (lv_at hl 2 rfl) ?_
    refine S_getV (n := 1) (C := RX11) (T := TX11) (N := 13) hx hb hg iX11 hown hK hW kd_0 rfl 0 (lt_b rfl) (hg (Cond.fieldLink RX11 10 "SlabWalk" "paving" "LSlabWalk$Paving;") m570) (fun _ h9 => h9) rfl ((((hq_12.r9 0 0 rfl rfl).trans (hq_3.r9 0 0 rfl rfl))).trans (hv_0_0)) dX11_go_35 ?_
    refine lv_aload_n hx hb dX11_go_38 rfl (lv_at hl 1 rfl) ?_
    refine lv_bipush (v := 7) hx hb dX11_go_39 (by decide) ?_
    refine S_iald hx hb hK hW kd_58 (vin (by decide) (by decide)) dX11_go_41 (fun y_17 ey_17 => ?_)
    refine S_calli (va_runV (As := [.int y_17]) (rest := [.int y_16]) ⟨hx, hb, hml, hown, hts⟩ (k_slipBy_1 l D k A a z G_11 y_17 ) (cwV 1 hts (gd_V hgd m1194 m1195 m1196 m118 m1197) rfl rfl rfl hd_X6_slipBy ⟨Nat.le_of_ble_eq_true rfl, Nat.le_of_ble_eq_true rfl⟩) (pre_W hW hB_G_11 hK hZ hS kd_1 rfl) rfl rfl hl.1 rfl (lv_room (Nat.le_of_ble_eq_true rfl)) dX11_go_42 ⟨Nat.le_of_ble_eq_true rfl, Nat.le_of_ble_eq_true rfl⟩) hS (fun r_18 G_19 H locs hpo hW hS => ?_)
    have hX_22 : P_slipBy_1 y_17 G_11 r_18 G_19 := hpo
    obtain ⟨hB_G_19, hq_20, f_23, -⟩ := hpo
    have hF := hF.call9 hq_20 rfl rfl
    refine lv_iadd hx hb dX11_go_45 ?_
    refine lv_topi (fun y_24 ey_24 => ?_)
    refine lv_istore (lv' := [(4, .int y_24), (3, .int y_8), (2, .ref (a 58)), (0, .ref (a 0)), (1, .int p0)]) hx hb dX11_go_46 hl (lt_b rfl) rfl (fun ls hl => ?_)
    refine lv_aload_n hx hb dX11_go_48 rfl (lv_at hl 2 rfl) ?_
    refine ic_5 hx hb dX11_go_49 ?_
    refine lv_iload_n hx hb dX11_go_50 rfl (lv_at hl 4 rfl) ?_
    refine lv_aload_n hx hb dX11_go_51 rfl (lv_at hl 3 rfl) ?_
    refine S_getV (n := 1) (C := RX11) (T := TX11) (N := 13) hx hb hg iX11 hown hK hW kd_0 rfl 0 (lt_b rfl) (hg (Cond.fieldLink RX11 10 "SlabWalk" "paving" "LSlabWalk$Paving;") m570) (fun _ h9 => h9) rfl ((((hq_20.r9 0 0 rfl rfl).trans ((hq_12.r9 0 0 rfl rfl).trans (hq_3.r9 0 0 rfl rfl)))).trans (hv_0_0)) dX11_go_52 ?_
    refine S_getR (n := 14) (C := RX6) (T := TX6) (N := 17) hx hb hg iX6 hown hK hW kd_1 rfl 4 (lt_b rfl) (hg (Cond.fieldLink RX11 237 "SlabWalk$Paving" "most" "[I") m173) (fun _ h9 => h9) rfl dX11_go_55 ?_
    refine lv_iload_n hx hb dX11_go_58 rfl (lv_at hl 1 rfl) ?_
    refine S_iald hx hb hK hW kd_14 (vin (by omega) (by omega)) dX11_go_59 (fun y_25 ey_25 => ?_)
    have ty_25 : 0 ≤ y_25.toInt ∧ y_25.toInt ≤ 60 := bv_14 hB_G_19 ey_25
    refine W.cut (σ := Int32) (pcJ := 68) (J := fun y H locs ls => ∃ (G_33 : GS) (x_26 : Int32), (0 ≤ y.toInt ∧ y.toInt ≤ 1) ∧ Jn_k_Wgo_1_1 p0 y_24 y_25 G_19 x_26 y G_33 ∧ Wd D k A a G_33 H ∧ Bd G_33 ∧ Fr [37, 38, 39, 58, 59] [(6, 3), (30, 4), (30, 5)] G G_33 ∧ Fr [] [] G_19 G_33 ∧ va_S A s.heap H locs ∧ lv_has ls 5 [(4, .int x_26), (3, .int y_8), (2, .ref (a 58)), (0, .ref (a 0))]) (stJ := fun y => [.int y, .int 5, .ref (a 58)]) ?_ (fun hJ_34 => ?_)
    · intro y H locs ls hI
      obtain ⟨w_30, hy⟩ : ∃ q, q = y := ⟨_, rfl⟩
      subst hy
      obtain ⟨G_33, x_26, f_37, hX_36, hW, hB_G_33, hF, hq_35, hS, hl⟩ := hI
      refine S_iast hx hb hK hW hS kd_58 (vin (by decide) (by decide)) dX11_go_68 (fun G_38 H locs eG_38 hW hS => ?_)
      have hB_G_38 : Bd G_38 := hB_G_33.put (lo := (-2147483648)) (hi := 2147483647) eG_38 rfl rfl rfl (tI_rng _).1 (tI_rng _).2 (hB_G_33.2.put eG_38 rfl)
      have hF := hF.put eG_38 (Or.inl (by decide))
      refine lv_aload_n hx hb dX11_go_69 rfl (lv_at hl 3 rfl) ?_
      refine S_getV (n := 1) (C := RX11) (T := TX11) (N := 13) hx hb hg iX11 hown hK hW kd_0 rfl 0 (lt_b rfl) (hg (Cond.fieldLink RX11 10 "SlabWalk" "paving" "LSlabWalk$Paving;") m570) (fun _ h9 => h9) rfl ((((congrFun (congrFun (congrArg (fun q => q.2.2) eG_38) 0) 0).trans ((hq_35.r9 0 0 rfl rfl).trans ((hq_20.r9 0 0 rfl rfl).trans ((hq_12.r9 0 0 rfl rfl).trans (hq_3.r9 0 0 rfl rfl)))))).trans (hv_0_0)) dX11_go_70 ?_
      refine lv_iload_n hx hb dX11_go_73 rfl (lv_at hl 1 rfl) ?_
      refine lv_aload_n hx hb dX11_go_74 rfl (lv_at hl 2 rfl) ?_
      refine ic_1 hx hb dX11_go_75 ?_
      refine S_iald hx hb hK hW kd_58 (vin (by decide) (by decide)) dX11_go_76 (fun y_39 ey_39 => ?_)
      refine lv_iload hx hb dX11_go_77 (lv_at hl 0 rfl) ?_
      have b_40 : 0 ≤ (G.1 1 10).toInt ∧ (G.1 1 10).toInt ≤ 4 := bd_1_10 hB_G
      have g_41 : (G_38.1 1 10).toInt = (G.1 1 10).toInt := (congrArg Int32.toInt (show G_38.1 1 10 = (G.1 1 10) from ((gp_ne eG_38 (fun q => absurd q.1 (Nat.ne_of_beq_eq_false rfl))).trans ((hq_35.i9 1 10 rfl rfl).trans ((hq_20.i9 1 10 rfl rfl).trans ((hq_12.i9 1 10 rfl rfl).trans (hq_3.i9 1 10 rfl rfl)))))))
      refine S_calli (va_runV (As := [.int y_8, .int y_39, .int x_26]) (rest := []) ⟨hx, hb, hml, hown, hts⟩ (k_stands_1 l D k A a z G_38 y_8 y_39 x_26 ) (cwV 3 hts (gd_V hgd m1121 m966 m967 m118 m968) rfl rfl rfl hd_X6_stands ⟨Nat.le_of_ble_eq_true rfl, Nat.le_of_ble_eq_true rfl⟩) (pre_W hW hB_G_38 hK hZ hS kd_1 rfl) rfl rfl hl.1 rfl (lv_room (Nat.le_of_ble_eq_true rfl)) dX11_go_79 ⟨Nat.le_of_ble_eq_true rfl, Nat.le_of_ble_eq_true rfl⟩) hS (fun r_42 G_43 H locs hpo hW hS => ?_)
      have hX_46 : P_stands_1 y_8 y_39 x_26 G_38 r_42 G_43 := hpo
      obtain ⟨hB_G_43, hq_44, f_47, hp_45, -⟩ := hpo
      have hF := hF.call9 hq_44 rfl rfl
      refine lv_if_eq (tgt := 115) hx hb dX11_go_82 rfl (fun c_48 => ?_) (fun c_48 => ?_)
      · have c_48 : r_42.toInt = 0 := xI_eq rfl rfl c_48
        refine lv_aload_n hx hb dX11_go_115 rfl (lv_at hl 2 rfl) ?_
        refine ic_4 hx hb dX11_go_116 ?_
        refine ic_2 hx hb dX11_go_117 ?_
        refine S_iast hx hb hK hW hS kd_58 (vin (by decide) (by decide)) dX11_go_118 (fun G_49 H locs eG_49 hW hS => ?_)
        have hB_G_49 : Bd G_49 := hB_G_43.put (lo := (-2147483648)) (hi := 2147483647) eG_49 rfl rfl rfl (tI_rng _).1 (tI_rng _).2 (hB_G_43.2.put eG_49 rfl)
        have hF := hF.put eG_49 (Or.inl (by decide))
        refine lv_aload_n hx hb dX11_go_119 rfl (lv_at hl 3 rfl) ?_
        refine S_getR (n := 30) (C := RX11) (T := TX11) (N := 13) hx hb hg iX11 hown hK hW kd_0 rfl 8 (lt_b rfl) (hg (Cond.fieldLink RX11 65 "SlabWalk" "earnest" "LSlabWalk$Earnest;") m578) (fun _ h9 => h9) rfl dX11_go_120 ?_
        refine S_callv (va_runV (As := []) (rest := []) ⟨hx, hb, hml, hown, hts⟩ (k_eKeep l D k A a z G_49  ) (cwV 0 hts (gd_V hgd m1178 m1179 m1180 m127 m1181) rfl rfl rfl hd_X1_keepAct ⟨Nat.le_of_ble_eq_true rfl, Nat.le_of_ble_eq_true rfl⟩) (pre_W hW hB_G_49 hK hZ hS kd_30 rfl) rfl rfl hl.1 rfl (lv_room (Nat.le_of_ble_eq_true rfl)) dX11_go_123 ⟨Nat.le_of_ble_eq_true rfl, Nat.le_of_ble_eq_true rfl⟩) hS (fun G_51 H locs hpo hW hS => ?_)
        have hX_54 : P_eKeep G_49 G_51 := hpo
        obtain ⟨hB_G_51, hq_52, hp_53, -⟩ := hpo
        have hF := hF.call9 hq_52 rfl rfl
        refine lv_aload_n hx hb dX11_go_126 rfl (lv_at hl 2 rfl) ?_
        refine ic_4 hx hb dX11_go_127 ?_
        refine S_iald hx hb hK hW kd_58 (vin (by decide) (by decide)) dX11_go_128 (fun y_55 ey_55 => ?_)
        have b_56 : 0 ≤ (G_51.1 30 4).toInt ∧ (G_51.1 30 4).toInt ≤ 40 := bd_30_4 hB_G_51
        have b_57 : 0 ≤ (G_51.1 30 5).toInt ∧ (G_51.1 30 5).toInt ≤ 40 := bd_30_5 hB_G_51
        exact W.iret (v := y_55) hx hb hr (fun t ht _ => ⟨⟨y_55, G_51, rfl, (P_Wgo_1_mk ⟨hB_G_51, hF, ((by first | (clear he f_6 hp_4 c_7 u_9 f_23 ty_25 f_37 b_40 g_41 f_47 hp_45 c_48; omega) | omega)), ⟨r_1, G_2, hX_5, (Or.inr ⟨c_7, ⟨y_8, ey_8, ⟨G_11, hX_14, ⟨y_15, ey_15, ⟨y_16, ey_16, ⟨y_17, ey_17, ⟨r_18, G_19, hX_22, ⟨y_24, ey_24, ⟨y_25, ey_25, ⟨x_26, w_30, G_33, hX_36, f_37, hB_G_33, hq_35, ⟨y_39, ey_39.trans (congrFun (rw_ast eG_38) _), ⟨G_38, hB_G_38, (Fr.put (rs := [58]) (fs := []) Fr.rf eG_38 (Or.inl (by decide))), rw_ast eG_38, ⟨r_42, G_43, hX_46, (Or.inl ⟨c_48, ⟨G_49, hB_G_49, (Fr.put (rs := [58]) (fs := []) Fr.rf eG_49 (Or.inl (by decide))), rw_ast eG_49, ⟨G_51, hX_54, ⟨y_55, ey_55, ⟨rfl, rfl⟩⟩⟩⟩⟩)⟩⟩⟩⟩⟩⟩⟩⟩⟩⟩⟩⟩⟩)⟩⟩), wd_t ht hW⟩, hS.F ht⟩) hS.2.2 dX11_go_129
      · have c_48 : r_42.toInt ≠ 0 := xI_ne rfl rfl c_48
        refine lv_aload_n hx hb dX11_go_85 rfl (lv_at hl 2 rfl) ?_
        refine ic_2 hx hb dX11_go_86 ?_
        refine lv_iload hx hb dX11_go_87 (lv_at hl 0 rfl) ?_
        refine S_iast hx hb hK hW hS kd_58 (vin (by decide) (by decide)) dX11_go_89 (fun G_58 H locs eG_58 hW hS => ?_)
        have hB_G_58 : Bd G_58 := hB_G_43.put (lo := (-2147483648)) (hi := 2147483647) eG_58 rfl rfl rfl (tI_rng _).1 (tI_rng _).2 (hB_G_43.2.put eG_58 rfl)
        have hF := hF.put eG_58 (Or.inl (by decide))
        refine lv_aload_n hx hb dX11_go_90 rfl (lv_at hl 2 rfl) ?_
        refine ic_3 hx hb dX11_go_91 ?_
        refine lv_dup2_11 hx hb dX11_go_92 rfl rfl ?_
        refine S_iald hx hb hK hW kd_58 (vin (by decide) (by decide)) dX11_go_93 (fun y_59 ey_59 => ?_)
        refine ic_1 hx hb dX11_go_94 ?_
        refine lv_iadd hx hb dX11_go_95 ?_
        refine lv_topi (fun y_60 ey_60 => ?_)
        refine S_iast hx hb hK hW hS kd_58 (vin (by decide) (by decide)) dX11_go_96 (fun G_61 H locs eG_61 hW hS => ?_)
        have hB_G_61 : Bd G_61 := hB_G_58.put (lo := (-2147483648)) (hi := 2147483647) eG_61 rfl rfl rfl (tI_rng _).1 (tI_rng _).2 (hB_G_58.2.put eG_61 rfl)
        have hF := hF.put eG_61 (Or.inl (by decide))
        refine lv_aload_n hx hb dX11_go_97 rfl (lv_at hl 2 rfl) ?_
        refine ic_4 hx hb dX11_go_98 ?_
        refine lv_aload_n hx hb dX11_go_99 rfl (lv_at hl 3 rfl) ?_
        refine S_calli (va_runV (As := []) (rest := [.int 4, .ref (a 58)]) ⟨hx, hb, hml, hown, hts⟩ (k_wLawful_1 l D k A a z G_61  ((((congrFun (congrFun (congrArg (fun q => q.2.2) eG_61) 0) 0).trans ((congrFun (congrFun (congrArg (fun q => q.2.2) eG_58) 0) 0).trans ((hq_44.r9 0 0 rfl rfl).trans ((congrFun (congrFun (congrArg (fun q => q.2.2) eG_38) 0) 0).trans ((hq_35.r9 0 0 rfl rfl).trans ((hq_20.r9 0 0 rfl rfl).trans ((hq_12.r9 0 0 rfl rfl).trans (hq_3.r9 0 0 rfl rfl))))))))).trans (hv_0_0)) ((((congrFun (congrFun (congrArg (fun q => q.2.2) eG_61) 0) 1).trans ((congrFun (congrFun (congrArg (fun q => q.2.2) eG_58) 0) 1).trans ((hq_44.r9 0 1 rfl rfl).trans ((congrFun (congrFun (congrArg (fun q => q.2.2) eG_38) 0) 1).trans ((hq_35.r9 0 1 rfl rfl).trans ((hq_20.r9 0 1 rfl rfl).trans ((hq_12.r9 0 1 rfl rfl).trans (hq_3.r9 0 1 rfl rfl))))))))).trans (hv_0_1)) ((((congrFun (congrFun (congrArg (fun q => q.2.2) eG_61) 6) 4).trans ((congrFun (congrFun (congrArg (fun q => q.2.2) eG_58) 6) 4).trans ((hq_44.r9 6 4 rfl rfl).trans ((congrFun (congrFun (congrArg (fun q => q.2.2) eG_38) 6) 4).trans ((hq_35.r9 6 4 rfl rfl).trans ((hq_20.r9 6 4 rfl rfl).trans ((hq_12.r9 6 4 rfl rfl).trans (hq_3.r9 6 4 rfl rfl))))))))).trans (hv_6_4))) (cwV 0 hts (gd_V hgd m1174 m1176 m43 m117 m1177) rfl rfl rfl hd_X11_isLawfulNow ⟨Nat.le_of_ble_eq_true rfl, Nat.le_of_ble_eq_true rfl⟩) (pre_W hW hB_G_61 hK hZ hS kd_0 rfl) rfl rfl hl.1 rfl (lv_room (Nat.le_of_ble_eq_true rfl)) dX11_go_100 ⟨Nat.le_of_ble_eq_true rfl, Nat.le_of_ble_eq_true rfl⟩) hS (fun r_62 G_63 H locs hpo hW hS => ?_)
        have hX_66 : P_wLawful_1 G_61 r_62 G_63 := hpo
        obtain ⟨hB_G_63, hq_64, f_67, -⟩ := hpo
        have hF := hF.call9 hq_64 rfl rfl
        refine lv_if_eq (tgt := 110) hx hb dX11_go_103 rfl (fun c_68 => ?_) (fun c_68 => ?_)
        · have c_68 : r_62.toInt = 0 := xI_eq rfl rfl c_68
          refine ic_0 hx hb dX11_go_110 ?_
          refine S_iast hx hb hK hW hS kd_58 (vin (by decide) (by decide)) dX11_go_111 (fun G_69 H locs eG_69 hW hS => ?_)
          have hB_G_69 : Bd G_69 := hB_G_63.put (lo := (-2147483648)) (hi := 2147483647) eG_69 rfl rfl rfl (tI_rng _).1 (tI_rng _).2 (hB_G_63.2.put eG_69 rfl)
          have hF := hF.put eG_69 (Or.inl (by decide))
          refine lv_goto (tgt := 119) hx hb dX11_go_112 rfl ?_
          refine lv_aload_n hx hb dX11_go_119 rfl (lv_at hl 3 rfl) ?_
          refine S_getR (n := 30) (C := RX11) (T := TX11) (N := 13) hx hb hg iX11 hown hK hW kd_0 rfl 8 (lt_b rfl) (hg (Cond.fieldLink RX11 65 "SlabWalk" "earnest" "LSlabWalk$Earnest;") m578) (fun _ h9 => h9) rfl dX11_go_120 ?_
          refine S_callv (va_runV (As := []) (rest := []) ⟨hx, hb, hml, hown, hts⟩ (k_eKeep l D k A a z G_69  ) (cwV 0 hts (gd_V hgd m1178 m1179 m1180 m127 m1181) rfl rfl rfl hd_X1_keepAct ⟨Nat.le_of_ble_eq_true rfl, Nat.le_of_ble_eq_true rfl⟩) (pre_W hW hB_G_69 hK hZ hS kd_30 rfl) rfl rfl hl.1 rfl (lv_room (Nat.le_of_ble_eq_true rfl)) dX11_go_123 ⟨Nat.le_of_ble_eq_true rfl, Nat.le_of_ble_eq_true rfl⟩) hS (fun G_71 H locs hpo hW hS => ?_)
          have hX_74 : P_eKeep G_69 G_71 := hpo
          obtain ⟨hB_G_71, hq_72, hp_73, -⟩ := hpo
          have hF := hF.call9 hq_72 rfl rfl
          refine lv_aload_n hx hb dX11_go_126 rfl (lv_at hl 2 rfl) ?_
          refine ic_4 hx hb dX11_go_127 ?_
          refine S_iald hx hb hK hW kd_58 (vin (by decide) (by decide)) dX11_go_128 (fun y_75 ey_75 => ?_)
          have b_76 : 0 ≤ (G_71.1 30 4).toInt ∧ (G_71.1 30 4).toInt ≤ 40 := bd_30_4 hB_G_71
          have b_77 : 0 ≤ (G_71.1 30 5).toInt ∧ (G_71.1 30 5).toInt ≤ 40 := bd_30_5 hB_G_71
          exact W.iret (v := y_75) hx hb hr (fun t ht _ => ⟨⟨y_75, G_71, rfl, (P_Wgo_1_mk ⟨hB_G_71, hF, ((by first | (clear he f_6 hp_4 c_7 u_9 f_23 ty_25 f_37 b_40 g_41 f_47 hp_45 c_48 f_67 c_68; omega) | omega)), ⟨r_1, G_2, hX_5, (Or.inr ⟨c_7, ⟨y_8, ey_8, ⟨G_11, hX_14, ⟨y_15, ey_15, ⟨y_16, ey_16, ⟨y_17, ey_17, ⟨r_18, G_19, hX_22, ⟨y_24, ey_24, ⟨y_25, ey_25, ⟨x_26, w_30, G_33, hX_36, f_37, hB_G_33, hq_35, ⟨y_39, ey_39.trans (congrFun (rw_ast eG_38) _), ⟨G_38, hB_G_38, (Fr.put (rs := [58]) (fs := []) Fr.rf eG_38 (Or.inl (by decide))), rw_ast eG_38, ⟨r_42, G_43, hX_46, (Or.inr ⟨c_48, ⟨y_59, ey_59.trans (congrFun (rw_ast eG_58) _), ⟨y_60, ey_60, ⟨G_61, hB_G_61, (Fr.put (rs := [58]) (fs := []) (Fr.put (rs := [58]) (fs := []) Fr.rf eG_58 (Or.inl (by decide))) eG_61 (Or.inl (by decide))), (rw_ast eG_61).trans (congrArg (fun q => upd q ((3 : Int32).toNatClampNeg) y_60) (rw_ast eG_58)), ⟨r_62, G_63, hX_66, (Or.inl ⟨c_68, ⟨G_69, hB_G_69, (Fr.put (rs := [58]) (fs := []) Fr.rf eG_69 (Or.inl (by decide))), rw_ast eG_69, ⟨G_71, hX_74, ⟨y_75, ey_75, ⟨rfl, rfl⟩⟩⟩⟩⟩)⟩⟩⟩⟩⟩)⟩⟩⟩⟩⟩⟩⟩⟩⟩⟩⟩⟩⟩)⟩⟩), wd_t ht hW⟩, hS.F ht⟩) hS.2.2 dX11_go_129
        · have c_68 : r_62.toInt ≠ 0 := xI_ne rfl rfl c_68
          refine ic_1 hx hb dX11_go_106 ?_
          refine lv_goto (tgt := 111) hx hb dX11_go_107 rfl ?_
          refine S_iast hx hb hK hW hS kd_58 (vin (by decide) (by decide)) dX11_go_111 (fun G_78 H locs eG_78 hW hS => ?_)
          have hB_G_78 : Bd G_78 := hB_G_63.put (lo := (-2147483648)) (hi := 2147483647) eG_78 rfl rfl rfl (tI_rng _).1 (tI_rng _).2 (hB_G_63.2.put eG_78 rfl)
          have hF := hF.put eG_78 (Or.inl (by decide))
          refine lv_goto (tgt := 119) hx hb dX11_go_112 rfl ?_
          refine lv_aload_n hx hb dX11_go_119 rfl (lv_at hl 3 rfl) ?_
          refine S_getR (n := 30) (C := RX11) (T := TX11) (N := 13) hx hb hg iX11 hown hK hW kd_0 rfl 8 (lt_b rfl) (hg (Cond.fieldLink RX11 65 "SlabWalk" "earnest" "LSlabWalk$Earnest;") m578) (fun _ h9 => h9) rfl dX11_go_120 ?_
          refine S_callv (va_runV (As := []) (rest := []) ⟨hx, hb, hml, hown, hts⟩ (k_eKeep l D k A a z G_78  ) (cwV 0 hts (gd_V hgd m1178 m1179 m1180 m127 m1181) rfl rfl rfl hd_X1_keepAct ⟨Nat.le_of_ble_eq_true rfl, Nat.le_of_ble_eq_true rfl⟩) (pre_W hW hB_G_78 hK hZ hS kd_30 rfl) rfl rfl hl.1 rfl (lv_room (Nat.le_of_ble_eq_true rfl)) dX11_go_123 ⟨Nat.le_of_ble_eq_true rfl, Nat.le_of_ble_eq_true rfl⟩) hS (fun G_80 H locs hpo hW hS => ?_)
          have hX_83 : P_eKeep G_78 G_80 := hpo
          obtain ⟨hB_G_80, hq_81, hp_82, -⟩ := hpo
          have hF := hF.call9 hq_81 rfl rfl
          refine lv_aload_n hx hb dX11_go_126 rfl (lv_at hl 2 rfl) ?_
          refine ic_4 hx hb dX11_go_127 ?_
          refine S_iald hx hb hK hW kd_58 (vin (by decide) (by decide)) dX11_go_128 (fun y_84 ey_84 => ?_)
          have b_85 : 0 ≤ (G_80.1 30 4).toInt ∧ (G_80.1 30 4).toInt ≤ 40 := bd_30_4 hB_G_80
          have b_86 : 0 ≤ (G_80.1 30 5).toInt ∧ (G_80.1 30 5).toInt ≤ 40 := bd_30_5 hB_G_80
          exact W.iret (v := y_84) hx hb hr (fun t ht _ => ⟨⟨y_84, G_80, rfl, (P_Wgo_1_mk ⟨hB_G_80, hF, ((by first | (clear he f_6 hp_4 c_7 u_9 f_23 ty_25 f_37 b_40 g_41 f_47 hp_45 c_48 f_67 c_68; omega) | omega)), ⟨r_1, G_2, hX_5, (Or.inr ⟨c_7, ⟨y_8, ey_8, ⟨G_11, hX_14, ⟨y_15, ey_15, ⟨y_16, ey_16, ⟨y_17, ey_17, ⟨r_18, G_19, hX_22, ⟨y_24, ey_24, ⟨y_25, ey_25, ⟨x_26, w_30, G_33, hX_36, f_37, hB_G_33, hq_35, ⟨y_39, ey_39.trans (congrFun (rw_ast eG_38) _), ⟨G_38, hB_G_38, (Fr.put (rs := [58]) (fs := []) Fr.rf eG_38 (Or.inl (by decide))), rw_ast eG_38, ⟨r_42, G_43, hX_46, (Or.inr ⟨c_48, ⟨y_59, ey_59.trans (congrFun (rw_ast eG_58) _), ⟨y_60, ey_60, ⟨G_61, hB_G_61, (Fr.put (rs := [58]) (fs := []) (Fr.put (rs := [58]) (fs := []) Fr.rf eG_58 (Or.inl (by decide))) eG_61 (Or.inl (by decide))), (rw_ast eG_61).trans (congrArg (fun q => upd q ((3 : Int32).toNatClampNeg) y_60) (rw_ast eG_58)), ⟨r_62, G_63, hX_66, (Or.inr ⟨c_68, ⟨G_78, hB_G_78, (Fr.put (rs := [58]) (fs := []) Fr.rf eG_78 (Or.inl (by decide))), rw_ast eG_78, ⟨G_80, hX_83, ⟨y_84, ey_84, ⟨rfl, rfl⟩⟩⟩⟩⟩)⟩⟩⟩⟩⟩)⟩⟩⟩⟩⟩⟩⟩⟩⟩⟩⟩⟩⟩)⟩⟩), wd_t ht hW⟩, hS.F ht⟩) hS.2.2 dX11_go_129
    refine lv_icmp_le (tgt := 67) hx hb dX11_go_60 rfl (fun c_87 => ?_) (fun c_87 => ?_)
    · have c_87 : p0.toInt ≤ y_25.toInt := xI_le rfl rfl c_87
      refine ic_0 hx hb dX11_go_67 ?_
      have qc_88 : (0 : Int32).toInt = 0 := rfl
      exact hJ_34 0 _ _ _ ⟨G_19, y_24, ⟨(by first | (clear he f_6 hp_4 c_7 u_9 f_23 ty_25 c_87; omega) | omega), (by first | (clear he f_6 hp_4 c_7 u_9 f_23 ty_25 c_87; omega) | omega)⟩, (Jn_k_Wgo_1_1_mk (Or.inl ⟨c_87, ⟨rfl, rfl, rfl⟩⟩)), hW, hB_G_19, hF, (Fr.rf (rs := []) (fs := [])), hS, lv_sub hl [0, 1, 2, 3] rfl⟩
    · have c_87 : y_25.toInt < p0.toInt := xI_nle rfl rfl c_87
      refine ic_1 hx hb dX11_go_63 ?_
      refine lv_goto (tgt := 68) hx hb dX11_go_64 rfl ?_
      have qc_89 : (1 : Int32).toInt = 1 := rfl
      exact hJ_34 1 _ _ _ ⟨G_19, y_24, ⟨(by first | (clear he f_6 hp_4 c_7 u_9 f_23 ty_25 c_87; omega) | omega), (by first | (clear he f_6 hp_4 c_7 u_9 f_23 ty_25 c_87; omega) | omega)⟩, (Jn_k_Wgo_1_1_mk (Or.inr ⟨c_87, ⟨rfl, rfl, rfl⟩⟩)), hW, hB_G_19, hF, (Fr.rf (rs := []) (fs := [])), hS, lv_sub hl [0, 1, 2, 3] rfl⟩
  · have c_7 : r_1.toInt = 0 := xI_eq rfl rfl c_7
    refine ic_m1 hx hb dX11_go_8 ?_
    have b_90 : 0 ≤ (G.1 30 4).toInt ∧ (G.1 30 4).toInt ≤ 40 := bd_30_4 hB_G
    have g_91 : (G_2.1 30 4).toInt = (G.1 30 4).toInt := (congrArg Int32.toInt (show G_2.1 30 4 = (G.1 30 4) from (hq_3.i9 30 4 rfl rfl)))
    have b_92 : 0 ≤ (G.1 30 5).toInt ∧ (G.1 30 5).toInt ≤ 40 := bd_30_5 hB_G
    have g_93 : (G_2.1 30 5).toInt = (G.1 30 5).toInt := (congrArg Int32.toInt (show G_2.1 30 5 = (G.1 30 5) from (hq_3.i9 30 5 rfl rfl)))
    exact W.iret (v := (-1)) hx hb hr (fun t ht _ => ⟨⟨(-1), G_2, rfl, (P_Wgo_1_mk ⟨hB_G_2, hF, (by have hq : ((-1) : Int32).toInt = (-1) := rfl; (try dsimp only); omega), ⟨r_1, G_2, hX_5, (Or.inl ⟨c_7, ⟨rfl, rfl⟩⟩)⟩⟩), wd_t ht hW⟩, hS.F ht⟩) hS.2.2 dX11_go_9
