theorem m34 : Cond.selects RX5 yX5_setNextFeet yX5_setNextFeet ∈ gd := gds_3 2 rfl
theorem m40 : Cond.selects RX5 yX5_aimFrom yX5_aimFrom ∈ gd := gds_3 8 rfl
theorem m126 : Cond.initialized RX5 ∈ gd := gdc_1_0 10 rfl gw_initialized
theorem m372 : Cond.fieldLink RX5 36 "SlabWalk$Course" "lawful" "[Z" ∈ gd := gdc_2_1 0 rfl gw_fieldLink
theorem m379 : Cond.fieldLink RX5 58 "SlabWalk$Course" "least" "I" ∈ gd := gdc_2_1 7 rfl gw_fieldLink
theorem m381 : Cond.fieldLink RX5 40 "SlabWalk$Course" "most" "I" ∈ gd := gdc_2_1 9 rfl gw_fieldLink
theorem m387 : Cond.fieldLink RX5 65 "SlabWalk$Course" "leap" "I" ∈ gd := gdc_2_1 15 rfl gw_fieldLink
theorem m389 : Cond.fieldLink RX5 30 "SlabWalk$Course" "last" "I" ∈ gd := gdc_2_2 1 rfl gw_fieldLink
theorem m392 : Cond.fieldLink RX5 47 "SlabWalk$Course" "end" "I" ∈ gd := gdc_2_2 4 rfl gw_fieldLink
theorem m464 : Cond.fieldLink RX5 11 "SlabWalk$Odds" "stepped" "[J" ∈ gd := gdc_2_6 12 rfl gw_fieldLink
theorem m465 : Cond.fieldLink RX5 15 "SlabWalk$Odds" "leapt" "[J" ∈ gd := gdc_2_6 13 rfl gw_fieldLink
theorem m466 : Cond.fieldLink RX5 18 "SlabWalk$Odds" "sums" "[J" ∈ gd := gdc_2_6 14 rfl gw_fieldLink
theorem m467 : Cond.fieldLink RX5 21 "SlabWalk$Odds" "steppedSums" "[J" ∈ gd := gdc_2_6 15 rfl gw_fieldLink
theorem m469 : Cond.fieldLink RX5 27 "SlabWalk$Odds" "aims" "[J" ∈ gd := gdc_2_7 1 rfl gw_fieldLink
theorem m470 : Cond.fieldLink RX5 82 "SlabWalk$Odds" "boldest" "I" ∈ gd := gdc_2_7 2 rfl gw_fieldLink
theorem m1023 : Cond.methodLink RX5 43 yX5_setNextFeet ∈ gd := gdc_4_11 11 rfl gw_methodLink
theorem m1025 : Cond.instanceMethod yX5_setNextFeet ∈ gd := gdc_4_11 13 rfl gw_instanceMethod
theorem m1026 : Cond.code yX5_setNextFeet cX5_setNextFeet 4 none ∈ gd := gdc_4_11 14 rfl gw_code
theorem m1027 : Cond.methodLink RX5 61 yX5_sumOf ∈ gd := gdc_4_11 15 rfl gw_methodLink
theorem m1028 : Cond.static yX5_sumOf ∈ gd := gdc_4_12 0 rfl gw_static
theorem m1029 : Cond.code yX5_sumOf cX5_sumOf 6 (some .long) ∈ gd := gdc_4_12 1 rfl gw_code
theorem m1030 : Cond.methodLink RX5 68 Lib.Math.max.name ∈ gd := gdc_4_12 2 rfl gw_methodLink
theorem m1031 : Cond.methodLink RX5 72 Lib.Math.min.name ∈ gd := gdc_4_12 3 rfl gw_methodLink
theorem m1032 : Cond.constantLong RX5 50 1000000000000000 ∈ gd := gdc_4_12 4 rfl gw_constantLong
theorem m1033 : Cond.methodLink RX5 52 Lib.MathLoose.min_long.x ∈ gd := gdc_4_12 5 rfl gw_methodLink
theorem m1034 : Cond.static Lib.MathLoose.min_long.x ∈ gd := gdc_4_12 6 rfl gw_static
theorem m1035 : Cond.code Lib.MathLoose.min_long.x Lib.MathLoose.min_long.code 4 (some .long) ∈ gd := gdc_4_12 7 rfl gw_code
theorem m1130 : Cond.methodLink RX5 78 yX5_aimFrom ∈ gd := gdc_5_3 6 rfl gw_methodLink
theorem m1132 : Cond.instanceMethod yX5_aimFrom ∈ gd := gdc_5_3 8 rfl gw_instanceMethod
theorem m1133 : Cond.code yX5_aimFrom cX5_aimFrom 4 (some .long) ∈ gd := gdc_5_3 9 rfl gw_code
def rbX5_aimFrom_0 : List (Nat × List Nat) := [(0, [42]), (1, [180, 0, 27]), (4, [28]), (5, [29]), (6, [96]), (7, [43]), (8, [180, 0, 30]), (11, [5]), (12, [96]), (13, [184, 0, 72]), (16, [47]), (17, [173])]
theorem rcX5_aimFrom_0 : dgo (lb cX5_aimFrom) 0 rbX5_aimFrom_0 = true := by decide +kernel
theorem dX5_aimFrom_0 : decode cX5_aimFrom 0 = .ok (.aload_n 0, 1) := dk_42 (dw rcX5_aimFrom_0 0 rfl)
theorem dX5_aimFrom_1 : decode cX5_aimFrom 1 = .ok (.getfield 27, 3) := dk_180 (dw rcX5_aimFrom_0 1 rfl) rfl
theorem dX5_aimFrom_4 : decode cX5_aimFrom 4 = .ok (.iload_n 2, 1) := dk_28 (dw rcX5_aimFrom_0 2 rfl)
theorem dX5_aimFrom_5 : decode cX5_aimFrom 5 = .ok (.iload_n 3, 1) := dk_29 (dw rcX5_aimFrom_0 3 rfl)
theorem dX5_aimFrom_6 : decode cX5_aimFrom 6 = .ok (.iadd, 1) := dk_96 (dw rcX5_aimFrom_0 4 rfl)
theorem dX5_aimFrom_7 : decode cX5_aimFrom 7 = .ok (.aload_n 1, 1) := dk_43 (dw rcX5_aimFrom_0 5 rfl)
theorem dX5_aimFrom_8 : decode cX5_aimFrom 8 = .ok (.getfield 30, 3) := dk_180 (dw rcX5_aimFrom_0 6 rfl) rfl
theorem dX5_aimFrom_11 : decode cX5_aimFrom 11 = .ok (.iconst 2, 1) := dk_5 (dw rcX5_aimFrom_0 7 rfl)
theorem dX5_aimFrom_12 : decode cX5_aimFrom 12 = .ok (.iadd, 1) := dk_96 (dw rcX5_aimFrom_0 8 rfl)
theorem dX5_aimFrom_13 : decode cX5_aimFrom 13 = .ok (.invokestatic 72, 3) := dk_184 (dw rcX5_aimFrom_0 9 rfl) rfl
theorem dX5_aimFrom_16 : decode cX5_aimFrom 16 = .ok (.laload, 1) := dk_47 (dw rcX5_aimFrom_0 10 rfl)
theorem dX5_aimFrom_17 : decode cX5_aimFrom 17 = .ok (.lreturn, 1) := dk_173 (dw rcX5_aimFrom_0 11 rfl)
def rbX5_bestStep_0 : List (Nat × List Nat) := [(0, [43]), (1, [180, 0, 58]), (4, [62]), (5, [42]), (6, [43]), (7, [28]), (8, [29]), (9, [182, 0, 78]), (12, [55, 4]), (14, [29]), (15, [4]), (16, [96]), (17, [54, 6]), (19, [21, 6]), (21, [43]), (22, [180, 0, 40]), (25, [163, 0, 51]), (28, [28]), (29, [21, 6]), (31, [96]), (32, [43]), (33, [180, 0, 30]), (36, [5]), (37, [96])]
theorem rcX5_bestStep_0 : dgo (lb cX5_bestStep) 0 rbX5_bestStep_0 = true := by decide +kernel
theorem dX5_bestStep_0 : decode cX5_bestStep 0 = .ok (.aload_n 1, 1) := dk_43 (dw rcX5_bestStep_0 0 rfl)
theorem dX5_bestStep_1 : decode cX5_bestStep 1 = .ok (.getfield 58, 3) := dk_180 (dw rcX5_bestStep_0 1 rfl) rfl
theorem dX5_bestStep_4 : decode cX5_bestStep 4 = .ok (.istore_n 3, 1) := dk_62 (dw rcX5_bestStep_0 2 rfl)
theorem dX5_bestStep_5 : decode cX5_bestStep 5 = .ok (.aload_n 0, 1) := dk_42 (dw rcX5_bestStep_0 3 rfl)
theorem dX5_bestStep_6 : decode cX5_bestStep 6 = .ok (.aload_n 1, 1) := dk_43 (dw rcX5_bestStep_0 4 rfl)
theorem dX5_bestStep_7 : decode cX5_bestStep 7 = .ok (.iload_n 2, 1) := dk_28 (dw rcX5_bestStep_0 5 rfl)
theorem dX5_bestStep_8 : decode cX5_bestStep 8 = .ok (.iload_n 3, 1) := dk_29 (dw rcX5_bestStep_0 6 rfl)
theorem dX5_bestStep_9 : decode cX5_bestStep 9 = .ok (.invokevirtual 78, 3) := dk_182 (dw rcX5_bestStep_0 7 rfl) rfl
theorem dX5_bestStep_12 : decode cX5_bestStep 12 = .ok (.lstore 4, 2) := dk_55 (dw rcX5_bestStep_0 8 rfl)
theorem dX5_bestStep_14 : decode cX5_bestStep 14 = .ok (.iload_n 3, 1) := dk_29 (dw rcX5_bestStep_0 9 rfl)
theorem dX5_bestStep_15 : decode cX5_bestStep 15 = .ok (.iconst 1, 1) := dk_4 (dw rcX5_bestStep_0 10 rfl)
theorem dX5_bestStep_16 : decode cX5_bestStep 16 = .ok (.iadd, 1) := dk_96 (dw rcX5_bestStep_0 11 rfl)
theorem dX5_bestStep_17 : decode cX5_bestStep 17 = .ok (.istore 6, 2) := dk_54 (dw rcX5_bestStep_0 12 rfl)
theorem dX5_bestStep_19 : decode cX5_bestStep 19 = .ok (.iload 6, 2) := dk_21 (dw rcX5_bestStep_0 13 rfl)
theorem dX5_bestStep_21 : decode cX5_bestStep 21 = .ok (.aload_n 1, 1) := dk_43 (dw rcX5_bestStep_0 14 rfl)
theorem dX5_bestStep_22 : decode cX5_bestStep 22 = .ok (.getfield 40, 3) := dk_180 (dw rcX5_bestStep_0 15 rfl) rfl
theorem dX5_bestStep_25 : decode cX5_bestStep 25 = .ok (.if_icmp .gt 51, 3) := dk_163 (dw rcX5_bestStep_0 16 rfl) rfl
theorem dX5_bestStep_28 : decode cX5_bestStep 28 = .ok (.iload_n 2, 1) := dk_28 (dw rcX5_bestStep_0 17 rfl)
theorem dX5_bestStep_29 : decode cX5_bestStep 29 = .ok (.iload 6, 2) := dk_21 (dw rcX5_bestStep_0 18 rfl)
theorem dX5_bestStep_31 : decode cX5_bestStep 31 = .ok (.iadd, 1) := dk_96 (dw rcX5_bestStep_0 19 rfl)
theorem dX5_bestStep_32 : decode cX5_bestStep 32 = .ok (.aload_n 1, 1) := dk_43 (dw rcX5_bestStep_0 20 rfl)
theorem dX5_bestStep_33 : decode cX5_bestStep 33 = .ok (.getfield 30, 3) := dk_180 (dw rcX5_bestStep_0 21 rfl) rfl
theorem dX5_bestStep_36 : decode cX5_bestStep 36 = .ok (.iconst 2, 1) := dk_5 (dw rcX5_bestStep_0 22 rfl)
theorem dX5_bestStep_37 : decode cX5_bestStep 37 = .ok (.iadd, 1) := dk_96 (dw rcX5_bestStep_0 23 rfl)
def rbX5_bestStep_38 : List (Nat × List Nat) := [(38, [163, 0, 38]), (41, [42]), (42, [180, 0, 27]), (45, [28]), (46, [21, 6]), (48, [96]), (49, [47]), (50, [22, 4]), (52, [148]), (53, [158, 0, 17]), (56, [21, 6]), (58, [62]), (59, [42]), (60, [180, 0, 27]), (63, [28]), (64, [21, 6]), (66, [96]), (67, [47]), (68, [55, 4]), (70, [132, 6, 1]), (73, [167, 255, 202]), (76, [29]), (77, [172])]
theorem rcX5_bestStep_38 : dgo (lb cX5_bestStep) 0 rbX5_bestStep_38 = true := by decide +kernel
theorem dX5_bestStep_38 : decode cX5_bestStep 38 = .ok (.if_icmp .gt 38, 3) := dk_163 (dw rcX5_bestStep_38 0 rfl) rfl
theorem dX5_bestStep_41 : decode cX5_bestStep 41 = .ok (.aload_n 0, 1) := dk_42 (dw rcX5_bestStep_38 1 rfl)
theorem dX5_bestStep_42 : decode cX5_bestStep 42 = .ok (.getfield 27, 3) := dk_180 (dw rcX5_bestStep_38 2 rfl) rfl
theorem dX5_bestStep_45 : decode cX5_bestStep 45 = .ok (.iload_n 2, 1) := dk_28 (dw rcX5_bestStep_38 3 rfl)
theorem dX5_bestStep_46 : decode cX5_bestStep 46 = .ok (.iload 6, 2) := dk_21 (dw rcX5_bestStep_38 4 rfl)
theorem dX5_bestStep_48 : decode cX5_bestStep 48 = .ok (.iadd, 1) := dk_96 (dw rcX5_bestStep_38 5 rfl)
theorem dX5_bestStep_49 : decode cX5_bestStep 49 = .ok (.laload, 1) := dk_47 (dw rcX5_bestStep_38 6 rfl)
theorem dX5_bestStep_50 : decode cX5_bestStep 50 = .ok (.lload 4, 2) := dk_22 (dw rcX5_bestStep_38 7 rfl)
theorem dX5_bestStep_52 : decode cX5_bestStep 52 = .ok (.lcmp, 1) := dk_148 (dw rcX5_bestStep_38 8 rfl)
theorem dX5_bestStep_53 : decode cX5_bestStep 53 = .ok (.ifCond .le 17, 3) := dk_158 (dw rcX5_bestStep_38 9 rfl) rfl
theorem dX5_bestStep_56 : decode cX5_bestStep 56 = .ok (.iload 6, 2) := dk_21 (dw rcX5_bestStep_38 10 rfl)
theorem dX5_bestStep_58 : decode cX5_bestStep 58 = .ok (.istore_n 3, 1) := dk_62 (dw rcX5_bestStep_38 11 rfl)
theorem dX5_bestStep_59 : decode cX5_bestStep 59 = .ok (.aload_n 0, 1) := dk_42 (dw rcX5_bestStep_38 12 rfl)
theorem dX5_bestStep_60 : decode cX5_bestStep 60 = .ok (.getfield 27, 3) := dk_180 (dw rcX5_bestStep_38 13 rfl) rfl
theorem dX5_bestStep_63 : decode cX5_bestStep 63 = .ok (.iload_n 2, 1) := dk_28 (dw rcX5_bestStep_38 14 rfl)
theorem dX5_bestStep_64 : decode cX5_bestStep 64 = .ok (.iload 6, 2) := dk_21 (dw rcX5_bestStep_38 15 rfl)
theorem dX5_bestStep_66 : decode cX5_bestStep 66 = .ok (.iadd, 1) := dk_96 (dw rcX5_bestStep_38 16 rfl)
theorem dX5_bestStep_67 : decode cX5_bestStep 67 = .ok (.laload, 1) := dk_47 (dw rcX5_bestStep_38 17 rfl)
theorem dX5_bestStep_68 : decode cX5_bestStep 68 = .ok (.lstore 4, 2) := dk_55 (dw rcX5_bestStep_38 18 rfl)
theorem dX5_bestStep_70 : decode cX5_bestStep 70 = .ok (.iinc 6 1, 3) := dk_132 (dw rcX5_bestStep_38 19 rfl) rfl
theorem dX5_bestStep_73 : decode cX5_bestStep 73 = .ok (.goto (-54), 3) := dk_167 (dw rcX5_bestStep_38 20 rfl) rfl
theorem dX5_bestStep_76 : decode cX5_bestStep 76 = .ok (.iload_n 3, 1) := dk_29 (dw rcX5_bestStep_38 21 rfl)
theorem dX5_bestStep_77 : decode cX5_bestStep 77 = .ok (.ireturn, 1) := dk_172 (dw rcX5_bestStep_38 22 rfl)
def rbX5_boldestStep_0 : List (Nat × List Nat) := [(0, [42]), (1, [180, 0, 82]), (4, [172])]
theorem rcX5_boldestStep_0 : dgo (lb cX5_boldestStep) 0 rbX5_boldestStep_0 = true := by decide +kernel
theorem dX5_boldestStep_0 : decode cX5_boldestStep 0 = .ok (.aload_n 0, 1) := dk_42 (dw rcX5_boldestStep_0 0 rfl)
theorem dX5_boldestStep_1 : decode cX5_boldestStep 1 = .ok (.getfield 82, 3) := dk_180 (dw rcX5_boldestStep_0 1 rfl) rfl
theorem dX5_boldestStep_4 : decode cX5_boldestStep 4 = .ok (.ireturn, 1) := dk_172 (dw rcX5_boldestStep_0 2 rfl)
def rbX5_countWays_0 : List (Nat × List Nat) := [(0, [3]), (1, [62]), (2, [29]), (3, [43]), (4, [180, 0, 30]), (7, [163, 0, 44]), (10, [42]), (11, [180, 0, 11]), (14, [29]), (15, [43]), (16, [180, 0, 36]), (19, [29]), (20, [51]), (21, [153, 0, 15]), (24, [29]), (25, [43]), (26, [180, 0, 40]), (29, [162, 0, 7]), (32, [10]), (33, [167, 0, 4]), (36, [9]), (37, [80]), (38, [42]), (39, [180, 0, 15])]
theorem rcX5_countWays_0 : dgo (lb cX5_countWays) 0 rbX5_countWays_0 = true := by decide +kernel
theorem dX5_countWays_0 : decode cX5_countWays 0 = .ok (.iconst 0, 1) := dk_3 (dw rcX5_countWays_0 0 rfl)
theorem dX5_countWays_1 : decode cX5_countWays 1 = .ok (.istore_n 3, 1) := dk_62 (dw rcX5_countWays_0 1 rfl)
theorem dX5_countWays_2 : decode cX5_countWays 2 = .ok (.iload_n 3, 1) := dk_29 (dw rcX5_countWays_0 2 rfl)
theorem dX5_countWays_3 : decode cX5_countWays 3 = .ok (.aload_n 1, 1) := dk_43 (dw rcX5_countWays_0 3 rfl)
theorem dX5_countWays_4 : decode cX5_countWays 4 = .ok (.getfield 30, 3) := dk_180 (dw rcX5_countWays_0 4 rfl) rfl
theorem dX5_countWays_7 : decode cX5_countWays 7 = .ok (.if_icmp .gt 44, 3) := dk_163 (dw rcX5_countWays_0 5 rfl) rfl
theorem dX5_countWays_10 : decode cX5_countWays 10 = .ok (.aload_n 0, 1) := dk_42 (dw rcX5_countWays_0 6 rfl)
theorem dX5_countWays_11 : decode cX5_countWays 11 = .ok (.getfield 11, 3) := dk_180 (dw rcX5_countWays_0 7 rfl) rfl
theorem dX5_countWays_14 : decode cX5_countWays 14 = .ok (.iload_n 3, 1) := dk_29 (dw rcX5_countWays_0 8 rfl)
theorem dX5_countWays_15 : decode cX5_countWays 15 = .ok (.aload_n 1, 1) := dk_43 (dw rcX5_countWays_0 9 rfl)
theorem dX5_countWays_16 : decode cX5_countWays 16 = .ok (.getfield 36, 3) := dk_180 (dw rcX5_countWays_0 10 rfl) rfl
theorem dX5_countWays_19 : decode cX5_countWays 19 = .ok (.iload_n 3, 1) := dk_29 (dw rcX5_countWays_0 11 rfl)
theorem dX5_countWays_20 : decode cX5_countWays 20 = .ok (.baload, 1) := dk_51 (dw rcX5_countWays_0 12 rfl)
theorem dX5_countWays_21 : decode cX5_countWays 21 = .ok (.ifCond .eq 15, 3) := dk_153 (dw rcX5_countWays_0 13 rfl) rfl
theorem dX5_countWays_24 : decode cX5_countWays 24 = .ok (.iload_n 3, 1) := dk_29 (dw rcX5_countWays_0 14 rfl)
theorem dX5_countWays_25 : decode cX5_countWays 25 = .ok (.aload_n 1, 1) := dk_43 (dw rcX5_countWays_0 15 rfl)
theorem dX5_countWays_26 : decode cX5_countWays 26 = .ok (.getfield 40, 3) := dk_180 (dw rcX5_countWays_0 16 rfl) rfl
theorem dX5_countWays_29 : decode cX5_countWays 29 = .ok (.if_icmp .ge 7, 3) := dk_162 (dw rcX5_countWays_0 17 rfl) rfl
theorem dX5_countWays_32 : decode cX5_countWays 32 = .ok (.lconst 1, 1) := dk_10 (dw rcX5_countWays_0 18 rfl)
theorem dX5_countWays_33 : decode cX5_countWays 33 = .ok (.goto 4, 3) := dk_167 (dw rcX5_countWays_0 19 rfl) rfl
theorem dX5_countWays_36 : decode cX5_countWays 36 = .ok (.lconst 0, 1) := dk_9 (dw rcX5_countWays_0 20 rfl)
theorem dX5_countWays_37 : decode cX5_countWays 37 = .ok (.lastore, 1) := dk_80 (dw rcX5_countWays_0 21 rfl)
theorem dX5_countWays_38 : decode cX5_countWays 38 = .ok (.aload_n 0, 1) := dk_42 (dw rcX5_countWays_0 22 rfl)
theorem dX5_countWays_39 : decode cX5_countWays 39 = .ok (.getfield 15, 3) := dk_180 (dw rcX5_countWays_0 23 rfl) rfl
def rbX5_countWays_42 : List (Nat × List Nat) := [(42, [29]), (43, [9]), (44, [80]), (45, [132, 3, 1]), (48, [167, 255, 210]), (51, [4]), (52, [62]), (53, [29]), (54, [28]), (55, [162, 0, 14]), (58, [42]), (59, [43]), (60, [182, 0, 43]), (63, [132, 3, 1]), (66, [167, 255, 243]), (69, [9]), (70, [66]), (71, [43]), (72, [180, 0, 47]), (75, [54, 5]), (77, [21, 5]), (79, [43]), (80, [180, 0, 30]), (83, [163, 0, 33])]
theorem rcX5_countWays_42 : dgo (lb cX5_countWays) 0 rbX5_countWays_42 = true := by decide +kernel
theorem dX5_countWays_42 : decode cX5_countWays 42 = .ok (.iload_n 3, 1) := dk_29 (dw rcX5_countWays_42 0 rfl)
theorem dX5_countWays_43 : decode cX5_countWays 43 = .ok (.lconst 0, 1) := dk_9 (dw rcX5_countWays_42 1 rfl)
theorem dX5_countWays_44 : decode cX5_countWays 44 = .ok (.lastore, 1) := dk_80 (dw rcX5_countWays_42 2 rfl)
theorem dX5_countWays_45 : decode cX5_countWays 45 = .ok (.iinc 3 1, 3) := dk_132 (dw rcX5_countWays_42 3 rfl) rfl
theorem dX5_countWays_48 : decode cX5_countWays 48 = .ok (.goto (-46), 3) := dk_167 (dw rcX5_countWays_42 4 rfl) rfl
theorem dX5_countWays_51 : decode cX5_countWays 51 = .ok (.iconst 1, 1) := dk_4 (dw rcX5_countWays_42 5 rfl)
theorem dX5_countWays_52 : decode cX5_countWays 52 = .ok (.istore_n 3, 1) := dk_62 (dw rcX5_countWays_42 6 rfl)
theorem dX5_countWays_53 : decode cX5_countWays 53 = .ok (.iload_n 3, 1) := dk_29 (dw rcX5_countWays_42 7 rfl)
theorem dX5_countWays_54 : decode cX5_countWays 54 = .ok (.iload_n 2, 1) := dk_28 (dw rcX5_countWays_42 8 rfl)
theorem dX5_countWays_55 : decode cX5_countWays 55 = .ok (.if_icmp .ge 14, 3) := dk_162 (dw rcX5_countWays_42 9 rfl) rfl
theorem dX5_countWays_58 : decode cX5_countWays 58 = .ok (.aload_n 0, 1) := dk_42 (dw rcX5_countWays_42 10 rfl)
theorem dX5_countWays_59 : decode cX5_countWays 59 = .ok (.aload_n 1, 1) := dk_43 (dw rcX5_countWays_42 11 rfl)
theorem dX5_countWays_60 : decode cX5_countWays 60 = .ok (.invokevirtual 43, 3) := dk_182 (dw rcX5_countWays_42 12 rfl) rfl
theorem dX5_countWays_63 : decode cX5_countWays 63 = .ok (.iinc 3 1, 3) := dk_132 (dw rcX5_countWays_42 13 rfl) rfl
theorem dX5_countWays_66 : decode cX5_countWays 66 = .ok (.goto (-13), 3) := dk_167 (dw rcX5_countWays_42 14 rfl) rfl
theorem dX5_countWays_69 : decode cX5_countWays 69 = .ok (.lconst 0, 1) := dk_9 (dw rcX5_countWays_42 15 rfl)
theorem dX5_countWays_70 : decode cX5_countWays 70 = .ok (.lstore_n 3, 1) := dk_66 (dw rcX5_countWays_42 16 rfl)
theorem dX5_countWays_71 : decode cX5_countWays 71 = .ok (.aload_n 1, 1) := dk_43 (dw rcX5_countWays_42 17 rfl)
theorem dX5_countWays_72 : decode cX5_countWays 72 = .ok (.getfield 47, 3) := dk_180 (dw rcX5_countWays_42 18 rfl) rfl
theorem dX5_countWays_75 : decode cX5_countWays 75 = .ok (.istore 5, 2) := dk_54 (dw rcX5_countWays_42 19 rfl)
theorem dX5_countWays_77 : decode cX5_countWays 77 = .ok (.iload 5, 2) := dk_21 (dw rcX5_countWays_42 20 rfl)
theorem dX5_countWays_79 : decode cX5_countWays 79 = .ok (.aload_n 1, 1) := dk_43 (dw rcX5_countWays_42 21 rfl)
theorem dX5_countWays_80 : decode cX5_countWays 80 = .ok (.getfield 30, 3) := dk_180 (dw rcX5_countWays_42 22 rfl) rfl
theorem dX5_countWays_83 : decode cX5_countWays 83 = .ok (.if_icmp .gt 33, 3) := dk_163 (dw rcX5_countWays_42 23 rfl) rfl
def rbX5_countWays_86 : List (Nat × List Nat) := [(86, [20, 0, 50]), (89, [33]), (90, [42]), (91, [180, 0, 11]), (94, [21, 5]), (96, [47]), (97, [97]), (98, [42]), (99, [180, 0, 15]), (102, [21, 5]), (104, [47]), (105, [97]), (106, [184, 0, 52]), (109, [66]), (110, [132, 5, 1]), (113, [167, 255, 220]), (116, [33]), (117, [173])]
theorem rcX5_countWays_86 : dgo (lb cX5_countWays) 0 rbX5_countWays_86 = true := by decide +kernel
theorem dX5_countWays_86 : decode cX5_countWays 86 = .ok (.ldc2_w 50, 3) := dk_20 (dw rcX5_countWays_86 0 rfl) rfl
theorem dX5_countWays_89 : decode cX5_countWays 89 = .ok (.lload_n 3, 1) := dk_33 (dw rcX5_countWays_86 1 rfl)
theorem dX5_countWays_90 : decode cX5_countWays 90 = .ok (.aload_n 0, 1) := dk_42 (dw rcX5_countWays_86 2 rfl)
theorem dX5_countWays_91 : decode cX5_countWays 91 = .ok (.getfield 11, 3) := dk_180 (dw rcX5_countWays_86 3 rfl) rfl
theorem dX5_countWays_94 : decode cX5_countWays 94 = .ok (.iload 5, 2) := dk_21 (dw rcX5_countWays_86 4 rfl)
theorem dX5_countWays_96 : decode cX5_countWays 96 = .ok (.laload, 1) := dk_47 (dw rcX5_countWays_86 5 rfl)
theorem dX5_countWays_97 : decode cX5_countWays 97 = .ok (.ladd, 1) := dk_97 (dw rcX5_countWays_86 6 rfl)
theorem dX5_countWays_98 : decode cX5_countWays 98 = .ok (.aload_n 0, 1) := dk_42 (dw rcX5_countWays_86 7 rfl)
theorem dX5_countWays_99 : decode cX5_countWays 99 = .ok (.getfield 15, 3) := dk_180 (dw rcX5_countWays_86 8 rfl) rfl
theorem dX5_countWays_102 : decode cX5_countWays 102 = .ok (.iload 5, 2) := dk_21 (dw rcX5_countWays_86 9 rfl)
theorem dX5_countWays_104 : decode cX5_countWays 104 = .ok (.laload, 1) := dk_47 (dw rcX5_countWays_86 10 rfl)
theorem dX5_countWays_105 : decode cX5_countWays 105 = .ok (.ladd, 1) := dk_97 (dw rcX5_countWays_86 11 rfl)
theorem dX5_countWays_106 : decode cX5_countWays 106 = .ok (.invokestatic 52, 3) := dk_184 (dw rcX5_countWays_86 12 rfl) rfl
theorem dX5_countWays_109 : decode cX5_countWays 109 = .ok (.lstore_n 3, 1) := dk_66 (dw rcX5_countWays_86 13 rfl)
theorem dX5_countWays_110 : decode cX5_countWays 110 = .ok (.iinc 5 1, 3) := dk_132 (dw rcX5_countWays_86 14 rfl) rfl
theorem dX5_countWays_113 : decode cX5_countWays 113 = .ok (.goto (-36), 3) := dk_167 (dw rcX5_countWays_86 15 rfl) rfl
theorem dX5_countWays_116 : decode cX5_countWays 116 = .ok (.lload_n 3, 1) := dk_33 (dw rcX5_countWays_86 16 rfl)
theorem dX5_countWays_117 : decode cX5_countWays 117 = .ok (.lreturn, 1) := dk_173 (dw rcX5_countWays_86 17 rfl)
def rbX5_setNextFeet_0 : List (Nat × List Nat) := [(0, [42]), (1, [180, 0, 18]), (4, [3]), (5, [9]), (6, [80]), (7, [42]), (8, [180, 0, 21]), (11, [3]), (12, [9]), (13, [80]), (14, [3]), (15, [61]), (16, [28]), (17, [43]), (18, [180, 0, 47]), (21, [162, 0, 58]), (24, [42]), (25, [180, 0, 18]), (28, [28]), (29, [4]), (30, [96]), (31, [42]), (32, [180, 0, 18]), (35, [28])]
theorem rcX5_setNextFeet_0 : dgo (lb cX5_setNextFeet) 0 rbX5_setNextFeet_0 = true := by decide +kernel
theorem dX5_setNextFeet_0 : decode cX5_setNextFeet 0 = .ok (.aload_n 0, 1) := dk_42 (dw rcX5_setNextFeet_0 0 rfl)
theorem dX5_setNextFeet_1 : decode cX5_setNextFeet 1 = .ok (.getfield 18, 3) := dk_180 (dw rcX5_setNextFeet_0 1 rfl) rfl
theorem dX5_setNextFeet_4 : decode cX5_setNextFeet 4 = .ok (.iconst 0, 1) := dk_3 (dw rcX5_setNextFeet_0 2 rfl)
theorem dX5_setNextFeet_5 : decode cX5_setNextFeet 5 = .ok (.lconst 0, 1) := dk_9 (dw rcX5_setNextFeet_0 3 rfl)
theorem dX5_setNextFeet_6 : decode cX5_setNextFeet 6 = .ok (.lastore, 1) := dk_80 (dw rcX5_setNextFeet_0 4 rfl)
theorem dX5_setNextFeet_7 : decode cX5_setNextFeet 7 = .ok (.aload_n 0, 1) := dk_42 (dw rcX5_setNextFeet_0 5 rfl)
theorem dX5_setNextFeet_8 : decode cX5_setNextFeet 8 = .ok (.getfield 21, 3) := dk_180 (dw rcX5_setNextFeet_0 6 rfl) rfl
theorem dX5_setNextFeet_11 : decode cX5_setNextFeet 11 = .ok (.iconst 0, 1) := dk_3 (dw rcX5_setNextFeet_0 7 rfl)
theorem dX5_setNextFeet_12 : decode cX5_setNextFeet 12 = .ok (.lconst 0, 1) := dk_9 (dw rcX5_setNextFeet_0 8 rfl)
theorem dX5_setNextFeet_13 : decode cX5_setNextFeet 13 = .ok (.lastore, 1) := dk_80 (dw rcX5_setNextFeet_0 9 rfl)
theorem dX5_setNextFeet_14 : decode cX5_setNextFeet 14 = .ok (.iconst 0, 1) := dk_3 (dw rcX5_setNextFeet_0 10 rfl)
theorem dX5_setNextFeet_15 : decode cX5_setNextFeet 15 = .ok (.istore_n 2, 1) := dk_61 (dw rcX5_setNextFeet_0 11 rfl)
theorem dX5_setNextFeet_16 : decode cX5_setNextFeet 16 = .ok (.iload_n 2, 1) := dk_28 (dw rcX5_setNextFeet_0 12 rfl)
theorem dX5_setNextFeet_17 : decode cX5_setNextFeet 17 = .ok (.aload_n 1, 1) := dk_43 (dw rcX5_setNextFeet_0 13 rfl)
theorem dX5_setNextFeet_18 : decode cX5_setNextFeet 18 = .ok (.getfield 47, 3) := dk_180 (dw rcX5_setNextFeet_0 14 rfl) rfl
theorem dX5_setNextFeet_21 : decode cX5_setNextFeet 21 = .ok (.if_icmp .ge 58, 3) := dk_162 (dw rcX5_setNextFeet_0 15 rfl) rfl
theorem dX5_setNextFeet_24 : decode cX5_setNextFeet 24 = .ok (.aload_n 0, 1) := dk_42 (dw rcX5_setNextFeet_0 16 rfl)
theorem dX5_setNextFeet_25 : decode cX5_setNextFeet 25 = .ok (.getfield 18, 3) := dk_180 (dw rcX5_setNextFeet_0 17 rfl) rfl
theorem dX5_setNextFeet_28 : decode cX5_setNextFeet 28 = .ok (.iload_n 2, 1) := dk_28 (dw rcX5_setNextFeet_0 18 rfl)
theorem dX5_setNextFeet_29 : decode cX5_setNextFeet 29 = .ok (.iconst 1, 1) := dk_4 (dw rcX5_setNextFeet_0 19 rfl)
theorem dX5_setNextFeet_30 : decode cX5_setNextFeet 30 = .ok (.iadd, 1) := dk_96 (dw rcX5_setNextFeet_0 20 rfl)
theorem dX5_setNextFeet_31 : decode cX5_setNextFeet 31 = .ok (.aload_n 0, 1) := dk_42 (dw rcX5_setNextFeet_0 21 rfl)
theorem dX5_setNextFeet_32 : decode cX5_setNextFeet 32 = .ok (.getfield 18, 3) := dk_180 (dw rcX5_setNextFeet_0 22 rfl) rfl
theorem dX5_setNextFeet_35 : decode cX5_setNextFeet 35 = .ok (.iload_n 2, 1) := dk_28 (dw rcX5_setNextFeet_0 23 rfl)
def rbX5_setNextFeet_36 : List (Nat × List Nat) := [(36, [47]), (37, [42]), (38, [180, 0, 11]), (41, [28]), (42, [47]), (43, [97]), (44, [42]), (45, [180, 0, 15]), (48, [28]), (49, [47]), (50, [97]), (51, [80]), (52, [42]), (53, [180, 0, 21]), (56, [28]), (57, [4]), (58, [96]), (59, [42]), (60, [180, 0, 21]), (63, [28]), (64, [47]), (65, [42]), (66, [180, 0, 11]), (69, [28])]
theorem rcX5_setNextFeet_36 : dgo (lb cX5_setNextFeet) 0 rbX5_setNextFeet_36 = true := by decide +kernel
theorem dX5_setNextFeet_36 : decode cX5_setNextFeet 36 = .ok (.laload, 1) := dk_47 (dw rcX5_setNextFeet_36 0 rfl)
theorem dX5_setNextFeet_37 : decode cX5_setNextFeet 37 = .ok (.aload_n 0, 1) := dk_42 (dw rcX5_setNextFeet_36 1 rfl)
theorem dX5_setNextFeet_38 : decode cX5_setNextFeet 38 = .ok (.getfield 11, 3) := dk_180 (dw rcX5_setNextFeet_36 2 rfl) rfl
theorem dX5_setNextFeet_41 : decode cX5_setNextFeet 41 = .ok (.iload_n 2, 1) := dk_28 (dw rcX5_setNextFeet_36 3 rfl)
theorem dX5_setNextFeet_42 : decode cX5_setNextFeet 42 = .ok (.laload, 1) := dk_47 (dw rcX5_setNextFeet_36 4 rfl)
theorem dX5_setNextFeet_43 : decode cX5_setNextFeet 43 = .ok (.ladd, 1) := dk_97 (dw rcX5_setNextFeet_36 5 rfl)
theorem dX5_setNextFeet_44 : decode cX5_setNextFeet 44 = .ok (.aload_n 0, 1) := dk_42 (dw rcX5_setNextFeet_36 6 rfl)
theorem dX5_setNextFeet_45 : decode cX5_setNextFeet 45 = .ok (.getfield 15, 3) := dk_180 (dw rcX5_setNextFeet_36 7 rfl) rfl
theorem dX5_setNextFeet_48 : decode cX5_setNextFeet 48 = .ok (.iload_n 2, 1) := dk_28 (dw rcX5_setNextFeet_36 8 rfl)
theorem dX5_setNextFeet_49 : decode cX5_setNextFeet 49 = .ok (.laload, 1) := dk_47 (dw rcX5_setNextFeet_36 9 rfl)
theorem dX5_setNextFeet_50 : decode cX5_setNextFeet 50 = .ok (.ladd, 1) := dk_97 (dw rcX5_setNextFeet_36 10 rfl)
theorem dX5_setNextFeet_51 : decode cX5_setNextFeet 51 = .ok (.lastore, 1) := dk_80 (dw rcX5_setNextFeet_36 11 rfl)
theorem dX5_setNextFeet_52 : decode cX5_setNextFeet 52 = .ok (.aload_n 0, 1) := dk_42 (dw rcX5_setNextFeet_36 12 rfl)
theorem dX5_setNextFeet_53 : decode cX5_setNextFeet 53 = .ok (.getfield 21, 3) := dk_180 (dw rcX5_setNextFeet_36 13 rfl) rfl
theorem dX5_setNextFeet_56 : decode cX5_setNextFeet 56 = .ok (.iload_n 2, 1) := dk_28 (dw rcX5_setNextFeet_36 14 rfl)
theorem dX5_setNextFeet_57 : decode cX5_setNextFeet 57 = .ok (.iconst 1, 1) := dk_4 (dw rcX5_setNextFeet_36 15 rfl)
theorem dX5_setNextFeet_58 : decode cX5_setNextFeet 58 = .ok (.iadd, 1) := dk_96 (dw rcX5_setNextFeet_36 16 rfl)
theorem dX5_setNextFeet_59 : decode cX5_setNextFeet 59 = .ok (.aload_n 0, 1) := dk_42 (dw rcX5_setNextFeet_36 17 rfl)
theorem dX5_setNextFeet_60 : decode cX5_setNextFeet 60 = .ok (.getfield 21, 3) := dk_180 (dw rcX5_setNextFeet_36 18 rfl) rfl
theorem dX5_setNextFeet_63 : decode cX5_setNextFeet 63 = .ok (.iload_n 2, 1) := dk_28 (dw rcX5_setNextFeet_36 19 rfl)
theorem dX5_setNextFeet_64 : decode cX5_setNextFeet 64 = .ok (.laload, 1) := dk_47 (dw rcX5_setNextFeet_36 20 rfl)
theorem dX5_setNextFeet_65 : decode cX5_setNextFeet 65 = .ok (.aload_n 0, 1) := dk_42 (dw rcX5_setNextFeet_36 21 rfl)
theorem dX5_setNextFeet_66 : decode cX5_setNextFeet 66 = .ok (.getfield 11, 3) := dk_180 (dw rcX5_setNextFeet_36 22 rfl) rfl
theorem dX5_setNextFeet_69 : decode cX5_setNextFeet 69 = .ok (.iload_n 2, 1) := dk_28 (dw rcX5_setNextFeet_36 23 rfl)
def rbX5_setNextFeet_70 : List (Nat × List Nat) := [(70, [47]), (71, [97]), (72, [80]), (73, [132, 2, 1]), (76, [167, 255, 196]), (79, [3]), (80, [61]), (81, [28]), (82, [43]), (83, [180, 0, 30]), (86, [163, 0, 92]), (89, [43]), (90, [180, 0, 36]), (93, [28]), (94, [51]), (95, [62]), (96, [42]), (97, [180, 0, 11]), (100, [28]), (101, [29]), (102, [153, 0, 29]), (105, [42]), (106, [180, 0, 18]), (109, [43])]
theorem rcX5_setNextFeet_70 : dgo (lb cX5_setNextFeet) 0 rbX5_setNextFeet_70 = true := by decide +kernel
theorem dX5_setNextFeet_70 : decode cX5_setNextFeet 70 = .ok (.laload, 1) := dk_47 (dw rcX5_setNextFeet_70 0 rfl)
theorem dX5_setNextFeet_71 : decode cX5_setNextFeet 71 = .ok (.ladd, 1) := dk_97 (dw rcX5_setNextFeet_70 1 rfl)
theorem dX5_setNextFeet_72 : decode cX5_setNextFeet 72 = .ok (.lastore, 1) := dk_80 (dw rcX5_setNextFeet_70 2 rfl)
theorem dX5_setNextFeet_73 : decode cX5_setNextFeet 73 = .ok (.iinc 2 1, 3) := dk_132 (dw rcX5_setNextFeet_70 3 rfl) rfl
theorem dX5_setNextFeet_76 : decode cX5_setNextFeet 76 = .ok (.goto (-60), 3) := dk_167 (dw rcX5_setNextFeet_70 4 rfl) rfl
theorem dX5_setNextFeet_79 : decode cX5_setNextFeet 79 = .ok (.iconst 0, 1) := dk_3 (dw rcX5_setNextFeet_70 5 rfl)
theorem dX5_setNextFeet_80 : decode cX5_setNextFeet 80 = .ok (.istore_n 2, 1) := dk_61 (dw rcX5_setNextFeet_70 6 rfl)
theorem dX5_setNextFeet_81 : decode cX5_setNextFeet 81 = .ok (.iload_n 2, 1) := dk_28 (dw rcX5_setNextFeet_70 7 rfl)
theorem dX5_setNextFeet_82 : decode cX5_setNextFeet 82 = .ok (.aload_n 1, 1) := dk_43 (dw rcX5_setNextFeet_70 8 rfl)
theorem dX5_setNextFeet_83 : decode cX5_setNextFeet 83 = .ok (.getfield 30, 3) := dk_180 (dw rcX5_setNextFeet_70 9 rfl) rfl
theorem dX5_setNextFeet_86 : decode cX5_setNextFeet 86 = .ok (.if_icmp .gt 92, 3) := dk_163 (dw rcX5_setNextFeet_70 10 rfl) rfl
theorem dX5_setNextFeet_89 : decode cX5_setNextFeet 89 = .ok (.aload_n 1, 1) := dk_43 (dw rcX5_setNextFeet_70 11 rfl)
theorem dX5_setNextFeet_90 : decode cX5_setNextFeet 90 = .ok (.getfield 36, 3) := dk_180 (dw rcX5_setNextFeet_70 12 rfl) rfl
theorem dX5_setNextFeet_93 : decode cX5_setNextFeet 93 = .ok (.iload_n 2, 1) := dk_28 (dw rcX5_setNextFeet_70 13 rfl)
theorem dX5_setNextFeet_94 : decode cX5_setNextFeet 94 = .ok (.baload, 1) := dk_51 (dw rcX5_setNextFeet_70 14 rfl)
theorem dX5_setNextFeet_95 : decode cX5_setNextFeet 95 = .ok (.istore_n 3, 1) := dk_62 (dw rcX5_setNextFeet_70 15 rfl)
theorem dX5_setNextFeet_96 : decode cX5_setNextFeet 96 = .ok (.aload_n 0, 1) := dk_42 (dw rcX5_setNextFeet_70 16 rfl)
theorem dX5_setNextFeet_97 : decode cX5_setNextFeet 97 = .ok (.getfield 11, 3) := dk_180 (dw rcX5_setNextFeet_70 17 rfl) rfl
theorem dX5_setNextFeet_100 : decode cX5_setNextFeet 100 = .ok (.iload_n 2, 1) := dk_28 (dw rcX5_setNextFeet_70 18 rfl)
theorem dX5_setNextFeet_101 : decode cX5_setNextFeet 101 = .ok (.iload_n 3, 1) := dk_29 (dw rcX5_setNextFeet_70 19 rfl)
theorem dX5_setNextFeet_102 : decode cX5_setNextFeet 102 = .ok (.ifCond .eq 29, 3) := dk_153 (dw rcX5_setNextFeet_70 20 rfl) rfl
theorem dX5_setNextFeet_105 : decode cX5_setNextFeet 105 = .ok (.aload_n 0, 1) := dk_42 (dw rcX5_setNextFeet_70 21 rfl)
theorem dX5_setNextFeet_106 : decode cX5_setNextFeet 106 = .ok (.getfield 18, 3) := dk_180 (dw rcX5_setNextFeet_70 22 rfl) rfl
theorem dX5_setNextFeet_109 : decode cX5_setNextFeet 109 = .ok (.aload_n 1, 1) := dk_43 (dw rcX5_setNextFeet_70 23 rfl)
def rbX5_setNextFeet_110 : List (Nat × List Nat) := [(110, [180, 0, 47]), (113, [28]), (114, [43]), (115, [180, 0, 40]), (118, [100]), (119, [28]), (120, [43]), (121, [180, 0, 58]), (124, [100]), (125, [184, 0, 61]), (128, [167, 0, 4]), (131, [9]), (132, [80]), (133, [42]), (134, [180, 0, 15]), (137, [28]), (138, [29]), (139, [153, 0, 31]), (142, [42]), (143, [180, 0, 21]), (146, [43]), (147, [180, 0, 47]), (150, [28]), (151, [43])]
theorem rcX5_setNextFeet_110 : dgo (lb cX5_setNextFeet) 0 rbX5_setNextFeet_110 = true := by decide +kernel
theorem dX5_setNextFeet_110 : decode cX5_setNextFeet 110 = .ok (.getfield 47, 3) := dk_180 (dw rcX5_setNextFeet_110 0 rfl) rfl
theorem dX5_setNextFeet_113 : decode cX5_setNextFeet 113 = .ok (.iload_n 2, 1) := dk_28 (dw rcX5_setNextFeet_110 1 rfl)
theorem dX5_setNextFeet_114 : decode cX5_setNextFeet 114 = .ok (.aload_n 1, 1) := dk_43 (dw rcX5_setNextFeet_110 2 rfl)
theorem dX5_setNextFeet_115 : decode cX5_setNextFeet 115 = .ok (.getfield 40, 3) := dk_180 (dw rcX5_setNextFeet_110 3 rfl) rfl
theorem dX5_setNextFeet_118 : decode cX5_setNextFeet 118 = .ok (.isub, 1) := dk_100 (dw rcX5_setNextFeet_110 4 rfl)
theorem dX5_setNextFeet_119 : decode cX5_setNextFeet 119 = .ok (.iload_n 2, 1) := dk_28 (dw rcX5_setNextFeet_110 5 rfl)
theorem dX5_setNextFeet_120 : decode cX5_setNextFeet 120 = .ok (.aload_n 1, 1) := dk_43 (dw rcX5_setNextFeet_110 6 rfl)
theorem dX5_setNextFeet_121 : decode cX5_setNextFeet 121 = .ok (.getfield 58, 3) := dk_180 (dw rcX5_setNextFeet_110 7 rfl) rfl
theorem dX5_setNextFeet_124 : decode cX5_setNextFeet 124 = .ok (.isub, 1) := dk_100 (dw rcX5_setNextFeet_110 8 rfl)
theorem dX5_setNextFeet_125 : decode cX5_setNextFeet 125 = .ok (.invokestatic 61, 3) := dk_184 (dw rcX5_setNextFeet_110 9 rfl) rfl
theorem dX5_setNextFeet_128 : decode cX5_setNextFeet 128 = .ok (.goto 4, 3) := dk_167 (dw rcX5_setNextFeet_110 10 rfl) rfl
theorem dX5_setNextFeet_131 : decode cX5_setNextFeet 131 = .ok (.lconst 0, 1) := dk_9 (dw rcX5_setNextFeet_110 11 rfl)
theorem dX5_setNextFeet_132 : decode cX5_setNextFeet 132 = .ok (.lastore, 1) := dk_80 (dw rcX5_setNextFeet_110 12 rfl)
theorem dX5_setNextFeet_133 : decode cX5_setNextFeet 133 = .ok (.aload_n 0, 1) := dk_42 (dw rcX5_setNextFeet_110 13 rfl)
theorem dX5_setNextFeet_134 : decode cX5_setNextFeet 134 = .ok (.getfield 15, 3) := dk_180 (dw rcX5_setNextFeet_110 14 rfl) rfl
theorem dX5_setNextFeet_137 : decode cX5_setNextFeet 137 = .ok (.iload_n 2, 1) := dk_28 (dw rcX5_setNextFeet_110 15 rfl)
theorem dX5_setNextFeet_138 : decode cX5_setNextFeet 138 = .ok (.iload_n 3, 1) := dk_29 (dw rcX5_setNextFeet_110 16 rfl)
theorem dX5_setNextFeet_139 : decode cX5_setNextFeet 139 = .ok (.ifCond .eq 31, 3) := dk_153 (dw rcX5_setNextFeet_110 17 rfl) rfl
theorem dX5_setNextFeet_142 : decode cX5_setNextFeet 142 = .ok (.aload_n 0, 1) := dk_42 (dw rcX5_setNextFeet_110 18 rfl)
theorem dX5_setNextFeet_143 : decode cX5_setNextFeet 143 = .ok (.getfield 21, 3) := dk_180 (dw rcX5_setNextFeet_110 19 rfl) rfl
theorem dX5_setNextFeet_146 : decode cX5_setNextFeet 146 = .ok (.aload_n 1, 1) := dk_43 (dw rcX5_setNextFeet_110 20 rfl)
theorem dX5_setNextFeet_147 : decode cX5_setNextFeet 147 = .ok (.getfield 47, 3) := dk_180 (dw rcX5_setNextFeet_110 21 rfl) rfl
theorem dX5_setNextFeet_150 : decode cX5_setNextFeet 150 = .ok (.iload_n 2, 1) := dk_28 (dw rcX5_setNextFeet_110 22 rfl)
theorem dX5_setNextFeet_151 : decode cX5_setNextFeet 151 = .ok (.aload_n 1, 1) := dk_43 (dw rcX5_setNextFeet_110 23 rfl)
def rbX5_setNextFeet_152 : List (Nat × List Nat) := [(152, [180, 0, 65]), (155, [100]), (156, [28]), (157, [43]), (158, [180, 0, 40]), (161, [100]), (162, [4]), (163, [100]), (164, [184, 0, 61]), (167, [167, 0, 4]), (170, [9]), (171, [80]), (172, [132, 2, 1]), (175, [167, 255, 162]), (178, [177])]
theorem rcX5_setNextFeet_152 : dgo (lb cX5_setNextFeet) 0 rbX5_setNextFeet_152 = true := by decide +kernel
theorem dX5_setNextFeet_152 : decode cX5_setNextFeet 152 = .ok (.getfield 65, 3) := dk_180 (dw rcX5_setNextFeet_152 0 rfl) rfl
theorem dX5_setNextFeet_155 : decode cX5_setNextFeet 155 = .ok (.isub, 1) := dk_100 (dw rcX5_setNextFeet_152 1 rfl)
theorem dX5_setNextFeet_156 : decode cX5_setNextFeet 156 = .ok (.iload_n 2, 1) := dk_28 (dw rcX5_setNextFeet_152 2 rfl)
theorem dX5_setNextFeet_157 : decode cX5_setNextFeet 157 = .ok (.aload_n 1, 1) := dk_43 (dw rcX5_setNextFeet_152 3 rfl)
theorem dX5_setNextFeet_158 : decode cX5_setNextFeet 158 = .ok (.getfield 40, 3) := dk_180 (dw rcX5_setNextFeet_152 4 rfl) rfl
theorem dX5_setNextFeet_161 : decode cX5_setNextFeet 161 = .ok (.isub, 1) := dk_100 (dw rcX5_setNextFeet_152 5 rfl)
theorem dX5_setNextFeet_162 : decode cX5_setNextFeet 162 = .ok (.iconst 1, 1) := dk_4 (dw rcX5_setNextFeet_152 6 rfl)
theorem dX5_setNextFeet_163 : decode cX5_setNextFeet 163 = .ok (.isub, 1) := dk_100 (dw rcX5_setNextFeet_152 7 rfl)
theorem dX5_setNextFeet_164 : decode cX5_setNextFeet 164 = .ok (.invokestatic 61, 3) := dk_184 (dw rcX5_setNextFeet_152 8 rfl) rfl
theorem dX5_setNextFeet_167 : decode cX5_setNextFeet 167 = .ok (.goto 4, 3) := dk_167 (dw rcX5_setNextFeet_152 9 rfl) rfl
theorem dX5_setNextFeet_170 : decode cX5_setNextFeet 170 = .ok (.lconst 0, 1) := dk_9 (dw rcX5_setNextFeet_152 10 rfl)
theorem dX5_setNextFeet_171 : decode cX5_setNextFeet 171 = .ok (.lastore, 1) := dk_80 (dw rcX5_setNextFeet_152 11 rfl)
theorem dX5_setNextFeet_172 : decode cX5_setNextFeet 172 = .ok (.iinc 2 1, 3) := dk_132 (dw rcX5_setNextFeet_152 12 rfl) rfl
theorem dX5_setNextFeet_175 : decode cX5_setNextFeet 175 = .ok (.goto (-94), 3) := dk_167 (dw rcX5_setNextFeet_152 13 rfl) rfl
theorem dX5_setNextFeet_178 : decode cX5_setNextFeet 178 = .ok (.return_, 1) := dk_177 (dw rcX5_setNextFeet_152 14 rfl)
def rbX5_sumOf_0 : List (Nat × List Nat) := [(0, [3]), (1, [28]), (2, [184, 0, 68]), (5, [54, 4]), (7, [29]), (8, [4]), (9, [96]), (10, [27]), (11, [184, 0, 72]), (14, [54, 5]), (16, [21, 5]), (18, [21, 4]), (20, [163, 0, 7]), (23, [9]), (24, [167, 0, 18]), (27, [20, 0, 50]), (30, [42]), (31, [21, 5]), (33, [47]), (34, [42]), (35, [21, 4]), (37, [47]), (38, [101]), (39, [184, 0, 52])]
theorem rcX5_sumOf_0 : dgo (lb cX5_sumOf) 0 rbX5_sumOf_0 = true := by decide +kernel
theorem dX5_sumOf_0 : decode cX5_sumOf 0 = .ok (.iconst 0, 1) := dk_3 (dw rcX5_sumOf_0 0 rfl)
theorem dX5_sumOf_1 : decode cX5_sumOf 1 = .ok (.iload_n 2, 1) := dk_28 (dw rcX5_sumOf_0 1 rfl)
theorem dX5_sumOf_2 : decode cX5_sumOf 2 = .ok (.invokestatic 68, 3) := dk_184 (dw rcX5_sumOf_0 2 rfl) rfl
theorem dX5_sumOf_5 : decode cX5_sumOf 5 = .ok (.istore 4, 2) := dk_54 (dw rcX5_sumOf_0 3 rfl)
theorem dX5_sumOf_7 : decode cX5_sumOf 7 = .ok (.iload_n 3, 1) := dk_29 (dw rcX5_sumOf_0 4 rfl)
theorem dX5_sumOf_8 : decode cX5_sumOf 8 = .ok (.iconst 1, 1) := dk_4 (dw rcX5_sumOf_0 5 rfl)
theorem dX5_sumOf_9 : decode cX5_sumOf 9 = .ok (.iadd, 1) := dk_96 (dw rcX5_sumOf_0 6 rfl)
theorem dX5_sumOf_10 : decode cX5_sumOf 10 = .ok (.iload_n 1, 1) := dk_27 (dw rcX5_sumOf_0 7 rfl)
theorem dX5_sumOf_11 : decode cX5_sumOf 11 = .ok (.invokestatic 72, 3) := dk_184 (dw rcX5_sumOf_0 8 rfl) rfl
theorem dX5_sumOf_14 : decode cX5_sumOf 14 = .ok (.istore 5, 2) := dk_54 (dw rcX5_sumOf_0 9 rfl)
theorem dX5_sumOf_16 : decode cX5_sumOf 16 = .ok (.iload 5, 2) := dk_21 (dw rcX5_sumOf_0 10 rfl)
theorem dX5_sumOf_18 : decode cX5_sumOf 18 = .ok (.iload 4, 2) := dk_21 (dw rcX5_sumOf_0 11 rfl)
theorem dX5_sumOf_20 : decode cX5_sumOf 20 = .ok (.if_icmp .gt 7, 3) := dk_163 (dw rcX5_sumOf_0 12 rfl) rfl
theorem dX5_sumOf_23 : decode cX5_sumOf 23 = .ok (.lconst 0, 1) := dk_9 (dw rcX5_sumOf_0 13 rfl)
theorem dX5_sumOf_24 : decode cX5_sumOf 24 = .ok (.goto 18, 3) := dk_167 (dw rcX5_sumOf_0 14 rfl) rfl
theorem dX5_sumOf_27 : decode cX5_sumOf 27 = .ok (.ldc2_w 50, 3) := dk_20 (dw rcX5_sumOf_0 15 rfl) rfl
theorem dX5_sumOf_30 : decode cX5_sumOf 30 = .ok (.aload_n 0, 1) := dk_42 (dw rcX5_sumOf_0 16 rfl)
theorem dX5_sumOf_31 : decode cX5_sumOf 31 = .ok (.iload 5, 2) := dk_21 (dw rcX5_sumOf_0 17 rfl)
theorem dX5_sumOf_33 : decode cX5_sumOf 33 = .ok (.laload, 1) := dk_47 (dw rcX5_sumOf_0 18 rfl)
theorem dX5_sumOf_34 : decode cX5_sumOf 34 = .ok (.aload_n 0, 1) := dk_42 (dw rcX5_sumOf_0 19 rfl)
theorem dX5_sumOf_35 : decode cX5_sumOf 35 = .ok (.iload 4, 2) := dk_21 (dw rcX5_sumOf_0 20 rfl)
theorem dX5_sumOf_37 : decode cX5_sumOf 37 = .ok (.laload, 1) := dk_47 (dw rcX5_sumOf_0 21 rfl)
theorem dX5_sumOf_38 : decode cX5_sumOf 38 = .ok (.lsub, 1) := dk_101 (dw rcX5_sumOf_0 22 rfl)
theorem dX5_sumOf_39 : decode cX5_sumOf 39 = .ok (.invokestatic 52, 3) := dk_184 (dw rcX5_sumOf_0 23 rfl) rfl
theorem dX5_sumOf_42 : decode cX5_sumOf 42 = .ok (.lreturn, 1) := dq_of (by decide +kernel)
set_option maxHeartbeats 4000000 in
set_option maxRecDepth 100000 in
theorem k_oSum_54 (l : Launch) (D : va_G) (k : KT) (A : Nat → Prop) (a : Nat → Nat) (z : SK) (G : GS) (p0 : Int32) (p1 : Int32) (p2 : Int32) (ha_p0 : 0 ≤ p0.toInt ∧ p0.toInt ≤ 400) (ha_p1 : -200 ≤ p1.toInt ∧ p1.toInt ≤ 600) (ha_p2 : -200 ≤ p2.toInt ∧ p2.toInt ≤ 600) : Met l yX5_sumOf (WS yX5_sumOf cX5_sumOf 6 (some .long)) ({ frames := 1, cells := 0, slots := 0, locals := 15 }) (va_Pc [.ref (a 54), .int p0, .int p1, .int p2] (cW D k A a z G)) (va_Ql (fun (r : Int64) (G1 : GS) => P_oSum_54 p0 p1 p2 G r G1) (fun (G1 : GS) t => Wd D k A a G1 t.heap) A) 0 0 A := by
  refine Met.ofW (cc := cX5_sumOf) (maxL := 6) (ret := (some .long)) (by decide) rfl ?_
  intro p e s m args below meth c s₁ B hml hv
  obtain ⟨rfl, hW, hB_G, hK, hZ⟩ := hv
  have hx := B.exec
  have hb := B.bytes
  have hr := B.returns
  have hts := atoms_spec (ws := WS yX5_sumOf cX5_sumOf 6 (some .long)) B.pre
  have hgd : ∀ w ∈ gd, w ∈ WS yX5_sumOf cX5_sumOf 6 (some .long) := fun w h => List.mem_cons_of_mem _ h
  have hg : ∀ w ∈ gd, w.before _ s = true := fun w h => hts w (hgd w h)
  have hown : s.vm.findClass RX5 = some m.cls := findClass_of_methodNamed B.named
  have hS : va_S A s.heap s.heap [] := va_S.rf
  have hF : Fr [] [] G G := Fr.rf
  have hl := lv_entry ([.ref (a 54), .int p0, .int p1, .int p2]) (n := 6) (Nat.le_of_ble_eq_true rfl)
  rw [lg_entry_eq]
  generalize (lg_sl ([.ref (a 54), .int p0, .int p1, .int p2]) ++ List.replicate (6 - (lg_sl ([.ref (a 54), .int p0, .int p1, .int p2])).length) Slot.unset).toArray = ls at hl ⊢
  have hl : lv_has ls 6 [(0, .ref (a 54)), (1, .int p0), (2, .int p1), (3, .int p2)] := hl
  refine ic_0 hx hb dX5_sumOf_0 ?_
  refine lv_iload_n hx hb dX5_sumOf_1 rfl (lv_at hl 2 rfl) ?_
  refine va_mmax hx hb (by rw [hml]; exact hl.1.symm) hown (hg (Cond.methodLink RX5 68 Lib.Math.max.name) m1030) (hg (Cond.static Lib.Math.max.name) m728) (hg (Cond.initialized "java/lang/Math") m132) (hg (Cond.code Lib.Math.max.name Lib.Math.max.code 2 (some .int)) m729) (Nat.le_of_ble_eq_true rfl) (Nat.le_of_ble_eq_true rfl) (Nat.le_of_ble_eq_true rfl) (Nat.le_of_ble_eq_true rfl) dX5_sumOf_2 ?_
  refine lv_topi (fun y_1 ey_1 => ?_)
  have ty_1 := xI_max (X := 0) (Y := p1.toInt) rfl rfl ey_1
  refine lv_istore (lv' := [(4, .int y_1), (0, .ref (a 54)), (1, .int p0), (2, .int p1), (3, .int p2)]) hx hb dX5_sumOf_5 hl (lt_b rfl) rfl (fun ls hl => ?_)
  refine lv_iload_n hx hb dX5_sumOf_7 rfl (lv_at hl 4 rfl) ?_
  refine ic_1 hx hb dX5_sumOf_8 ?_
  refine lv_iadd hx hb dX5_sumOf_9 ?_
  refine lv_topi (fun y_2 ey_2 => ?_)
  have ty_2 : y_2.toInt = p2.toInt + 1 := xI_add rfl rfl ey_2 (by omega) (by omega)
  refine lv_iload_n hx hb dX5_sumOf_10 rfl (lv_at hl 2 rfl) ?_
  refine va_mmin hx hb (by rw [hml]; exact hl.1.symm) hown (hg (Cond.methodLink RX5 72 Lib.Math.min.name) m1031) (hg (Cond.static Lib.Math.min.name) m636) (hg (Cond.initialized "java/lang/Math") m132) (hg (Cond.code Lib.Math.min.name Lib.Math.min.code 2 (some .int)) m637) (Nat.le_of_ble_eq_true rfl) (Nat.le_of_ble_eq_true rfl) (Nat.le_of_ble_eq_true rfl) (Nat.le_of_ble_eq_true rfl) dX5_sumOf_11 ?_
  refine lv_topi (fun y_3 ey_3 => ?_)
  have ty_3 := xI_min (X := y_2.toInt) (Y := p0.toInt) rfl rfl ey_3
  refine lv_istore (lv' := [(5, .int y_3), (4, .int y_1), (0, .ref (a 54)), (1, .int p0), (2, .int p1), (3, .int p2)]) hx hb dX5_sumOf_14 hl (lt_b rfl) rfl (fun ls hl => ?_)
  refine lv_iload hx hb dX5_sumOf_16 (lv_at hl 0 rfl) ?_
  refine lv_iload hx hb dX5_sumOf_18 (lv_at hl 1 rfl) ?_
  refine lv_icmp_gt (tgt := 27) hx hb dX5_sumOf_20 rfl (fun c_4 => ?_) (fun c_4 => ?_)
  · have c_4 : y_1.toInt < y_3.toInt := xI_lt rfl rfl c_4
    refine lv_ldc2 (v := 1000000000000000) hx hb hown (hg (Cond.constantLong RX5 50 1000000000000000) m1032) dX5_sumOf_27 ?_
    refine lv_aload_n hx hb dX5_sumOf_30 rfl (lv_at hl 2 rfl) ?_
    refine lv_iload hx hb dX5_sumOf_31 (lv_at hl 0 rfl) ?_
    refine S_lald hx hb hK hW kd_54 (vin ((by first | (clear ha_p0 ha_p1 ha_p2 ty_2; omega) | omega)) ((by first | (clear ha_p0 ha_p1 ha_p2 ty_2; omega) | omega))) dX5_sumOf_33 (fun y_5 ey_5 => ?_)
    refine lv_aload_n hx hb dX5_sumOf_34 rfl (lv_at hl 2 rfl) ?_
    refine lv_iload hx hb dX5_sumOf_35 (lv_at hl 1 rfl) ?_
    refine S_lald hx hb hK hW kd_54 (vin ((by first | (clear ha_p0 ha_p1 ha_p2 ty_2; omega) | omega)) ((by first | (clear ha_p0 ha_p1 ha_p2 ty_2; omega) | omega))) dX5_sumOf_37 (fun y_6 ey_6 => ?_)
    refine lv_lsub hx hb dX5_sumOf_38 ?_
    refine lv_topl (fun y_7 ey_7 => ?_)
    refine va_mmin_long hx hb (by rw [hml]; exact hl.1.symm) hown (hg (Cond.methodLink RX5 52 Lib.MathLoose.min_long.x) m1033) (hg (Cond.static Lib.MathLoose.min_long.x) m1034) (hg (Cond.initialized "java/lang/Math") m132) (hg (Cond.code Lib.MathLoose.min_long.x Lib.MathLoose.min_long.code 4 (some .long)) m1035) (Nat.le_of_ble_eq_true rfl) (Nat.le_of_ble_eq_true rfl) (Nat.le_of_ble_eq_true rfl) (Nat.le_of_ble_eq_true rfl) dX5_sumOf_39 ?_
    refine lv_topl (fun y_8 ey_8 => ?_)
    exact W.lret (v := y_8) hx hb hr (fun t ht _ => ⟨⟨y_8, G, rfl, (P_oSum_54_mk ⟨hB_G, hF, ⟨y_1, ty_1, ⟨y_2, ty_2, ⟨y_3, ty_3, (Or.inl ⟨c_4, ⟨y_5, ey_5, ⟨y_6, ey_6, ⟨y_7, ey_7, ⟨y_8, ey_8, ⟨rfl, rfl⟩⟩⟩⟩⟩⟩)⟩⟩⟩⟩), wd_t ht hW⟩, hS.F ht⟩) hS.2.2 dX5_sumOf_42
  · have c_4 : y_3.toInt ≤ y_1.toInt := xI_nlt rfl rfl c_4
    refine lv_lconst (v := 0) hx hb dX5_sumOf_23 (by decide) ?_
    refine lv_goto (tgt := 42) hx hb dX5_sumOf_24 rfl ?_
    exact W.lret (v := 0) hx hb hr (fun t ht _ => ⟨⟨0, G, rfl, (P_oSum_54_mk ⟨hB_G, hF, ⟨y_1, ty_1, ⟨y_2, ty_2, ⟨y_3, ty_3, (Or.inr ⟨c_4, ⟨rfl, rfl⟩⟩)⟩⟩⟩⟩), wd_t ht hW⟩, hS.F ht⟩) hS.2.2 dX5_sumOf_42

set_option maxHeartbeats 4000000 in
set_option maxRecDepth 100000 in
theorem k_oSum_55 (l : Launch) (D : va_G) (k : KT) (A : Nat → Prop) (a : Nat → Nat) (z : SK) (G : GS) (p0 : Int32) (p1 : Int32) (p2 : Int32) (ha_p0 : 0 ≤ p0.toInt ∧ p0.toInt ≤ 400) (ha_p1 : -200 ≤ p1.toInt ∧ p1.toInt ≤ 600) (ha_p2 : -200 ≤ p2.toInt ∧ p2.toInt ≤ 600) : Met l yX5_sumOf (WS yX5_sumOf cX5_sumOf 6 (some .long)) ({ frames := 1, cells := 0, slots := 0, locals := 15 }) (va_Pc [.ref (a 55), .int p0, .int p1, .int p2] (cW D k A a z G)) (va_Ql (fun (r : Int64) (G1 : GS) => P_oSum_55 p0 p1 p2 G r G1) (fun (G1 : GS) t => Wd D k A a G1 t.heap) A) 0 0 A := by
  refine Met.ofW (cc := cX5_sumOf) (maxL := 6) (ret := (some .long)) (by decide) rfl ?_
  intro p e s m args below meth c s₁ B hml hv
  obtain ⟨rfl, hW, hB_G, hK, hZ⟩ := hv
  have hx := B.exec
  have hb := B.bytes
  have hr := B.returns
  have hts := atoms_spec (ws := WS yX5_sumOf cX5_sumOf 6 (some .long)) B.pre
  have hgd : ∀ w ∈ gd, w ∈ WS yX5_sumOf cX5_sumOf 6 (some .long) := fun w h => List.mem_cons_of_mem _ h
  have hg : ∀ w ∈ gd, w.before _ s = true := fun w h => hts w (hgd w h)
  have hown : s.vm.findClass RX5 = some m.cls := findClass_of_methodNamed B.named
  have hS : va_S A s.heap s.heap [] := va_S.rf
  have hF : Fr [] [] G G := Fr.rf
  have hl := lv_entry ([.ref (a 55), .int p0, .int p1, .int p2]) (n := 6) (Nat.le_of_ble_eq_true rfl)
  rw [lg_entry_eq]
  generalize (lg_sl ([.ref (a 55), .int p0, .int p1, .int p2]) ++ List.replicate (6 - (lg_sl ([.ref (a 55), .int p0, .int p1, .int p2])).length) Slot.unset).toArray = ls at hl ⊢
  have hl : lv_has ls 6 [(0, .ref (a 55)), (1, .int p0), (2, .int p1), (3, .int p2)] := hl
  refine ic_0 hx hb dX5_sumOf_0 ?_
  refine lv_iload_n hx hb dX5_sumOf_1 rfl (lv_at hl 2 rfl) ?_
  refine va_mmax hx hb (by rw [hml]; exact hl.1.symm) hown (hg (Cond.methodLink RX5 68 Lib.Math.max.name) m1030) (hg (Cond.static Lib.Math.max.name) m728) (hg (Cond.initialized "java/lang/Math") m132) (hg (Cond.code Lib.Math.max.name Lib.Math.max.code 2 (some .int)) m729) (Nat.le_of_ble_eq_true rfl) (Nat.le_of_ble_eq_true rfl) (Nat.le_of_ble_eq_true rfl) (Nat.le_of_ble_eq_true rfl) dX5_sumOf_2 ?_
  refine lv_topi (fun y_1 ey_1 => ?_)
  have ty_1 := xI_max (X := 0) (Y := p1.toInt) rfl rfl ey_1
  refine lv_istore (lv' := [(4, .int y_1), (0, .ref (a 55)), (1, .int p0), (2, .int p1), (3, .int p2)]) hx hb dX5_sumOf_5 hl (lt_b rfl) rfl (fun ls hl => ?_)
  refine lv_iload_n hx hb dX5_sumOf_7 rfl (lv_at hl 4 rfl) ?_
  refine ic_1 hx hb dX5_sumOf_8 ?_
  refine lv_iadd hx hb dX5_sumOf_9 ?_
  refine lv_topi (fun y_2 ey_2 => ?_)
  have ty_2 : y_2.toInt = p2.toInt + 1 := xI_add rfl rfl ey_2 (by omega) (by omega)
  refine lv_iload_n hx hb dX5_sumOf_10 rfl (lv_at hl 2 rfl) ?_
  refine va_mmin hx hb (by rw [hml]; exact hl.1.symm) hown (hg (Cond.methodLink RX5 72 Lib.Math.min.name) m1031) (hg (Cond.static Lib.Math.min.name) m636) (hg (Cond.initialized "java/lang/Math") m132) (hg (Cond.code Lib.Math.min.name Lib.Math.min.code 2 (some .int)) m637) (Nat.le_of_ble_eq_true rfl) (Nat.le_of_ble_eq_true rfl) (Nat.le_of_ble_eq_true rfl) (Nat.le_of_ble_eq_true rfl) dX5_sumOf_11 ?_
  refine lv_topi (fun y_3 ey_3 => ?_)
  have ty_3 := xI_min (X := y_2.toInt) (Y := p0.toInt) rfl rfl ey_3
  refine lv_istore (lv' := [(5, .int y_3), (4, .int y_1), (0, .ref (a 55)), (1, .int p0), (2, .int p1), (3, .int p2)]) hx hb dX5_sumOf_14 hl (lt_b rfl) rfl (fun ls hl => ?_)
  refine lv_iload hx hb dX5_sumOf_16 (lv_at hl 0 rfl) ?_
  refine lv_iload hx hb dX5_sumOf_18 (lv_at hl 1 rfl) ?_
  refine lv_icmp_gt (tgt := 27) hx hb dX5_sumOf_20 rfl (fun c_4 => ?_) (fun c_4 => ?_)
  · have c_4 : y_1.toInt < y_3.toInt := xI_lt rfl rfl c_4
    refine lv_ldc2 (v := 1000000000000000) hx hb hown (hg (Cond.constantLong RX5 50 1000000000000000) m1032) dX5_sumOf_27 ?_
    refine lv_aload_n hx hb dX5_sumOf_30 rfl (lv_at hl 2 rfl) ?_
    refine lv_iload hx hb dX5_sumOf_31 (lv_at hl 0 rfl) ?_
    refine S_lald hx hb hK hW kd_55 (vin ((by first | (clear ha_p0 ha_p1 ha_p2 ty_2; omega) | omega)) ((by first | (clear ha_p0 ha_p1 ha_p2 ty_2; omega) | omega))) dX5_sumOf_33 (fun y_5 ey_5 => ?_)
    refine lv_aload_n hx hb dX5_sumOf_34 rfl (lv_at hl 2 rfl) ?_
    refine lv_iload hx hb dX5_sumOf_35 (lv_at hl 1 rfl) ?_
    refine S_lald hx hb hK hW kd_55 (vin ((by first | (clear ha_p0 ha_p1 ha_p2 ty_2; omega) | omega)) ((by first | (clear ha_p0 ha_p1 ha_p2 ty_2; omega) | omega))) dX5_sumOf_37 (fun y_6 ey_6 => ?_)
    refine lv_lsub hx hb dX5_sumOf_38 ?_
    refine lv_topl (fun y_7 ey_7 => ?_)
    refine va_mmin_long hx hb (by rw [hml]; exact hl.1.symm) hown (hg (Cond.methodLink RX5 52 Lib.MathLoose.min_long.x) m1033) (hg (Cond.static Lib.MathLoose.min_long.x) m1034) (hg (Cond.initialized "java/lang/Math") m132) (hg (Cond.code Lib.MathLoose.min_long.x Lib.MathLoose.min_long.code 4 (some .long)) m1035) (Nat.le_of_ble_eq_true rfl) (Nat.le_of_ble_eq_true rfl) (Nat.le_of_ble_eq_true rfl) (Nat.le_of_ble_eq_true rfl) dX5_sumOf_39 ?_
    refine lv_topl (fun y_8 ey_8 => ?_)
    exact W.lret (v := y_8) hx hb hr (fun t ht _ => ⟨⟨y_8, G, rfl, (P_oSum_55_mk ⟨hB_G, hF, ⟨y_1, ty_1, ⟨y_2, ty_2, ⟨y_3, ty_3, (Or.inl ⟨c_4, ⟨y_5, ey_5, ⟨y_6, ey_6, ⟨y_7, ey_7, ⟨y_8, ey_8, ⟨rfl, rfl⟩⟩⟩⟩⟩⟩)⟩⟩⟩⟩), wd_t ht hW⟩, hS.F ht⟩) hS.2.2 dX5_sumOf_42
  · have c_4 : y_3.toInt ≤ y_1.toInt := xI_nlt rfl rfl c_4
    refine lv_lconst (v := 0) hx hb dX5_sumOf_23 (by decide) ?_
    refine lv_goto (tgt := 42) hx hb dX5_sumOf_24 rfl ?_
    exact W.lret (v := 0) hx hb hr (fun t ht _ => ⟨⟨0, G, rfl, (P_oSum_55_mk ⟨hB_G, hF, ⟨y_1, ty_1, ⟨y_2, ty_2, ⟨y_3, ty_3, (Or.inr ⟨c_4, ⟨rfl, rfl⟩⟩)⟩⟩⟩⟩), wd_t ht hW⟩, hS.F ht⟩) hS.2.2 dX5_sumOf_42

set_option maxHeartbeats 4000000 in
set_option maxRecDepth 100000 in
theorem k_oNext (l : Launch) (D : va_G) (k : KT) (A : Nat → Prop) (a : Nat → Nat) (z : SK) (G : GS)  (hci : (G.1 7 6).toInt ≤ 399 ∧ (G.1 7 3).toInt ≤ (G.1 7 4).toInt ∧ ((G.1 7 7).toInt ≤ 0 ∨ (G.1 7 7).toInt + (G.1 7 4).toInt ≤ (G.1 7 6).toInt + 1)) : Met l yX5_setNextFeet (WS yX5_setNextFeet cX5_setNextFeet 4 none) ({ frames := 2, cells := 0, slots := 0, locals := 40 }) (va_Pc [.ref (a 29), .ref (a 7)] (cW D k A a z G)) (va_Qv (fun (G1 : GS) => P_oNext G G1) (fun (G1 : GS) t => Wd D k A a G1 t.heap) A) 0 0 A := by
  refine Met.ofW (cc := cX5_setNextFeet) (maxL := 4) (ret := none) (by decide) rfl ?_
  intro p e s m args below meth c s₁ B hml hv
  obtain ⟨rfl, hW, hB_G, hK, hZ⟩ := hv
  have hx := B.exec
  have hb := B.bytes
  have hr := B.returns
  have hts := atoms_spec (ws := WS yX5_setNextFeet cX5_setNextFeet 4 none) B.pre
  have hgd : ∀ w ∈ gd, w ∈ WS yX5_setNextFeet cX5_setNextFeet 4 none := fun w h => List.mem_cons_of_mem _ h
  have hg : ∀ w ∈ gd, w.before _ s = true := fun w h => hts w (hgd w h)
  have hown : s.vm.findClass RX5 = some m.cls := findClass_of_methodNamed B.named
  have hS : va_S A s.heap s.heap [] := va_S.rf
  have hF : Fr [52, 53, 54, 55] [] G G := Fr.rf
  have hl := lv_entry ([.ref (a 29), .ref (a 7)]) (n := 4) (Nat.le_of_ble_eq_true rfl)
  rw [lg_entry_eq]
  generalize (lg_sl ([.ref (a 29), .ref (a 7)]) ++ List.replicate (4 - (lg_sl ([.ref (a 29), .ref (a 7)])).length) Slot.unset).toArray = ls at hl ⊢
  have hl : lv_has ls 4 [(0, .ref (a 29)), (1, .ref (a 7))] := hl
  have b_1 : (-1) ≤ (G.1 7 6).toInt ∧ (G.1 7 6).toInt ≤ 400 := bd_7_6 hB_G
  refine lv_aload_n hx hb dX5_setNextFeet_0 rfl (lv_at hl 0 rfl) ?_
  refine S_getR (n := 54) (C := RX5) (T := TX5) (N := 7) hx hb hg iX5 hown hK hW kd_29 rfl 2 (lt_b rfl) (hg (Cond.fieldLink RX5 18 "SlabWalk$Odds" "sums" "[J") m466) (fun _ h9 => h9) rfl dX5_setNextFeet_1 ?_
  refine ic_0 hx hb dX5_setNextFeet_4 ?_
  refine lv_lconst (v := 0) hx hb dX5_setNextFeet_5 (by decide) ?_
  refine S_last hx hb hK hW hS kd_54 (vin (by decide) (by decide)) dX5_setNextFeet_6 (fun G_2 H locs eG_2 hW hS => ?_)
  have hB_G_2 : Bd G_2 := hB_G.putl eG_2
  have hF := hF.putl eG_2 (Or.inl (by decide))
  refine lv_aload_n hx hb dX5_setNextFeet_7 rfl (lv_at hl 0 rfl) ?_
  refine S_getR (n := 55) (C := RX5) (T := TX5) (N := 7) hx hb hg iX5 hown hK hW kd_29 rfl 3 (lt_b rfl) (hg (Cond.fieldLink RX5 21 "SlabWalk$Odds" "steppedSums" "[J") m467) (fun _ h9 => h9) rfl dX5_setNextFeet_8 ?_
  refine ic_0 hx hb dX5_setNextFeet_11 ?_
  refine lv_lconst (v := 0) hx hb dX5_setNextFeet_12 (by decide) ?_
  refine S_last hx hb hK hW hS kd_55 (vin (by decide) (by decide)) dX5_setNextFeet_13 (fun G_3 H locs eG_3 hW hS => ?_)
  have hB_G_3 : Bd G_3 := hB_G_2.putl eG_3
  have hF := hF.putl eG_3 (Or.inl (by decide))
  refine ic_0 hx hb dX5_setNextFeet_14 ?_
  refine lv_istore_n (lv' := [(2, .int 0), (0, .ref (a 29)), (1, .ref (a 7))]) hx hb dX5_setNextFeet_15 rfl hl (lt_b rfl) rfl (fun ls hl => ?_)
  have qc_10 : (0 : Int32).toInt = 0 := rfl
  refine loop_N (Inv := fun n H locs ls => ∃ (G_4 : GS) (x_8 : Int32), (n : Int) = 400 - x_8.toInt ∧ (0 ≤ x_8.toInt ∧ x_8.toInt ≤ 400) ∧ Rc (St_k_oNext_1 G) (0, G_3) (x_8, G_4) ∧ Wd D k A a G_4 H ∧ Bd G_4 ∧ Fr [52, 53, 54, 55] [] G G_4 ∧ Fr [54, 55] [] G_3 G_4 ∧ va_S A s.heap H locs ∧ lv_has ls 4 [(2, .int x_8), (0, .ref (a 29)), (1, .ref (a 7))]) (fun n_7 H locs ls ih_6 hI => ?_) (400 - 0 : Int).toNat ⟨G_3, 0, (Int.toNat_of_nonneg (by omega)), ⟨by omega, by omega⟩, Rc.rf, hW, hB_G_3, hF, Fr.rf, hS, lv_sub hl [0, 1, 2] rfl⟩
  obtain ⟨G_4, x_8, hn_12, f_11, hX_9, hW, hB_G_4, hF, hq_5, hS, hl⟩ := hI
  refine lv_iload_n hx hb dX5_setNextFeet_16 rfl (lv_at hl 0 rfl) ?_
  refine lv_aload_n hx hb dX5_setNextFeet_17 rfl (lv_at hl 2 rfl) ?_
  have b_13 : 0 ≤ (G.1 7 7).toInt ∧ (G.1 7 7).toInt ≤ 400 := bd_7_7 hB_G
  refine S_getI (v := (G.1 7 7)) (C := RX0) (T := TX0) (N := 8) hx hb hg iX0 hown hK hW kd_7 rfl 7 (lt_b rfl) (hg (Cond.fieldLink RX5 47 "SlabWalk$Course" "end" "I") m392) (fun _ h9 => h9) rfl ((hq_5.i9 7 7 rfl rfl).trans ((congrFun (congrFun (gp_l eG_3).1 7) 7).trans (congrFun (congrFun (gp_l eG_2).1 7) 7))) dX5_setNextFeet_18 ?_
  refine lv_icmp_ge (tgt := 79) hx hb dX5_setNextFeet_21 rfl (fun c_14 => ?_) (fun c_14 => ?_)
  · have c_14 : (G.1 7 7).toInt ≤ x_8.toInt := xI_le rfl rfl c_14
    refine ic_0 hx hb dX5_setNextFeet_79 ?_
    refine lv_istore_n (lv' := [(2, .int 0), (0, .ref (a 29)), (1, .ref (a 7))]) hx hb dX5_setNextFeet_80 rfl hl (lt_b rfl) rfl (fun ls hl => ?_)
    have qc_21 : (0 : Int32).toInt = 0 := rfl
    refine loop_N (Inv := fun n H locs ls => ∃ (G_15 : GS) (x_19 : Int32), (n : Int) = 400 - x_19.toInt ∧ (0 ≤ x_19.toInt ∧ x_19.toInt ≤ 400) ∧ Rc (St_k_oNext_2 G) (0, G_4) (x_19, G_15) ∧ Wd D k A a G_15 H ∧ Bd G_15 ∧ Fr [52, 53, 54, 55] [] G G_15 ∧ Fr [52, 53] [] G_4 G_15 ∧ va_S A s.heap H locs ∧ lv_has ls 4 [(2, .int x_19), (0, .ref (a 29)), (1, .ref (a 7))]) (fun n_18 H locs ls ih_17 hI => ?_) (400 - 0 : Int).toNat ⟨G_4, 0, (Int.toNat_of_nonneg ((by first | (clear hci b_1 hn_12 f_11 b_13 c_14; omega) | omega))), ⟨(by first | (clear hci b_1 hn_12 f_11 b_13 c_14; omega) | omega), (by first | (clear hci b_1 hn_12 f_11 b_13 c_14; omega) | omega)⟩, Rc.rf, hW, hB_G_4, hF, Fr.rf, hS, lv_sub hl [0, 1, 2] rfl⟩
    obtain ⟨G_15, x_19, hn_23, f_22, hX_20, hW, hB_G_15, hF, hq_16, hS, hl⟩ := hI
    refine lv_iload_n hx hb dX5_setNextFeet_81 rfl (lv_at hl 0 rfl) ?_
    refine lv_aload_n hx hb dX5_setNextFeet_82 rfl (lv_at hl 2 rfl) ?_
    refine S_getI (v := (G.1 7 6)) (C := RX0) (T := TX0) (N := 8) hx hb hg iX0 hown hK hW kd_7 rfl 6 (lt_b rfl) (hg (Cond.fieldLink RX5 30 "SlabWalk$Course" "last" "I") m389) (fun _ h9 => h9) rfl ((hq_16.i9 7 6 rfl rfl).trans ((hq_5.i9 7 6 rfl rfl).trans ((congrFun (congrFun (gp_l eG_3).1 7) 6).trans ((congrFun (congrFun (gp_l eG_2).1 7) 6).trans (rfl))))) dX5_setNextFeet_83 ?_
    refine lv_icmp_gt (tgt := 178) hx hb dX5_setNextFeet_86 rfl (fun c_24 => ?_) (fun c_24 => ?_)
    · have c_24 : (G.1 7 6).toInt < x_19.toInt := xI_lt rfl rfl c_24
      exact W.vret hx hb hr (fun t ht _ => ⟨⟨G_15, rfl, (P_oNext_mk ⟨hB_G_15, hF, ⟨G_3, hB_G_3, (Fr.putl (rs := [54, 55]) (fs := []) (Fr.putl (rs := [54, 55]) (fs := []) Fr.rf eG_2 (Or.inl (by decide))) eG_3 (Or.inl (by decide))), (rl_ne eG_3 (by decide)).trans (rl_ast eG_2), (rl_ast eG_3).trans (congrArg (fun q => vp_updL q ((0 : Int32).toNatClampNeg) 0) (rl_ne eG_2 (by decide))), ⟨x_8, G_4, hX_9, f_11, hB_G_4, hq_5, ⟨c_14, ⟨x_19, G_15, hX_20, f_22, hB_G_15, hq_16, ⟨c_24, rfl⟩⟩⟩⟩⟩⟩), wd_t ht hW⟩, hS.F ht⟩) hS.2.2 dX5_setNextFeet_178
    · have c_24 : x_19.toInt ≤ (G.1 7 6).toInt := xI_nlt rfl rfl c_24
      refine lv_aload_n hx hb dX5_setNextFeet_89 rfl (lv_at hl 2 rfl) ?_
      refine S_getR (n := 40) (C := RX0) (T := TX0) (N := 8) hx hb hg iX0 hown hK hW kd_7 rfl 0 (lt_b rfl) (hg (Cond.fieldLink RX5 36 "SlabWalk$Course" "lawful" "[Z") m372) (fun _ h9 => h9) rfl dX5_setNextFeet_90 ?_
      refine lv_iload_n hx hb dX5_setNextFeet_93 rfl (lv_at hl 0 rfl) ?_
      refine S_zald hx hb hK hW kd_40 (vin ((by first | (clear hn_12 f_11 b_13 c_14 hn_23; omega) | omega)) ((by first | (clear hn_12 f_11 b_13 c_14 hn_23; omega) | omega))) dX5_setNextFeet_94 (fun y_25 ey_25 => ?_)
      have ty_25 : 0 ≤ y_25.toInt ∧ y_25.toInt ≤ 1 := bv_40 hB_G_15 ey_25
      refine lv_istore_n (lv' := [(3, .int y_25), (2, .int x_19), (0, .ref (a 29)), (1, .ref (a 7))]) hx hb dX5_setNextFeet_95 rfl hl (lt_b rfl) rfl (fun ls hl => ?_)
      refine lv_aload_n hx hb dX5_setNextFeet_96 rfl (lv_at hl 2 rfl) ?_
      refine S_getR (n := 52) (C := RX5) (T := TX5) (N := 7) hx hb hg iX5 hown hK hW kd_29 rfl 0 (lt_b rfl) (hg (Cond.fieldLink RX5 11 "SlabWalk$Odds" "stepped" "[J") m464) (fun _ h9 => h9) rfl dX5_setNextFeet_97 ?_
      refine lv_iload_n hx hb dX5_setNextFeet_100 rfl (lv_at hl 1 rfl) ?_
      refine lv_iload_n hx hb dX5_setNextFeet_101 rfl (lv_at hl 0 rfl) ?_
      refine W.cut (σ := Int64) (pcJ := 132) (J := fun y H locs ls => ∃ (G_33 : GS), Jn_k_oNext_3 x_19 y_25 G G_15 y G_33 ∧ Wd D k A a G_33 H ∧ Bd G_33 ∧ Fr [52, 53, 54, 55] [] G G_33 ∧ Fr [] [] G_15 G_33 ∧ va_S A s.heap H locs ∧ lv_has ls 4 [(3, .int y_25), (2, .int x_19), (0, .ref (a 29)), (1, .ref (a 7))]) (stJ := fun y => [.long y, .int x_19, .ref (a 52)]) ?_ (fun hJ_34 => ?_)
      · intro y H locs ls hI
        obtain ⟨w_30, hy⟩ : ∃ q, q = y := ⟨_, rfl⟩
        subst hy
        obtain ⟨G_33, hX_36, hW, hB_G_33, hF, hq_35, hS, hl⟩ := hI
        refine S_last hx hb hK hW hS kd_52 (vin ((by first | (clear hn_12 f_11 b_13 c_14 hn_23 ty_25; omega) | omega)) ((by first | (clear hn_12 f_11 b_13 c_14 hn_23 ty_25; omega) | omega))) dX5_setNextFeet_132 (fun G_37 H locs eG_37 hW hS => ?_)
        have hB_G_37 : Bd G_37 := hB_G_33.putl eG_37
        have hF := hF.putl eG_37 (Or.inl (by decide))
        refine lv_aload_n hx hb dX5_setNextFeet_133 rfl (lv_at hl 2 rfl) ?_
        refine S_getR (n := 53) (C := RX5) (T := TX5) (N := 7) hx hb hg iX5 hown hK hW kd_29 rfl 1 (lt_b rfl) (hg (Cond.fieldLink RX5 15 "SlabWalk$Odds" "leapt" "[J") m465) (fun _ h9 => h9) rfl dX5_setNextFeet_134 ?_
        refine lv_iload_n hx hb dX5_setNextFeet_137 rfl (lv_at hl 1 rfl) ?_
        refine lv_iload_n hx hb dX5_setNextFeet_138 rfl (lv_at hl 0 rfl) ?_
        refine lv_if_eq (tgt := 170) hx hb dX5_setNextFeet_139 rfl (fun c_38 => ?_) (fun c_38 => ?_)
        · have c_38 : y_25.toInt = 0 := xI_eq rfl rfl c_38
          refine lv_lconst (v := 0) hx hb dX5_setNextFeet_170 (by decide) ?_
          refine S_last hx hb hK hW hS kd_53 (vin ((by first | (clear hn_12 f_11 b_13 c_14 hn_23 ty_25 c_38; omega) | omega)) ((by first | (clear hn_12 f_11 b_13 c_14 hn_23 ty_25 c_38; omega) | omega))) dX5_setNextFeet_171 (fun G_39 H locs eG_39 hW hS => ?_)
          have hB_G_39 : Bd G_39 := hB_G_37.putl eG_39
          have hF := hF.putl eG_39 (Or.inl (by decide))
          obtain ⟨y_40, ey_40⟩ : ∃ q, q = x_19 + 1 := ⟨_, rfl⟩
          have ty_40 : y_40.toInt = x_19.toInt + 1 := xI_add rfl rfl ey_40 ((by first | (clear hn_12 f_11 b_13 c_14 hn_23 ty_25 c_38; omega) | omega)) ((by first | (clear hn_12 f_11 b_13 c_14 hn_23 ty_25 c_38; omega) | omega))
          refine lv_iinc (v := y_40) (lv' := [(2, .int y_40), (3, .int y_25), (0, .ref (a 29)), (1, .ref (a 7))]) hx hb dX5_setNextFeet_172 hl (k := 1) rfl (by rw [ey_40]; rfl) (lt_b rfl) rfl (fun ls hl => ?_)
          refine lv_goto (tgt := 81) hx hb dX5_setNextFeet_175 rfl ?_
          exact ih_17 (400 - y_40.toInt : Int).toNat ((by first | (clear hn_12 f_11 b_13 c_14 ty_25 c_38; omega) | omega)) _ _ _ ⟨G_39, y_40, (Int.toNat_of_nonneg ((by first | (clear hn_12 f_11 b_13 c_14 hn_23 ty_25 c_38; omega) | omega))), ⟨(by first | (clear hn_12 f_11 b_13 c_14 hn_23 ty_25 c_38; omega) | omega), (by first | (clear hn_12 f_11 b_13 c_14 hn_23 ty_25 c_38; omega) | omega)⟩, (hX_20.st (St_k_oNext_2_mk ⟨x_19, G_15, y_40, G_39, rfl, rfl, f_22, hB_G_15, ⟨c_24, ⟨y_25, ey_25, ⟨w_30, G_33, hX_36, hB_G_33, hq_35, (Or.inl ⟨c_38, ⟨y_40, ty_40, ⟨rfl, (Fr.putl (rs := [52, 53]) (fs := []) (Fr.putl (rs := [52, 53]) (fs := []) Fr.rf eG_37 (Or.inl (by decide))) eG_39 (Or.inl (by decide))), (rl_ne eG_39 (by decide)).trans (rl_ast eG_37), (rl_ast eG_39).trans (congrArg (fun q => vp_updL q (x_19.toNatClampNeg) 0) (rl_ne eG_37 (by decide)))⟩⟩⟩)⟩⟩⟩⟩)), hW, hB_G_39, hF, (Fr.putl (rs := [52, 53]) (fs := []) (Fr.putl (rs := [52, 53]) (fs := []) (Fr.call9 (rs := [52, 53]) (fs := []) (Fr.call9 (rs := [52, 53]) (fs := []) Fr.rf hq_16 rfl rfl) hq_35 rfl rfl) eG_37 (Or.inl (by decide))) eG_39 (Or.inl (by decide))), hS, lv_sub hl [0, 2, 3] rfl⟩
        · have c_38 : y_25.toInt ≠ 0 := xI_ne rfl rfl c_38
          refine lv_aload_n hx hb dX5_setNextFeet_142 rfl (lv_at hl 2 rfl) ?_
          refine S_getR (n := 55) (C := RX5) (T := TX5) (N := 7) hx hb hg iX5 hown hK hW kd_29 rfl 3 (lt_b rfl) (hg (Cond.fieldLink RX5 21 "SlabWalk$Odds" "steppedSums" "[J") m467) (fun _ h9 => h9) rfl dX5_setNextFeet_143 ?_
          refine lv_aload_n hx hb dX5_setNextFeet_146 rfl (lv_at hl 3 rfl) ?_
          refine S_getI (v := (G.1 7 7)) (C := RX0) (T := TX0) (N := 8) hx hb hg iX0 hown hK hW kd_7 rfl 7 (lt_b rfl) (hg (Cond.fieldLink RX5 47 "SlabWalk$Course" "end" "I") m392) (fun _ h9 => h9) rfl ((congrFun (congrFun (gp_l eG_37).1 7) 7).trans ((hq_35.i9 7 7 rfl rfl).trans ((hq_16.i9 7 7 rfl rfl).trans ((hq_5.i9 7 7 rfl rfl).trans ((congrFun (congrFun (gp_l eG_3).1 7) 7).trans ((congrFun (congrFun (gp_l eG_2).1 7) 7).trans (rfl))))))) dX5_setNextFeet_147 ?_
          refine lv_iload_n hx hb dX5_setNextFeet_150 rfl (lv_at hl 1 rfl) ?_
          refine lv_aload_n hx hb dX5_setNextFeet_151 rfl (lv_at hl 3 rfl) ?_
          have b_41 : 0 ≤ (G.1 7 5).toInt ∧ (G.1 7 5).toInt ≤ 99 := bd_7_5 hB_G
          refine S_getI (v := (G.1 7 5)) (C := RX0) (T := TX0) (N := 8) hx hb hg iX0 hown hK hW kd_7 rfl 5 (lt_b rfl) (hg (Cond.fieldLink RX5 65 "SlabWalk$Course" "leap" "I") m387) (fun _ h9 => h9) rfl ((congrFun (congrFun (gp_l eG_37).1 7) 5).trans ((hq_35.i9 7 5 rfl rfl).trans ((hq_16.i9 7 5 rfl rfl).trans ((hq_5.i9 7 5 rfl rfl).trans ((congrFun (congrFun (gp_l eG_3).1 7) 5).trans (congrFun (congrFun (gp_l eG_2).1 7) 5)))))) dX5_setNextFeet_152 ?_
          refine lv_isub hx hb dX5_setNextFeet_155 ?_
          refine lv_topi (fun y_42 ey_42 => ?_)
          have ty_42 : y_42.toInt = x_19.toInt - (G.1 7 5).toInt := xI_sub rfl rfl ey_42 ((by first | (clear hn_12 f_11 b_13 c_14 hn_23 ty_25 c_38; omega) | omega)) ((by first | (clear hn_12 f_11 b_13 c_14 hn_23 ty_25 c_38; omega) | omega))
          refine lv_iload_n hx hb dX5_setNextFeet_156 rfl (lv_at hl 1 rfl) ?_
          refine lv_aload_n hx hb dX5_setNextFeet_157 rfl (lv_at hl 3 rfl) ?_
          have b_43 : 0 ≤ (G.1 7 4).toInt ∧ (G.1 7 4).toInt ≤ 60 := bd_7_4 hB_G
          refine S_getI (v := (G.1 7 4)) (C := RX0) (T := TX0) (N := 8) hx hb hg iX0 hown hK hW kd_7 rfl 4 (lt_b rfl) (hg (Cond.fieldLink RX5 40 "SlabWalk$Course" "most" "I") m381) (fun _ h9 => h9) rfl ((congrFun (congrFun (gp_l eG_37).1 7) 4).trans ((hq_35.i9 7 4 rfl rfl).trans ((hq_16.i9 7 4 rfl rfl).trans ((hq_5.i9 7 4 rfl rfl).trans ((congrFun (congrFun (gp_l eG_3).1 7) 4).trans (congrFun (congrFun (gp_l eG_2).1 7) 4)))))) dX5_setNextFeet_158 ?_
          refine lv_isub hx hb dX5_setNextFeet_161 ?_
          refine lv_topi (fun y_44 ey_44 => ?_)
          have ty_44 : y_44.toInt = x_19.toInt - (G.1 7 4).toInt := xI_sub rfl rfl ey_44 ((by first | (clear hn_12 f_11 hn_23 ty_25 c_38; omega) | omega)) ((by first | (clear hn_12 f_11 hn_23 ty_25 c_38; omega) | omega))
          refine ic_1 hx hb dX5_setNextFeet_162 ?_
          refine lv_isub hx hb dX5_setNextFeet_163 ?_
          refine lv_topi (fun y_45 ey_45 => ?_)
          have ty_45 : y_45.toInt = y_44.toInt - 1 := xI_sub rfl rfl ey_45 ((by first | (clear hn_12 f_11 hn_23 ty_25 c_38; omega) | omega)) ((by first | (clear hn_12 f_11 hn_23 ty_25 c_38; omega) | omega))
          refine S_calll (va_runS (As := [.ref (a 55), .int (G.1 7 7), .int y_42, .int y_45]) (rest := [.int x_19, .ref (a 53)]) ⟨hx, hb, hml, hown, hts⟩ (k_oSum_55 l D k A a z G_37 (G.1 7 7) y_42 y_45 ⟨(by first | (clear hn_12 hn_23 ty_25 c_38; omega) | omega), (by first | (clear hn_12 hn_23 ty_25 c_38; omega) | omega)⟩ ⟨(by first | (clear hn_12 f_11 hn_23 ty_25 c_38; omega) | omega), (by first | (clear hn_12 f_11 hn_23 ty_25 c_38; omega) | omega)⟩ ⟨(by first | (clear hn_12 f_11 hn_23 ty_25 c_38; omega) | omega), (by first | (clear hn_12 f_11 hn_23 ty_25 c_38; omega) | omega)⟩) (va_cwS 4 hts (gd_S hgd m1027 m1028 m126 m1029) rfl rfl rfl hd_X5_sumOf.2 ⟨Nat.le_of_ble_eq_true rfl, Nat.le_of_ble_eq_true rfl⟩) (pre_S hW hB_G_37 hK hZ hS) rfl rfl hl.1 rfl (lv_room (Nat.le_of_ble_eq_true rfl)) dX5_setNextFeet_164 ⟨Nat.le_of_ble_eq_true rfl, Nat.le_of_ble_eq_true rfl⟩) hS (fun r_46 G_47 H locs hpo hW hS => ?_)
          have hX_50 : P_oSum_55 (G.1 7 7) y_42 y_45 G_37 r_46 G_47 := hpo
          obtain ⟨hB_G_47, hq_48, -⟩ := hpo
          have hF := hF.call9 hq_48 rfl rfl
          refine lv_goto (tgt := 171) hx hb dX5_setNextFeet_167 rfl ?_
          refine S_last hx hb hK hW hS kd_53 (vin ((by first | (clear hn_12 f_11 hn_23 ty_25 c_38; omega) | omega)) ((by first | (clear hn_12 f_11 hn_23 ty_25 c_38; omega) | omega))) dX5_setNextFeet_171 (fun G_51 H locs eG_51 hW hS => ?_)
          have hB_G_51 : Bd G_51 := hB_G_47.putl eG_51
          have hF := hF.putl eG_51 (Or.inl (by decide))
          obtain ⟨y_52, ey_52⟩ : ∃ q, q = x_19 + 1 := ⟨_, rfl⟩
          have ty_52 : y_52.toInt = x_19.toInt + 1 := xI_add rfl rfl ey_52 ((by first | (clear hn_12 f_11 hn_23 ty_25 c_38; omega) | omega)) ((by first | (clear hn_12 f_11 hn_23 ty_25 c_38; omega) | omega))
          refine lv_iinc (v := y_52) (lv' := [(2, .int y_52), (3, .int y_25), (0, .ref (a 29)), (1, .ref (a 7))]) hx hb dX5_setNextFeet_172 hl (k := 1) rfl (by rw [ey_52]; rfl) (lt_b rfl) rfl (fun ls hl => ?_)
          refine lv_goto (tgt := 81) hx hb dX5_setNextFeet_175 rfl ?_
          exact ih_17 (400 - y_52.toInt : Int).toNat ((by first | (clear f_11 ty_25 c_38; omega) | omega)) _ _ _ ⟨G_51, y_52, (Int.toNat_of_nonneg ((by first | (clear hn_12 f_11 hn_23 ty_25 c_38; omega) | omega))), ⟨(by first | (clear hn_12 f_11 hn_23 ty_25 c_38; omega) | omega), (by first | (clear hn_12 f_11 hn_23 ty_25 c_38; omega) | omega)⟩, (hX_20.st (St_k_oNext_2_mk ⟨x_19, G_15, y_52, G_51, rfl, rfl, f_22, hB_G_15, ⟨c_24, ⟨y_25, ey_25, ⟨w_30, G_33, hX_36, hB_G_33, hq_35, (Or.inr ⟨c_38, ⟨y_42, ty_42, ⟨y_44, ty_44, ⟨y_45, ty_45, ⟨G_37, hB_G_37, (Fr.putl (rs := [52]) (fs := []) Fr.rf eG_37 (Or.inl (by decide))), rl_ast eG_37, ⟨r_46, G_47, hX_50, ⟨y_52, ty_52, ⟨rfl, (Fr.putl (rs := [53]) (fs := []) Fr.rf eG_51 (Or.inl (by decide))), rl_ast eG_51⟩⟩⟩⟩⟩⟩⟩⟩)⟩⟩⟩⟩)), hW, hB_G_51, hF, (Fr.putl (rs := [52, 53]) (fs := []) (Fr.call9 (rs := [52, 53]) (fs := []) (Fr.putl (rs := [52, 53]) (fs := []) (Fr.call9 (rs := [52, 53]) (fs := []) (Fr.call9 (rs := [52, 53]) (fs := []) Fr.rf hq_16 rfl rfl) hq_35 rfl rfl) eG_37 (Or.inl (by decide))) hq_48 rfl rfl) eG_51 (Or.inl (by decide))), hS, lv_sub hl [0, 2, 3] rfl⟩
      refine lv_if_eq (tgt := 131) hx hb dX5_setNextFeet_102 rfl (fun c_53 => ?_) (fun c_53 => ?_)
      · have c_53 : y_25.toInt = 0 := xI_eq rfl rfl c_53
        refine lv_lconst (v := 0) hx hb dX5_setNextFeet_131 (by decide) ?_
        exact hJ_34 0 _ _ _ ⟨G_15, (Jn_k_oNext_3_mk (Or.inl ⟨c_53, ⟨rfl, rfl⟩⟩)), hW, hB_G_15, hF, (Fr.rf (rs := []) (fs := [])), hS, lv_sub hl [0, 1, 2, 3] rfl⟩
      · have c_53 : y_25.toInt ≠ 0 := xI_ne rfl rfl c_53
        refine lv_aload_n hx hb dX5_setNextFeet_105 rfl (lv_at hl 2 rfl) ?_
        refine S_getR (n := 54) (C := RX5) (T := TX5) (N := 7) hx hb hg iX5 hown hK hW kd_29 rfl 2 (lt_b rfl) (hg (Cond.fieldLink RX5 18 "SlabWalk$Odds" "sums" "[J") m466) (fun _ h9 => h9) rfl dX5_setNextFeet_106 ?_
        refine lv_aload_n hx hb dX5_setNextFeet_109 rfl (lv_at hl 3 rfl) ?_
        refine S_getI (v := (G.1 7 7)) (C := RX0) (T := TX0) (N := 8) hx hb hg iX0 hown hK hW kd_7 rfl 7 (lt_b rfl) (hg (Cond.fieldLink RX5 47 "SlabWalk$Course" "end" "I") m392) (fun _ h9 => h9) rfl ((hq_16.i9 7 7 rfl rfl).trans ((hq_5.i9 7 7 rfl rfl).trans ((congrFun (congrFun (gp_l eG_3).1 7) 7).trans ((congrFun (congrFun (gp_l eG_2).1 7) 7).trans (rfl))))) dX5_setNextFeet_110 ?_
        refine lv_iload_n hx hb dX5_setNextFeet_113 rfl (lv_at hl 1 rfl) ?_
        refine lv_aload_n hx hb dX5_setNextFeet_114 rfl (lv_at hl 3 rfl) ?_
        have b_54 : 0 ≤ (G.1 7 4).toInt ∧ (G.1 7 4).toInt ≤ 60 := bd_7_4 hB_G
        refine S_getI (v := (G.1 7 4)) (C := RX0) (T := TX0) (N := 8) hx hb hg iX0 hown hK hW kd_7 rfl 4 (lt_b rfl) (hg (Cond.fieldLink RX5 40 "SlabWalk$Course" "most" "I") m381) (fun _ h9 => h9) rfl ((hq_16.i9 7 4 rfl rfl).trans ((hq_5.i9 7 4 rfl rfl).trans ((congrFun (congrFun (gp_l eG_3).1 7) 4).trans (congrFun (congrFun (gp_l eG_2).1 7) 4)))) dX5_setNextFeet_115 ?_
        refine lv_isub hx hb dX5_setNextFeet_118 ?_
        refine lv_topi (fun y_55 ey_55 => ?_)
        have ty_55 : y_55.toInt = x_19.toInt - (G.1 7 4).toInt := xI_sub rfl rfl ey_55 ((by first | (clear hn_12 f_11 hn_23 ty_25 c_53; omega) | omega)) ((by first | (clear hn_12 f_11 hn_23 ty_25 c_53; omega) | omega))
        refine lv_iload_n hx hb dX5_setNextFeet_119 rfl (lv_at hl 1 rfl) ?_
        refine lv_aload_n hx hb dX5_setNextFeet_120 rfl (lv_at hl 3 rfl) ?_
        have b_56 : 0 ≤ (G.1 7 3).toInt ∧ (G.1 7 3).toInt ≤ 60 := bd_7_3 hB_G
        refine S_getI (v := (G.1 7 3)) (C := RX0) (T := TX0) (N := 8) hx hb hg iX0 hown hK hW kd_7 rfl 3 (lt_b rfl) (hg (Cond.fieldLink RX5 58 "SlabWalk$Course" "least" "I") m379) (fun _ h9 => h9) rfl ((hq_16.i9 7 3 rfl rfl).trans ((hq_5.i9 7 3 rfl rfl).trans ((congrFun (congrFun (gp_l eG_3).1 7) 3).trans (congrFun (congrFun (gp_l eG_2).1 7) 3)))) dX5_setNextFeet_121 ?_
        refine lv_isub hx hb dX5_setNextFeet_124 ?_
        refine lv_topi (fun y_57 ey_57 => ?_)
        have ty_57 : y_57.toInt = x_19.toInt - (G.1 7 3).toInt := xI_sub rfl rfl ey_57 ((by first | (clear hn_12 f_11 hn_23 ty_25 c_53; omega) | omega)) ((by first | (clear hn_12 f_11 hn_23 ty_25 c_53; omega) | omega))
        refine S_calll (va_runS (As := [.ref (a 54), .int (G.1 7 7), .int y_55, .int y_57]) (rest := [.int x_19, .ref (a 52)]) ⟨hx, hb, hml, hown, hts⟩ (k_oSum_54 l D k A a z G_15 (G.1 7 7) y_55 y_57 ⟨(by first | (clear hn_12 hn_23 ty_25 c_53; omega) | omega), (by first | (clear hn_12 hn_23 ty_25 c_53; omega) | omega)⟩ ⟨(by first | (clear hn_12 f_11 hn_23 ty_25 c_53; omega) | omega), (by first | (clear hn_12 f_11 hn_23 ty_25 c_53; omega) | omega)⟩ ⟨(by first | (clear hn_12 f_11 hn_23 ty_25 c_53; omega) | omega), (by first | (clear hn_12 f_11 hn_23 ty_25 c_53; omega) | omega)⟩) (va_cwS 4 hts (gd_S hgd m1027 m1028 m126 m1029) rfl rfl rfl hd_X5_sumOf.2 ⟨Nat.le_of_ble_eq_true rfl, Nat.le_of_ble_eq_true rfl⟩) (pre_S hW hB_G_15 hK hZ hS) rfl rfl hl.1 rfl (lv_room (Nat.le_of_ble_eq_true rfl)) dX5_setNextFeet_125 ⟨Nat.le_of_ble_eq_true rfl, Nat.le_of_ble_eq_true rfl⟩) hS (fun r_58 G_59 H locs hpo hW hS => ?_)
        have hX_62 : P_oSum_54 (G.1 7 7) y_55 y_57 G_15 r_58 G_59 := hpo
        obtain ⟨hB_G_59, hq_60, -⟩ := hpo
        have hF := hF.call9 hq_60 rfl rfl
        refine lv_goto (tgt := 132) hx hb dX5_setNextFeet_128 rfl ?_
        exact hJ_34 r_58 _ _ _ ⟨G_59, (Jn_k_oNext_3_mk (Or.inr ⟨c_53, ⟨y_55, ty_55, ⟨y_57, ty_57, ⟨r_58, G_59, hX_62, ⟨rfl, rfl⟩⟩⟩⟩⟩)), hW, hB_G_59, hF, (Fr.call9 (rs := []) (fs := []) Fr.rf hq_60 rfl rfl), hS, lv_sub hl [0, 1, 2, 3] rfl⟩
  · have c_14 : x_8.toInt < (G.1 7 7).toInt := xI_nle rfl rfl c_14
    refine lv_aload_n hx hb dX5_setNextFeet_24 rfl (lv_at hl 1 rfl) ?_
    refine S_getR (n := 54) (C := RX5) (T := TX5) (N := 7) hx hb hg iX5 hown hK hW kd_29 rfl 2 (lt_b rfl) (hg (Cond.fieldLink RX5 18 "SlabWalk$Odds" "sums" "[J") m466) (fun _ h9 => h9) rfl dX5_setNextFeet_25 ?_
    refine lv_iload_n hx hb dX5_setNextFeet_28 rfl (lv_at hl 0 rfl) ?_
    refine ic_1 hx hb dX5_setNextFeet_29 ?_
    refine lv_iadd hx hb dX5_setNextFeet_30 ?_
    refine lv_topi (fun y_63 ey_63 => ?_)
    have ty_63 : y_63.toInt = x_8.toInt + 1 := xI_add rfl rfl ey_63 (by omega) (by omega)
    refine lv_aload_n hx hb dX5_setNextFeet_31 rfl (lv_at hl 1 rfl) ?_
    refine S_getR (n := 54) (C := RX5) (T := TX5) (N := 7) hx hb hg iX5 hown hK hW kd_29 rfl 2 (lt_b rfl) (hg (Cond.fieldLink RX5 18 "SlabWalk$Odds" "sums" "[J") m466) (fun _ h9 => h9) rfl dX5_setNextFeet_32 ?_
    refine lv_iload_n hx hb dX5_setNextFeet_35 rfl (lv_at hl 0 rfl) ?_
    refine S_lald hx hb hK hW kd_54 (vin (by omega) (by omega)) dX5_setNextFeet_36 (fun y_64 ey_64 => ?_)
    refine lv_aload_n hx hb dX5_setNextFeet_37 rfl (lv_at hl 1 rfl) ?_
    refine S_getR (n := 52) (C := RX5) (T := TX5) (N := 7) hx hb hg iX5 hown hK hW kd_29 rfl 0 (lt_b rfl) (hg (Cond.fieldLink RX5 11 "SlabWalk$Odds" "stepped" "[J") m464) (fun _ h9 => h9) rfl dX5_setNextFeet_38 ?_
    refine lv_iload_n hx hb dX5_setNextFeet_41 rfl (lv_at hl 0 rfl) ?_
    refine S_lald hx hb hK hW kd_52 (vin (by omega) (by omega)) dX5_setNextFeet_42 (fun y_65 ey_65 => ?_)
    refine lv_ladd hx hb dX5_setNextFeet_43 ?_
    refine lv_topl (fun y_66 ey_66 => ?_)
    refine lv_aload_n hx hb dX5_setNextFeet_44 rfl (lv_at hl 1 rfl) ?_
    refine S_getR (n := 53) (C := RX5) (T := TX5) (N := 7) hx hb hg iX5 hown hK hW kd_29 rfl 1 (lt_b rfl) (hg (Cond.fieldLink RX5 15 "SlabWalk$Odds" "leapt" "[J") m465) (fun _ h9 => h9) rfl dX5_setNextFeet_45 ?_
    refine lv_iload_n hx hb dX5_setNextFeet_48 rfl (lv_at hl 0 rfl) ?_
    refine S_lald hx hb hK hW kd_53 (vin (by omega) (by omega)) dX5_setNextFeet_49 (fun y_67 ey_67 => ?_)
    refine lv_ladd hx hb dX5_setNextFeet_50 ?_
    refine lv_topl (fun y_68 ey_68 => ?_)
    refine S_last hx hb hK hW hS kd_54 (vin (by omega) (by omega)) dX5_setNextFeet_51 (fun G_69 H locs eG_69 hW hS => ?_)
    have hB_G_69 : Bd G_69 := hB_G_4.putl eG_69
    have hF := hF.putl eG_69 (Or.inl (by decide))
    refine lv_aload_n hx hb dX5_setNextFeet_52 rfl (lv_at hl 1 rfl) ?_
    refine S_getR (n := 55) (C := RX5) (T := TX5) (N := 7) hx hb hg iX5 hown hK hW kd_29 rfl 3 (lt_b rfl) (hg (Cond.fieldLink RX5 21 "SlabWalk$Odds" "steppedSums" "[J") m467) (fun _ h9 => h9) rfl dX5_setNextFeet_53 ?_
    refine lv_iload_n hx hb dX5_setNextFeet_56 rfl (lv_at hl 0 rfl) ?_
    refine ic_1 hx hb dX5_setNextFeet_57 ?_
    refine lv_iadd hx hb dX5_setNextFeet_58 ?_
    refine lv_topi (fun y_70 ey_70 => ?_)
    have ty_70 : y_70.toInt = x_8.toInt + 1 := xI_add rfl rfl ey_70 (by omega) (by omega)
    refine lv_aload_n hx hb dX5_setNextFeet_59 rfl (lv_at hl 1 rfl) ?_
    refine S_getR (n := 55) (C := RX5) (T := TX5) (N := 7) hx hb hg iX5 hown hK hW kd_29 rfl 3 (lt_b rfl) (hg (Cond.fieldLink RX5 21 "SlabWalk$Odds" "steppedSums" "[J") m467) (fun _ h9 => h9) rfl dX5_setNextFeet_60 ?_
    refine lv_iload_n hx hb dX5_setNextFeet_63 rfl (lv_at hl 0 rfl) ?_
    refine S_lald hx hb hK hW kd_55 (vin (by omega) (by omega)) dX5_setNextFeet_64 (fun y_71 ey_71 => ?_)
    refine lv_aload_n hx hb dX5_setNextFeet_65 rfl (lv_at hl 1 rfl) ?_
    refine S_getR (n := 52) (C := RX5) (T := TX5) (N := 7) hx hb hg iX5 hown hK hW kd_29 rfl 0 (lt_b rfl) (hg (Cond.fieldLink RX5 11 "SlabWalk$Odds" "stepped" "[J") m464) (fun _ h9 => h9) rfl dX5_setNextFeet_66 ?_
    refine lv_iload_n hx hb dX5_setNextFeet_69 rfl (lv_at hl 0 rfl) ?_
    refine S_lald hx hb hK hW kd_52 (vin (by omega) (by omega)) dX5_setNextFeet_70 (fun y_72 ey_72 => ?_)
    refine lv_ladd hx hb dX5_setNextFeet_71 ?_
    refine lv_topl (fun y_73 ey_73 => ?_)
    refine S_last hx hb hK hW hS kd_55 (vin (by omega) (by omega)) dX5_setNextFeet_72 (fun G_74 H locs eG_74 hW hS => ?_)
    have hB_G_74 : Bd G_74 := hB_G_69.putl eG_74
    have hF := hF.putl eG_74 (Or.inl (by decide))
    obtain ⟨y_75, ey_75⟩ : ∃ q, q = x_8 + 1 := ⟨_, rfl⟩
    have ty_75 : y_75.toInt = x_8.toInt + 1 := xI_add rfl rfl ey_75 (by omega) (by omega)
    refine lv_iinc (v := y_75) (lv' := [(2, .int y_75), (0, .ref (a 29)), (1, .ref (a 7))]) hx hb dX5_setNextFeet_73 hl (k := 0) rfl (by rw [ey_75]; rfl) (lt_b rfl) rfl (fun ls hl => ?_)
    refine lv_goto (tgt := 16) hx hb dX5_setNextFeet_76 rfl ?_
    exact ih_6 (400 - y_75.toInt : Int).toNat (by omega) _ _ _ ⟨G_74, y_75, (Int.toNat_of_nonneg (by omega)), ⟨by omega, by omega⟩, (hX_9.st (St_k_oNext_1_mk ⟨x_8, G_4, y_75, G_74, rfl, rfl, f_11, hB_G_4, ⟨c_14, ⟨y_63, ty_63, ⟨y_64, ey_64, ⟨y_65, ey_65, ⟨y_66, ey_66, ⟨y_67, ey_67, ⟨y_68, ey_68, ⟨y_70, ty_70, ⟨y_71, ey_71.trans (congrFun (rl_ne eG_69 (by decide)) _), ⟨y_72, ey_72.trans (congrFun (rl_ne eG_69 (by decide)) _), ⟨y_73, ey_73, ⟨y_75, ty_75, ⟨rfl, (Fr.putl (rs := [54, 55]) (fs := []) (Fr.putl (rs := [54, 55]) (fs := []) Fr.rf eG_69 (Or.inl (by decide))) eG_74 (Or.inl (by decide))), (rl_ne eG_74 (by decide)).trans (rl_ast eG_69), (rl_ast eG_74).trans (congrArg (fun q => vp_updL q (y_70.toNatClampNeg) y_73) (rl_ne eG_69 (by decide)))⟩⟩⟩⟩⟩⟩⟩⟩⟩⟩⟩⟩⟩⟩)), hW, hB_G_74, hF, (Fr.putl (rs := [54, 55]) (fs := []) (Fr.putl (rs := [54, 55]) (fs := []) (Fr.call9 (rs := [54, 55]) (fs := []) Fr.rf hq_5 rfl rfl) eG_69 (Or.inl (by decide))) eG_74 (Or.inl (by decide))), hS, lv_sub hl [0, 1, 2] rfl⟩

set_option maxHeartbeats 4000000 in
set_option maxRecDepth 100000 in
theorem k_oCount (l : Launch) (D : va_G) (k : KT) (A : Nat → Prop) (a : Nat → Nat) (z : SK) (G : GS) (p0 : Int32) (ha_p0 : 1 ≤ p0.toInt ∧ p0.toInt ≤ 60) (hci : (G.1 7 6).toInt ≤ 399 ∧ (G.1 7 3).toInt ≤ (G.1 7 4).toInt ∧ ((G.1 7 7).toInt ≤ 0 ∨ (G.1 7 7).toInt + (G.1 7 4).toInt ≤ (G.1 7 6).toInt + 1)) : Met l yX5_countWays (WS yX5_countWays cX5_countWays 6 (some .long)) ({ frames := 3, cells := 0, slots := 0, locals := 63 }) (va_Pc [.ref (a 29), .ref (a 7), .int p0] (cW D k A a z G)) (va_Ql (fun (r : Int64) (G1 : GS) => P_oCount p0 G r G1) (fun (G1 : GS) t => Wd D k A a G1 t.heap) A) 0 0 A := by
  refine Met.ofW (cc := cX5_countWays) (maxL := 6) (ret := (some .long)) (by decide) rfl ?_
  intro p e s m args below meth c s₁ B hml hv
  obtain ⟨rfl, hW, hB_G, hK, hZ⟩ := hv
  have hx := B.exec
  have hb := B.bytes
  have hr := B.returns
  have hts := atoms_spec (ws := WS yX5_countWays cX5_countWays 6 (some .long)) B.pre
  have hgd : ∀ w ∈ gd, w ∈ WS yX5_countWays cX5_countWays 6 (some .long) := fun w h => List.mem_cons_of_mem _ h
  have hg : ∀ w ∈ gd, w.before _ s = true := fun w h => hts w (hgd w h)
  have hown : s.vm.findClass RX5 = some m.cls := findClass_of_methodNamed B.named
  have hS : va_S A s.heap s.heap [] := va_S.rf
  have hF : Fr [52, 53, 54, 55] [] G G := Fr.rf
  have hl := lv_entry ([.ref (a 29), .ref (a 7), .int p0]) (n := 6) (Nat.le_of_ble_eq_true rfl)
  rw [lg_entry_eq]
  generalize (lg_sl ([.ref (a 29), .ref (a 7), .int p0]) ++ List.replicate (6 - (lg_sl ([.ref (a 29), .ref (a 7), .int p0])).length) Slot.unset).toArray = ls at hl ⊢
  have hl : lv_has ls 6 [(0, .ref (a 29)), (1, .ref (a 7)), (2, .int p0)] := hl
  have b_1 : (-1) ≤ (G.1 7 6).toInt ∧ (G.1 7 6).toInt ≤ 400 := bd_7_6 hB_G
  refine ic_0 hx hb dX5_countWays_0 ?_
  refine lv_istore_n (lv' := [(3, .int 0), (0, .ref (a 29)), (1, .ref (a 7)), (2, .int p0)]) hx hb dX5_countWays_1 rfl hl (lt_b rfl) rfl (fun ls hl => ?_)
  have qc_8 : (0 : Int32).toInt = 0 := rfl
  refine loop_N (Inv := fun n H locs ls => ∃ (G_2 : GS) (x_6 : Int32), (n : Int) = 400 - x_6.toInt ∧ (0 ≤ x_6.toInt ∧ x_6.toInt ≤ 400) ∧ Rc (St_k_oCount_1 G) (0, G) (x_6, G_2) ∧ Wd D k A a G_2 H ∧ Bd G_2 ∧ Fr [52, 53, 54, 55] [] G G_2 ∧ Fr [52, 53] [] G G_2 ∧ va_S A s.heap H locs ∧ lv_has ls 6 [(3, .int x_6), (0, .ref (a 29)), (1, .ref (a 7)), (2, .int p0)]) (fun n_5 H locs ls ih_4 hI => ?_) (400 - 0 : Int).toNat ⟨G, 0, (Int.toNat_of_nonneg ((by first | (clear ha_p0 hci b_1; omega) | omega))), ⟨(by first | (clear ha_p0 hci b_1; omega) | omega), (by first | (clear ha_p0 hci b_1; omega) | omega)⟩, Rc.rf, hW, hB_G, hF, Fr.rf, hS, lv_sub hl [0, 1, 2, 3] rfl⟩
  obtain ⟨G_2, x_6, hn_10, f_9, hX_7, hW, hB_G_2, hF, hq_3, hS, hl⟩ := hI
  refine lv_iload_n hx hb dX5_countWays_2 rfl (lv_at hl 0 rfl) ?_
  refine lv_aload_n hx hb dX5_countWays_3 rfl (lv_at hl 2 rfl) ?_
  refine S_getI (v := (G.1 7 6)) (C := RX0) (T := TX0) (N := 8) hx hb hg iX0 hown hK hW kd_7 rfl 6 (lt_b rfl) (hg (Cond.fieldLink RX5 30 "SlabWalk$Course" "last" "I") m389) (fun _ h9 => h9) rfl ((hq_3.i9 7 6 rfl rfl).trans (rfl)) dX5_countWays_4 ?_
  refine lv_icmp_gt (tgt := 51) hx hb dX5_countWays_7 rfl (fun c_11 => ?_) (fun c_11 => ?_)
  · have c_11 : (G.1 7 6).toInt < x_6.toInt := xI_lt rfl rfl c_11
    refine ic_1 hx hb dX5_countWays_51 ?_
    refine lv_istore_n (lv' := [(3, .int 1), (0, .ref (a 29)), (1, .ref (a 7)), (2, .int p0)]) hx hb dX5_countWays_52 rfl hl (lt_b rfl) rfl (fun ls hl => ?_)
    have qc_18 : (1 : Int32).toInt = 1 := rfl
    refine loop_N (Inv := fun n H locs ls => ∃ (G_12 : GS) (x_16 : Int32), (n : Int) = 60 - x_16.toInt ∧ (1 ≤ x_16.toInt ∧ x_16.toInt ≤ 60) ∧ Rc (St_k_oCount_2 p0) (1, G_2) (x_16, G_12) ∧ Wd D k A a G_12 H ∧ Bd G_12 ∧ Fr [52, 53, 54, 55] [] G G_12 ∧ Fr [52, 53, 54, 55] [] G_2 G_12 ∧ va_S A s.heap H locs ∧ lv_has ls 6 [(3, .int x_16), (0, .ref (a 29)), (1, .ref (a 7)), (2, .int p0)]) (fun n_15 H locs ls ih_14 hI => ?_) (60 - 1 : Int).toNat ⟨G_2, 1, (Int.toNat_of_nonneg ((by first | (clear ha_p0 hci b_1 hn_10 f_9 c_11; omega) | omega))), ⟨(by first | (clear ha_p0 hci b_1 hn_10 f_9 c_11; omega) | omega), (by first | (clear ha_p0 hci b_1 hn_10 f_9 c_11; omega) | omega)⟩, Rc.rf, hW, hB_G_2, hF, Fr.rf, hS, lv_sub hl [0, 1, 2, 3] rfl⟩
    obtain ⟨G_12, x_16, hn_20, f_19, hX_17, hW, hB_G_12, hF, hq_13, hS, hl⟩ := hI
    refine lv_iload_n hx hb dX5_countWays_53 rfl (lv_at hl 0 rfl) ?_
    refine lv_iload_n hx hb dX5_countWays_54 rfl (lv_at hl 3 rfl) ?_
    refine lv_icmp_ge (tgt := 69) hx hb dX5_countWays_55 rfl (fun c_21 => ?_) (fun c_21 => ?_)
    · have c_21 : p0.toInt ≤ x_16.toInt := xI_le rfl rfl c_21
      refine lv_lconst (v := 0) hx hb dX5_countWays_69 (by decide) ?_
      refine lv_lstore_n (lv' := [(3, .long 0), (0, .ref (a 29)), (1, .ref (a 7)), (2, .int p0)]) hx hb dX5_countWays_70 rfl hl (lt_b rfl) rfl (fun ls hl => ?_)
      refine lv_aload_n hx hb dX5_countWays_71 rfl (lv_at hl 2 rfl) ?_
      have b_22 : 0 ≤ (G.1 7 7).toInt ∧ (G.1 7 7).toInt ≤ 400 := bd_7_7 hB_G
      refine S_getI (v := (G.1 7 7)) (C := RX0) (T := TX0) (N := 8) hx hb hg iX0 hown hK hW kd_7 rfl 7 (lt_b rfl) (hg (Cond.fieldLink RX5 47 "SlabWalk$Course" "end" "I") m392) (fun _ h9 => h9) rfl ((hq_13.i9 7 7 rfl rfl).trans (hq_3.i9 7 7 rfl rfl)) dX5_countWays_72 ?_
      refine lv_istore (lv' := [(5, .int (G.1 7 7)), (3, .long 0), (0, .ref (a 29)), (1, .ref (a 7)), (2, .int p0)]) hx hb dX5_countWays_75 hl (lt_b rfl) rfl (fun ls hl => ?_)
      refine loop_N (Inv := fun n H locs ls => ∃ (G_23 : GS) (x_27 : Int32) (x_28 : Int64), (n : Int) = 400 - x_27.toInt ∧ (0 ≤ x_27.toInt ∧ x_27.toInt ≤ 400) ∧ Rc (St_k_oCount_3 G) ((G.1 7 7), 0, G_12) (x_27, x_28, G_23) ∧ Wd D k A a G_23 H ∧ Bd G_23 ∧ Fr [52, 53, 54, 55] [] G G_23 ∧ Fr [] [] G_12 G_23 ∧ va_S A s.heap H locs ∧ lv_has ls 6 [(5, .int x_27), (3, .long x_28), (0, .ref (a 29)), (1, .ref (a 7))]) (fun n_26 H locs ls ih_25 hI => ?_) (400 - (G.1 7 7).toInt : Int).toNat ⟨G_12, (G.1 7 7), 0, (Int.toNat_of_nonneg ((by first | (clear ha_p0 hn_10 f_9 hn_20 f_19 c_21; omega) | omega))), ⟨(by first | (clear ha_p0 hn_10 f_9 hn_20 f_19 c_21; omega) | omega), (by first | (clear ha_p0 hn_10 f_9 hn_20 f_19 c_21; omega) | omega)⟩, Rc.rf, hW, hB_G_12, hF, Fr.rf, hS, lv_sub hl [0, 1, 2, 3] rfl⟩
      obtain ⟨G_23, x_27, x_28, hn_31, f_30, hX_29, hW, hB_G_23, hF, hq_24, hS, hl⟩ := hI
      refine lv_iload hx hb dX5_countWays_77 (lv_at hl 0 rfl) ?_
      refine lv_aload_n hx hb dX5_countWays_79 rfl (lv_at hl 3 rfl) ?_
      refine S_getI (v := (G.1 7 6)) (C := RX0) (T := TX0) (N := 8) hx hb hg iX0 hown hK hW kd_7 rfl 6 (lt_b rfl) (hg (Cond.fieldLink RX5 30 "SlabWalk$Course" "last" "I") m389) (fun _ h9 => h9) rfl ((hq_24.i9 7 6 rfl rfl).trans ((hq_13.i9 7 6 rfl rfl).trans ((hq_3.i9 7 6 rfl rfl).trans (rfl)))) dX5_countWays_80 ?_
      refine lv_icmp_gt (tgt := 116) hx hb dX5_countWays_83 rfl (fun c_32 => ?_) (fun c_32 => ?_)
      · have c_32 : (G.1 7 6).toInt < x_27.toInt := xI_lt rfl rfl c_32
        refine lv_lload_n hx hb dX5_countWays_116 rfl (lv_at hl 1 rfl) ?_
        exact W.lret (v := x_28) hx hb hr (fun t ht _ => ⟨⟨x_28, G_23, rfl, (P_oCount_mk ⟨hB_G_23, hF, ⟨x_6, G_2, hX_7, f_9, hB_G_2, hq_3, ⟨c_11, ⟨x_16, G_12, hX_17, f_19, hB_G_12, hq_13, ⟨c_21, ⟨x_27, x_28, G_23, hX_29, f_30, hB_G_23, hq_24, ⟨c_32, ⟨rfl, rfl⟩⟩⟩⟩⟩⟩⟩⟩), wd_t ht hW⟩, hS.F ht⟩) hS.2.2 dX5_countWays_117
      · have c_32 : x_27.toInt ≤ (G.1 7 6).toInt := xI_nlt rfl rfl c_32
        refine lv_ldc2 (v := 1000000000000000) hx hb hown (hg (Cond.constantLong RX5 50 1000000000000000) m1032) dX5_countWays_86 ?_
        refine lv_lload_n hx hb dX5_countWays_89 rfl (lv_at hl 1 rfl) ?_
        refine lv_aload_n hx hb dX5_countWays_90 rfl (lv_at hl 2 rfl) ?_
        refine S_getR (n := 52) (C := RX5) (T := TX5) (N := 7) hx hb hg iX5 hown hK hW kd_29 rfl 0 (lt_b rfl) (hg (Cond.fieldLink RX5 11 "SlabWalk$Odds" "stepped" "[J") m464) (fun _ h9 => h9) rfl dX5_countWays_91 ?_
        refine lv_iload hx hb dX5_countWays_94 (lv_at hl 0 rfl) ?_
        refine S_lald hx hb hK hW kd_52 (vin ((by first | (clear ha_p0 hn_10 f_9 hn_20 f_19 c_21 b_22 hn_31; omega) | omega)) ((by first | (clear ha_p0 hn_10 f_9 hn_20 f_19 c_21 b_22 hn_31; omega) | omega))) dX5_countWays_96 (fun y_33 ey_33 => ?_)
        refine lv_ladd hx hb dX5_countWays_97 ?_
        refine lv_topl (fun y_34 ey_34 => ?_)
        refine lv_aload_n hx hb dX5_countWays_98 rfl (lv_at hl 2 rfl) ?_
        refine S_getR (n := 53) (C := RX5) (T := TX5) (N := 7) hx hb hg iX5 hown hK hW kd_29 rfl 1 (lt_b rfl) (hg (Cond.fieldLink RX5 15 "SlabWalk$Odds" "leapt" "[J") m465) (fun _ h9 => h9) rfl dX5_countWays_99 ?_
        refine lv_iload hx hb dX5_countWays_102 (lv_at hl 0 rfl) ?_
        refine S_lald hx hb hK hW kd_53 (vin ((by first | (clear ha_p0 hn_10 f_9 hn_20 f_19 c_21 b_22 hn_31; omega) | omega)) ((by first | (clear ha_p0 hn_10 f_9 hn_20 f_19 c_21 b_22 hn_31; omega) | omega))) dX5_countWays_104 (fun y_35 ey_35 => ?_)
        refine lv_ladd hx hb dX5_countWays_105 ?_
        refine lv_topl (fun y_36 ey_36 => ?_)
        refine va_mmin_long hx hb (by rw [hml]; exact hl.1.symm) hown (hg (Cond.methodLink RX5 52 Lib.MathLoose.min_long.x) m1033) (hg (Cond.static Lib.MathLoose.min_long.x) m1034) (hg (Cond.initialized "java/lang/Math") m132) (hg (Cond.code Lib.MathLoose.min_long.x Lib.MathLoose.min_long.code 4 (some .long)) m1035) (Nat.le_of_ble_eq_true rfl) (Nat.le_of_ble_eq_true rfl) (Nat.le_of_ble_eq_true rfl) (Nat.le_of_ble_eq_true rfl) dX5_countWays_106 ?_
        refine lv_topl (fun y_37 ey_37 => ?_)
        refine lv_lstore_n (lv' := [(3, .long y_37), (5, .int x_27), (0, .ref (a 29)), (1, .ref (a 7))]) hx hb dX5_countWays_109 rfl hl (lt_b rfl) rfl (fun ls hl => ?_)
        obtain ⟨y_38, ey_38⟩ : ∃ q, q = x_27 + 1 := ⟨_, rfl⟩
        have ty_38 : y_38.toInt = x_27.toInt + 1 := xI_add rfl rfl ey_38 ((by first | (clear ha_p0 hn_10 f_9 hn_20 f_19 c_21 b_22 hn_31; omega) | omega)) ((by first | (clear ha_p0 hn_10 f_9 hn_20 f_19 c_21 b_22 hn_31; omega) | omega))
        refine lv_iinc (v := y_38) (lv' := [(5, .int y_38), (3, .long y_37), (0, .ref (a 29)), (1, .ref (a 7))]) hx hb dX5_countWays_110 hl (k := 1) rfl (by rw [ey_38]; rfl) (lt_b rfl) rfl (fun ls hl => ?_)
        refine lv_goto (tgt := 77) hx hb dX5_countWays_113 rfl ?_
        exact ih_25 (400 - y_38.toInt : Int).toNat ((by first | (clear ha_p0 f_9 hn_20 f_19 c_21 b_22; omega) | omega)) _ _ _ ⟨G_23, y_38, y_37, (Int.toNat_of_nonneg ((by first | (clear ha_p0 hn_10 f_9 hn_20 f_19 c_21 b_22 hn_31; omega) | omega))), ⟨(by first | (clear ha_p0 hn_10 f_9 hn_20 f_19 c_21 b_22 hn_31; omega) | omega), (by first | (clear ha_p0 hn_10 f_9 hn_20 f_19 c_21 b_22 hn_31; omega) | omega)⟩, (hX_29.st (St_k_oCount_3_mk ⟨x_27, x_28, G_23, y_38, y_37, G_23, rfl, rfl, f_30, hB_G_23, ⟨c_32, ⟨y_33, ey_33, ⟨y_34, ey_34, ⟨y_35, ey_35, ⟨y_36, ey_36, ⟨y_37, ey_37, ⟨y_38, ty_38, ⟨rfl, rfl, rfl⟩⟩⟩⟩⟩⟩⟩⟩⟩)), hW, hB_G_23, hF, (Fr.call9 (rs := []) (fs := []) Fr.rf hq_24 rfl rfl), hS, lv_sub hl [0, 1, 2, 3] rfl⟩
    · have c_21 : x_16.toInt < p0.toInt := xI_nle rfl rfl c_21
      refine lv_aload_n hx hb dX5_countWays_58 rfl (lv_at hl 1 rfl) ?_
      refine lv_aload_n hx hb dX5_countWays_59 rfl (lv_at hl 2 rfl) ?_
      have b_39 : 0 ≤ (G.1 7 3).toInt ∧ (G.1 7 3).toInt ≤ 60 := bd_7_3 hB_G
      have g_40 : (G_12.1 7 3).toInt = (G.1 7 3).toInt := (congrArg Int32.toInt (show G_12.1 7 3 = (G.1 7 3) from ((hq_13.i9 7 3 rfl rfl).trans (hq_3.i9 7 3 rfl rfl))))
      have b_41 : 0 ≤ (G.1 7 4).toInt ∧ (G.1 7 4).toInt ≤ 60 := bd_7_4 hB_G
      have g_42 : (G_12.1 7 4).toInt = (G.1 7 4).toInt := (congrArg Int32.toInt (show G_12.1 7 4 = (G.1 7 4) from ((hq_13.i9 7 4 rfl rfl).trans (hq_3.i9 7 4 rfl rfl))))
      have g_43 : (G_12.1 7 6).toInt = (G.1 7 6).toInt := (congrArg Int32.toInt (show G_12.1 7 6 = (G.1 7 6) from ((hq_13.i9 7 6 rfl rfl).trans ((hq_3.i9 7 6 rfl rfl).trans (rfl)))))
      have b_44 : 0 ≤ (G.1 7 7).toInt ∧ (G.1 7 7).toInt ≤ 400 := bd_7_7 hB_G
      have g_45 : (G_12.1 7 7).toInt = (G.1 7 7).toInt := (congrArg Int32.toInt (show G_12.1 7 7 = (G.1 7 7) from ((hq_13.i9 7 7 rfl rfl).trans (hq_3.i9 7 7 rfl rfl))))
      refine S_callv (va_runV (As := [.ref (a 7)]) (rest := []) ⟨hx, hb, hml, hown, hts⟩ (k_oNext l D k A a z G_12  ((by first | exact ⟨((by first | (clear ha_p0 hn_10 hn_20 f_19 c_21; omega) | omega)), ⟨((by first | (clear ha_p0 hn_10 f_9 hn_20 f_19 c_21; omega) | omega)), ((by first | (clear ha_p0 hn_10 hn_20 f_19 c_21; omega) | omega))⟩⟩ | omega))) (cwV 1 hts (gd_V hgd m1023 m1025 m34 m126 m1026) rfl rfl rfl hd_X5_setNextFeet ⟨Nat.le_of_ble_eq_true rfl, Nat.le_of_ble_eq_true rfl⟩) (pre_W hW hB_G_12 hK hZ hS kd_29 rfl) rfl rfl hl.1 rfl (lv_room (Nat.le_of_ble_eq_true rfl)) dX5_countWays_60 ⟨Nat.le_of_ble_eq_true rfl, Nat.le_of_ble_eq_true rfl⟩) hS (fun G_47 H locs hpo hW hS => ?_)
      have hX_50 : P_oNext G_12 G_47 := hpo
      obtain ⟨hB_G_47, hq_48, -⟩ := hpo
      have hF := hF.call9 hq_48 rfl rfl
      obtain ⟨y_51, ey_51⟩ : ∃ q, q = x_16 + 1 := ⟨_, rfl⟩
      have ty_51 : y_51.toInt = x_16.toInt + 1 := xI_add rfl rfl ey_51 ((by first | (clear hci b_1 hn_10 f_9 c_11 hn_20 b_39 g_40 b_41 g_42 g_43 b_44 g_45; omega) | omega)) ((by first | (clear hci b_1 hn_10 f_9 c_11 hn_20 b_39 g_40 b_41 g_42 g_43 b_44 g_45; omega) | omega))
      refine lv_iinc (v := y_51) (lv' := [(3, .int y_51), (0, .ref (a 29)), (1, .ref (a 7)), (2, .int p0)]) hx hb dX5_countWays_63 hl (k := 0) rfl (by rw [ey_51]; rfl) (lt_b rfl) rfl (fun ls hl => ?_)
      refine lv_goto (tgt := 53) hx hb dX5_countWays_66 rfl ?_
      exact ih_14 (60 - y_51.toInt : Int).toNat ((by first | (clear hci b_1 hn_10 f_9 c_11 b_39 g_40 b_41 g_42 g_43 b_44 g_45; omega) | omega)) _ _ _ ⟨G_47, y_51, (Int.toNat_of_nonneg ((by first | (clear hci b_1 hn_10 f_9 c_11 hn_20 b_39 g_40 b_41 g_42 g_43 b_44 g_45; omega) | omega))), ⟨(by first | (clear hci b_1 hn_10 f_9 c_11 hn_20 b_39 g_40 b_41 g_42 g_43 b_44 g_45; omega) | omega), (by first | (clear hci b_1 hn_10 f_9 c_11 hn_20 b_39 g_40 b_41 g_42 g_43 b_44 g_45; omega) | omega)⟩, (hX_17.st (St_k_oCount_2_mk ⟨x_16, G_12, y_51, G_47, rfl, rfl, f_19, hB_G_12, ⟨c_21, ⟨G_47, hX_50, ⟨y_51, ty_51, ⟨rfl, rfl⟩⟩⟩⟩⟩)), hW, hB_G_47, hF, (Fr.call9 (rs := [52, 53, 54, 55]) (fs := []) (Fr.call9 (rs := [52, 53, 54, 55]) (fs := []) Fr.rf hq_13 rfl rfl) hq_48 rfl rfl), hS, lv_sub hl [0, 1, 2, 3] rfl⟩
  · have c_11 : x_6.toInt ≤ (G.1 7 6).toInt := xI_nlt rfl rfl c_11
    refine lv_aload_n hx hb dX5_countWays_10 rfl (lv_at hl 1 rfl) ?_
    refine S_getR (n := 52) (C := RX5) (T := TX5) (N := 7) hx hb hg iX5 hown hK hW kd_29 rfl 0 (lt_b rfl) (hg (Cond.fieldLink RX5 11 "SlabWalk$Odds" "stepped" "[J") m464) (fun _ h9 => h9) rfl dX5_countWays_11 ?_
    refine lv_iload_n hx hb dX5_countWays_14 rfl (lv_at hl 0 rfl) ?_
    refine lv_aload_n hx hb dX5_countWays_15 rfl (lv_at hl 2 rfl) ?_
    refine S_getR (n := 40) (C := RX0) (T := TX0) (N := 8) hx hb hg iX0 hown hK hW kd_7 rfl 0 (lt_b rfl) (hg (Cond.fieldLink RX5 36 "SlabWalk$Course" "lawful" "[Z") m372) (fun _ h9 => h9) rfl dX5_countWays_16 ?_
    refine lv_iload_n hx hb dX5_countWays_19 rfl (lv_at hl 0 rfl) ?_
    refine S_zald hx hb hK hW kd_40 (vin (by omega) (by omega)) dX5_countWays_20 (fun y_52 ey_52 => ?_)
    have ty_52 : 0 ≤ y_52.toInt ∧ y_52.toInt ≤ 1 := bv_40 hB_G_2 ey_52
    refine lv_if_eq (tgt := 36) hx hb dX5_countWays_21 rfl (fun c_53 => ?_) (fun c_53 => ?_)
    · have c_53 : y_52.toInt = 0 := xI_eq rfl rfl c_53
      refine lv_lconst (v := 0) hx hb dX5_countWays_36 (by decide) ?_
      refine S_last hx hb hK hW hS kd_52 (vin ((by first | (clear ha_p0 hn_10 ty_52 c_53; omega) | omega)) ((by first | (clear ha_p0 hn_10 ty_52 c_53; omega) | omega))) dX5_countWays_37 (fun G_54 H locs eG_54 hW hS => ?_)
      have hB_G_54 : Bd G_54 := hB_G_2.putl eG_54
      have hF := hF.putl eG_54 (Or.inl (by decide))
      refine lv_aload_n hx hb dX5_countWays_38 rfl (lv_at hl 1 rfl) ?_
      refine S_getR (n := 53) (C := RX5) (T := TX5) (N := 7) hx hb hg iX5 hown hK hW kd_29 rfl 1 (lt_b rfl) (hg (Cond.fieldLink RX5 15 "SlabWalk$Odds" "leapt" "[J") m465) (fun _ h9 => h9) rfl dX5_countWays_39 ?_
      refine lv_iload_n hx hb dX5_countWays_42 rfl (lv_at hl 0 rfl) ?_
      refine lv_lconst (v := 0) hx hb dX5_countWays_43 (by decide) ?_
      refine S_last hx hb hK hW hS kd_53 (vin ((by first | (clear ha_p0 hn_10 ty_52 c_53; omega) | omega)) ((by first | (clear ha_p0 hn_10 ty_52 c_53; omega) | omega))) dX5_countWays_44 (fun G_55 H locs eG_55 hW hS => ?_)
      have hB_G_55 : Bd G_55 := hB_G_54.putl eG_55
      have hF := hF.putl eG_55 (Or.inl (by decide))
      obtain ⟨y_56, ey_56⟩ : ∃ q, q = x_6 + 1 := ⟨_, rfl⟩
      have ty_56 : y_56.toInt = x_6.toInt + 1 := xI_add rfl rfl ey_56 ((by first | (clear ha_p0 hn_10 ty_52 c_53; omega) | omega)) ((by first | (clear ha_p0 hn_10 ty_52 c_53; omega) | omega))
      refine lv_iinc (v := y_56) (lv' := [(3, .int y_56), (0, .ref (a 29)), (1, .ref (a 7)), (2, .int p0)]) hx hb dX5_countWays_45 hl (k := 0) rfl (by rw [ey_56]; rfl) (lt_b rfl) rfl (fun ls hl => ?_)
      refine lv_goto (tgt := 2) hx hb dX5_countWays_48 rfl ?_
      exact ih_4 (400 - y_56.toInt : Int).toNat ((by first | (clear ha_p0 ty_52 c_53; omega) | omega)) _ _ _ ⟨G_55, y_56, (Int.toNat_of_nonneg ((by first | (clear ha_p0 hn_10 ty_52 c_53; omega) | omega))), ⟨(by first | (clear ha_p0 hn_10 ty_52 c_53; omega) | omega), (by first | (clear ha_p0 hn_10 ty_52 c_53; omega) | omega)⟩, (hX_7.st (St_k_oCount_1_mk ⟨x_6, G_2, y_56, G_55, rfl, rfl, f_9, hB_G_2, ⟨c_11, ⟨y_52, ey_52, (Or.inl ⟨c_53, ⟨y_56, ty_56, ⟨rfl, (Fr.putl (rs := [52, 53]) (fs := []) (Fr.putl (rs := [52, 53]) (fs := []) Fr.rf eG_54 (Or.inl (by decide))) eG_55 (Or.inl (by decide))), (rl_ne eG_55 (by decide)).trans (rl_ast eG_54), (rl_ast eG_55).trans (congrArg (fun q => vp_updL q (x_6.toNatClampNeg) 0) (rl_ne eG_54 (by decide)))⟩⟩⟩)⟩⟩⟩)), hW, hB_G_55, hF, (Fr.putl (rs := [52, 53]) (fs := []) (Fr.putl (rs := [52, 53]) (fs := []) (Fr.call9 (rs := [52, 53]) (fs := []) Fr.rf hq_3 rfl rfl) eG_54 (Or.inl (by decide))) eG_55 (Or.inl (by decide))), hS, lv_sub hl [0, 1, 2, 3] rfl⟩
    · have c_53 : y_52.toInt ≠ 0 := xI_ne rfl rfl c_53
      refine lv_iload_n hx hb dX5_countWays_24 rfl (lv_at hl 0 rfl) ?_
      refine lv_aload_n hx hb dX5_countWays_25 rfl (lv_at hl 2 rfl) ?_
      have b_57 : 0 ≤ (G.1 7 4).toInt ∧ (G.1 7 4).toInt ≤ 60 := bd_7_4 hB_G
      refine S_getI (v := (G.1 7 4)) (C := RX0) (T := TX0) (N := 8) hx hb hg iX0 hown hK hW kd_7 rfl 4 (lt_b rfl) (hg (Cond.fieldLink RX5 40 "SlabWalk$Course" "most" "I") m381) (fun _ h9 => h9) rfl (hq_3.i9 7 4 rfl rfl) dX5_countWays_26 ?_
      refine lv_icmp_ge (tgt := 36) hx hb dX5_countWays_29 rfl (fun c_58 => ?_) (fun c_58 => ?_)
      · have c_58 : (G.1 7 4).toInt ≤ x_6.toInt := xI_le rfl rfl c_58
        refine lv_lconst (v := 0) hx hb dX5_countWays_36 (by decide) ?_
        refine S_last hx hb hK hW hS kd_52 (vin ((by first | (clear ha_p0 hn_10 ty_52 c_53; omega) | omega)) ((by first | (clear ha_p0 hn_10 ty_52 c_53; omega) | omega))) dX5_countWays_37 (fun G_59 H locs eG_59 hW hS => ?_)
        have hB_G_59 : Bd G_59 := hB_G_2.putl eG_59
        have hF := hF.putl eG_59 (Or.inl (by decide))
        refine lv_aload_n hx hb dX5_countWays_38 rfl (lv_at hl 1 rfl) ?_
        refine S_getR (n := 53) (C := RX5) (T := TX5) (N := 7) hx hb hg iX5 hown hK hW kd_29 rfl 1 (lt_b rfl) (hg (Cond.fieldLink RX5 15 "SlabWalk$Odds" "leapt" "[J") m465) (fun _ h9 => h9) rfl dX5_countWays_39 ?_
        refine lv_iload_n hx hb dX5_countWays_42 rfl (lv_at hl 0 rfl) ?_
        refine lv_lconst (v := 0) hx hb dX5_countWays_43 (by decide) ?_
        refine S_last hx hb hK hW hS kd_53 (vin ((by first | (clear ha_p0 hn_10 ty_52 c_53; omega) | omega)) ((by first | (clear ha_p0 hn_10 ty_52 c_53; omega) | omega))) dX5_countWays_44 (fun G_60 H locs eG_60 hW hS => ?_)
        have hB_G_60 : Bd G_60 := hB_G_59.putl eG_60
        have hF := hF.putl eG_60 (Or.inl (by decide))
        obtain ⟨y_61, ey_61⟩ : ∃ q, q = x_6 + 1 := ⟨_, rfl⟩
        have ty_61 : y_61.toInt = x_6.toInt + 1 := xI_add rfl rfl ey_61 ((by first | (clear ha_p0 hn_10 ty_52 c_53; omega) | omega)) ((by first | (clear ha_p0 hn_10 ty_52 c_53; omega) | omega))
        refine lv_iinc (v := y_61) (lv' := [(3, .int y_61), (0, .ref (a 29)), (1, .ref (a 7)), (2, .int p0)]) hx hb dX5_countWays_45 hl (k := 0) rfl (by rw [ey_61]; rfl) (lt_b rfl) rfl (fun ls hl => ?_)
        refine lv_goto (tgt := 2) hx hb dX5_countWays_48 rfl ?_
        exact ih_4 (400 - y_61.toInt : Int).toNat ((by first | (clear ha_p0 ty_52 c_53; omega) | omega)) _ _ _ ⟨G_60, y_61, (Int.toNat_of_nonneg ((by first | (clear ha_p0 hn_10 ty_52 c_53; omega) | omega))), ⟨(by first | (clear ha_p0 hn_10 ty_52 c_53; omega) | omega), (by first | (clear ha_p0 hn_10 ty_52 c_53; omega) | omega)⟩, (hX_7.st (St_k_oCount_1_mk ⟨x_6, G_2, y_61, G_60, rfl, rfl, f_9, hB_G_2, ⟨c_11, ⟨y_52, ey_52, (Or.inr ⟨c_53, (Or.inl ⟨c_58, ⟨y_61, ty_61, ⟨rfl, (Fr.putl (rs := [52, 53]) (fs := []) (Fr.putl (rs := [52, 53]) (fs := []) Fr.rf eG_59 (Or.inl (by decide))) eG_60 (Or.inl (by decide))), (rl_ne eG_60 (by decide)).trans (rl_ast eG_59), (rl_ast eG_60).trans (congrArg (fun q => vp_updL q (x_6.toNatClampNeg) 0) (rl_ne eG_59 (by decide)))⟩⟩⟩)⟩)⟩⟩⟩)), hW, hB_G_60, hF, (Fr.putl (rs := [52, 53]) (fs := []) (Fr.putl (rs := [52, 53]) (fs := []) (Fr.call9 (rs := [52, 53]) (fs := []) Fr.rf hq_3 rfl rfl) eG_59 (Or.inl (by decide))) eG_60 (Or.inl (by decide))), hS, lv_sub hl [0, 1, 2, 3] rfl⟩
      · have c_58 : x_6.toInt < (G.1 7 4).toInt := xI_nle rfl rfl c_58
        refine lv_lconst (v := 1) hx hb dX5_countWays_32 (by decide) ?_
        refine lv_goto (tgt := 37) hx hb dX5_countWays_33 rfl ?_
        refine S_last hx hb hK hW hS kd_52 (vin ((by first | (clear ha_p0 hn_10 ty_52 c_53; omega) | omega)) ((by first | (clear ha_p0 hn_10 ty_52 c_53; omega) | omega))) dX5_countWays_37 (fun G_62 H locs eG_62 hW hS => ?_)
        have hB_G_62 : Bd G_62 := hB_G_2.putl eG_62
        have hF := hF.putl eG_62 (Or.inl (by decide))
        refine lv_aload_n hx hb dX5_countWays_38 rfl (lv_at hl 1 rfl) ?_
        refine S_getR (n := 53) (C := RX5) (T := TX5) (N := 7) hx hb hg iX5 hown hK hW kd_29 rfl 1 (lt_b rfl) (hg (Cond.fieldLink RX5 15 "SlabWalk$Odds" "leapt" "[J") m465) (fun _ h9 => h9) rfl dX5_countWays_39 ?_
        refine lv_iload_n hx hb dX5_countWays_42 rfl (lv_at hl 0 rfl) ?_
        refine lv_lconst (v := 0) hx hb dX5_countWays_43 (by decide) ?_
        refine S_last hx hb hK hW hS kd_53 (vin ((by first | (clear ha_p0 hn_10 ty_52 c_53; omega) | omega)) ((by first | (clear ha_p0 hn_10 ty_52 c_53; omega) | omega))) dX5_countWays_44 (fun G_63 H locs eG_63 hW hS => ?_)
        have hB_G_63 : Bd G_63 := hB_G_62.putl eG_63
        have hF := hF.putl eG_63 (Or.inl (by decide))
        obtain ⟨y_64, ey_64⟩ : ∃ q, q = x_6 + 1 := ⟨_, rfl⟩
        have ty_64 : y_64.toInt = x_6.toInt + 1 := xI_add rfl rfl ey_64 ((by first | (clear ha_p0 hn_10 ty_52 c_53; omega) | omega)) ((by first | (clear ha_p0 hn_10 ty_52 c_53; omega) | omega))
        refine lv_iinc (v := y_64) (lv' := [(3, .int y_64), (0, .ref (a 29)), (1, .ref (a 7)), (2, .int p0)]) hx hb dX5_countWays_45 hl (k := 0) rfl (by rw [ey_64]; rfl) (lt_b rfl) rfl (fun ls hl => ?_)
        refine lv_goto (tgt := 2) hx hb dX5_countWays_48 rfl ?_
        exact ih_4 (400 - y_64.toInt : Int).toNat ((by first | (clear ha_p0 ty_52 c_53; omega) | omega)) _ _ _ ⟨G_63, y_64, (Int.toNat_of_nonneg ((by first | (clear ha_p0 hn_10 ty_52 c_53; omega) | omega))), ⟨(by first | (clear ha_p0 hn_10 ty_52 c_53; omega) | omega), (by first | (clear ha_p0 hn_10 ty_52 c_53; omega) | omega)⟩, (hX_7.st (St_k_oCount_1_mk ⟨x_6, G_2, y_64, G_63, rfl, rfl, f_9, hB_G_2, ⟨c_11, ⟨y_52, ey_52, (Or.inr ⟨c_53, (Or.inr ⟨c_58, ⟨y_64, ty_64, ⟨rfl, (Fr.putl (rs := [52, 53]) (fs := []) (Fr.putl (rs := [52, 53]) (fs := []) Fr.rf eG_62 (Or.inl (by decide))) eG_63 (Or.inl (by decide))), (rl_ne eG_63 (by decide)).trans (rl_ast eG_62), (rl_ast eG_63).trans (congrArg (fun q => vp_updL q (x_6.toNatClampNeg) 0) (rl_ne eG_62 (by decide)))⟩⟩⟩)⟩)⟩⟩⟩)), hW, hB_G_63, hF, (Fr.putl (rs := [52, 53]) (fs := []) (Fr.putl (rs := [52, 53]) (fs := []) (Fr.call9 (rs := [52, 53]) (fs := []) Fr.rf hq_3 rfl rfl) eG_62 (Or.inl (by decide))) eG_63 (Or.inl (by decide))), hS, lv_sub hl [0, 1, 2, 3] rfl⟩

set_option maxHeartbeats 4000000 in
set_option maxRecDepth 100000 in
theorem k_oAim (l : Launch) (D : va_G) (k : KT) (A : Nat → Prop) (a : Nat → Nat) (z : SK) (G : GS) (p0 : Int32) (p1 : Int32) (ha_p0 : 0 ≤ p0.toInt ∧ p0.toInt ≤ 400) (ha_p1 : 0 ≤ p1.toInt ∧ p1.toInt ≤ 60) (hci : (G.1 7 6).toInt ≤ 399 ∧ (G.1 7 3).toInt ≤ (G.1 7 4).toInt ∧ ((G.1 7 7).toInt ≤ 0 ∨ (G.1 7 7).toInt + (G.1 7 4).toInt ≤ (G.1 7 6).toInt + 1)) : Met l yX5_aimFrom (WS yX5_aimFrom cX5_aimFrom 4 (some .long)) ({ frames := 1, cells := 0, slots := 0, locals := 14 }) (va_Pc [.ref (a 29), .ref (a 7), .int p0, .int p1] (cW D k A a z G)) (va_Ql (fun (r : Int64) (G1 : GS) => P_oAim p0 p1 G r G1) (fun (G1 : GS) t => Wd D k A a G1 t.heap) A) 0 0 A := by
  refine Met.ofW (cc := cX5_aimFrom) (maxL := 4) (ret := (some .long)) (by decide) rfl ?_
  intro p e s m args below meth c s₁ B hml hv
  obtain ⟨rfl, hW, hB_G, hK, hZ⟩ := hv
  have hx := B.exec
  have hb := B.bytes
  have hr := B.returns
  have hts := atoms_spec (ws := WS yX5_aimFrom cX5_aimFrom 4 (some .long)) B.pre
  have hgd : ∀ w ∈ gd, w ∈ WS yX5_aimFrom cX5_aimFrom 4 (some .long) := fun w h => List.mem_cons_of_mem _ h
  have hg : ∀ w ∈ gd, w.before _ s = true := fun w h => hts w (hgd w h)
  have hown : s.vm.findClass RX5 = some m.cls := findClass_of_methodNamed B.named
  have hS : va_S A s.heap s.heap [] := va_S.rf
  have hF : Fr [] [] G G := Fr.rf
  have hl := lv_entry ([.ref (a 29), .ref (a 7), .int p0, .int p1]) (n := 4) (Nat.le_of_ble_eq_true rfl)
  rw [lg_entry_eq]
  generalize (lg_sl ([.ref (a 29), .ref (a 7), .int p0, .int p1]) ++ List.replicate (4 - (lg_sl ([.ref (a 29), .ref (a 7), .int p0, .int p1])).length) Slot.unset).toArray = ls at hl ⊢
  have hl : lv_has ls 4 [(0, .ref (a 29)), (1, .ref (a 7)), (2, .int p0), (3, .int p1)] := hl
  have b_1 : (-1) ≤ (G.1 7 6).toInt ∧ (G.1 7 6).toInt ≤ 400 := bd_7_6 hB_G
  refine lv_aload_n hx hb dX5_aimFrom_0 rfl (lv_at hl 0 rfl) ?_
  refine S_getR (n := 57) (C := RX5) (T := TX5) (N := 7) hx hb hg iX5 hown hK hW kd_29 rfl 5 (lt_b rfl) (hg (Cond.fieldLink RX5 27 "SlabWalk$Odds" "aims" "[J") m469) (fun _ h9 => h9) rfl dX5_aimFrom_1 ?_
  refine lv_iload_n hx hb dX5_aimFrom_4 rfl (lv_at hl 2 rfl) ?_
  refine lv_iload_n hx hb dX5_aimFrom_5 rfl (lv_at hl 3 rfl) ?_
  refine lv_iadd hx hb dX5_aimFrom_6 ?_
  refine lv_topi (fun y_2 ey_2 => ?_)
  have ty_2 : y_2.toInt = p0.toInt + p1.toInt := xI_add rfl rfl ey_2 (by omega) (by omega)
  refine lv_aload_n hx hb dX5_aimFrom_7 rfl (lv_at hl 1 rfl) ?_
  refine S_getI (v := (G.1 7 6)) (C := RX0) (T := TX0) (N := 8) hx hb hg iX0 hown hK hW kd_7 rfl 6 (lt_b rfl) (hg (Cond.fieldLink RX5 30 "SlabWalk$Course" "last" "I") m389) (fun _ h9 => h9) rfl rfl dX5_aimFrom_8 ?_
  refine ic_2 hx hb dX5_aimFrom_11 ?_
  refine lv_iadd hx hb dX5_aimFrom_12 ?_
  refine lv_topi (fun y_3 ey_3 => ?_)
  have ty_3 : y_3.toInt = (G.1 7 6).toInt + 2 := xI_add rfl rfl ey_3 ((by first | (clear ha_p0 ha_p1 ty_2; omega) | omega)) ((by first | (clear ha_p0 ha_p1 ty_2; omega) | omega))
  refine va_mmin hx hb (by rw [hml]; exact hl.1.symm) hown (hg (Cond.methodLink RX5 72 Lib.Math.min.name) m1031) (hg (Cond.static Lib.Math.min.name) m636) (hg (Cond.initialized "java/lang/Math") m132) (hg (Cond.code Lib.Math.min.name Lib.Math.min.code 2 (some .int)) m637) (Nat.le_of_ble_eq_true rfl) (Nat.le_of_ble_eq_true rfl) (Nat.le_of_ble_eq_true rfl) (Nat.le_of_ble_eq_true rfl) dX5_aimFrom_13 ?_
  refine lv_topi (fun y_4 ey_4 => ?_)
  have ty_4 := xI_min (X := y_2.toInt) (Y := y_3.toInt) rfl rfl ey_4
  refine S_lald hx hb hK hW kd_57 (vin ((by first | (clear ha_p0 ha_p1 hci b_1 ty_2 ty_3; omega) | omega)) ((by first | (clear ha_p0 ha_p1 hci b_1 ty_2 ty_3; omega) | omega))) dX5_aimFrom_16 (fun y_5 ey_5 => ?_)
  exact W.lret (v := y_5) hx hb hr (fun t ht _ => ⟨⟨y_5, G, rfl, (P_oAim_mk ⟨hB_G, hF, ⟨y_2, ty_2, ⟨y_3, ty_3, ⟨y_4, ty_4, ⟨y_5, ey_5, ⟨rfl, rfl⟩⟩⟩⟩⟩⟩), wd_t ht hW⟩, hS.F ht⟩) hS.2.2 dX5_aimFrom_17

set_option maxHeartbeats 4000000 in
set_option maxRecDepth 100000 in
theorem k_oBest (l : Launch) (D : va_G) (k : KT) (A : Nat → Prop) (a : Nat → Nat) (z : SK) (G : GS) (p0 : Int32) (ha_p0 : 0 ≤ p0.toInt ∧ p0.toInt ≤ 400) (hci : (G.1 7 6).toInt ≤ 399 ∧ (G.1 7 3).toInt ≤ (G.1 7 4).toInt ∧ ((G.1 7 7).toInt ≤ 0 ∨ (G.1 7 7).toInt + (G.1 7 4).toInt ≤ (G.1 7 6).toInt + 1)) : Met l yX5_bestStep (WS yX5_bestStep cX5_bestStep 7 (some .int)) ({ frames := 2, cells := 0, slots := 0, locals := 37 }) (va_Pc [.ref (a 29), .ref (a 7), .int p0] (cW D k A a z G)) (va_Qi (fun (r : Int32) (G1 : GS) => P_oBest p0 G r G1) (fun (G1 : GS) t => Wd D k A a G1 t.heap) A) 0 0 A := by
  refine Met.ofW (cc := cX5_bestStep) (maxL := 7) (ret := (some .int)) (by decide) rfl ?_
  intro p e s m args below meth c s₁ B hml hv
  obtain ⟨rfl, hW, hB_G, hK, hZ⟩ := hv
  have hx := B.exec
  have hb := B.bytes
  have hr := B.returns
  have hts := atoms_spec (ws := WS yX5_bestStep cX5_bestStep 7 (some .int)) B.pre
  have hgd : ∀ w ∈ gd, w ∈ WS yX5_bestStep cX5_bestStep 7 (some .int) := fun w h => List.mem_cons_of_mem _ h
  have hg : ∀ w ∈ gd, w.before _ s = true := fun w h => hts w (hgd w h)
  have hown : s.vm.findClass RX5 = some m.cls := findClass_of_methodNamed B.named
  have hS : va_S A s.heap s.heap [] := va_S.rf
  have hF : Fr [] [] G G := Fr.rf
  have hl := lv_entry ([.ref (a 29), .ref (a 7), .int p0]) (n := 7) (Nat.le_of_ble_eq_true rfl)
  rw [lg_entry_eq]
  generalize (lg_sl ([.ref (a 29), .ref (a 7), .int p0]) ++ List.replicate (7 - (lg_sl ([.ref (a 29), .ref (a 7), .int p0])).length) Slot.unset).toArray = ls at hl ⊢
  have hl : lv_has ls 7 [(0, .ref (a 29)), (1, .ref (a 7)), (2, .int p0)] := hl
  have b_1 : (-1) ≤ (G.1 7 6).toInt ∧ (G.1 7 6).toInt ≤ 400 := bd_7_6 hB_G
  refine lv_aload_n hx hb dX5_bestStep_0 rfl (lv_at hl 1 rfl) ?_
  have b_2 : 0 ≤ (G.1 7 3).toInt ∧ (G.1 7 3).toInt ≤ 60 := bd_7_3 hB_G
  refine S_getI (v := (G.1 7 3)) (C := RX0) (T := TX0) (N := 8) hx hb hg iX0 hown hK hW kd_7 rfl 3 (lt_b rfl) (hg (Cond.fieldLink RX5 58 "SlabWalk$Course" "least" "I") m379) (fun _ h9 => h9) rfl rfl dX5_bestStep_1 ?_
  refine lv_istore_n (lv' := [(3, .int (G.1 7 3)), (0, .ref (a 29)), (1, .ref (a 7)), (2, .int p0)]) hx hb dX5_bestStep_4 rfl hl (lt_b rfl) rfl (fun ls hl => ?_)
  refine lv_aload_n hx hb dX5_bestStep_5 rfl (lv_at hl 1 rfl) ?_
  refine lv_aload_n hx hb dX5_bestStep_6 rfl (lv_at hl 2 rfl) ?_
  refine lv_iload_n hx hb dX5_bestStep_7 rfl (lv_at hl 3 rfl) ?_
  refine lv_iload_n hx hb dX5_bestStep_8 rfl (lv_at hl 0 rfl) ?_
  have b_3 : 0 ≤ (G.1 7 4).toInt ∧ (G.1 7 4).toInt ≤ 60 := bd_7_4 hB_G
  have b_4 : 0 ≤ (G.1 7 7).toInt ∧ (G.1 7 7).toInt ≤ 400 := bd_7_7 hB_G
  refine S_calll (va_runV (As := [.ref (a 7), .int p0, .int (G.1 7 3)]) (rest := []) ⟨hx, hb, hml, hown, hts⟩ (k_oAim l D k A a z G p0 (G.1 7 3) ⟨(by first | (clear hci b_1 b_2 b_3 b_4; omega) | omega), (by first | (clear hci b_1 b_2 b_3 b_4; omega) | omega)⟩ ⟨by omega, by omega⟩ ((by first | exact ⟨(by omega), ⟨(by omega), (by omega)⟩⟩ | omega))) (cwV 3 hts (gd_V hgd m1130 m1132 m40 m126 m1133) rfl rfl rfl hd_X5_aimFrom ⟨Nat.le_of_ble_eq_true rfl, Nat.le_of_ble_eq_true rfl⟩) (pre_W hW hB_G hK hZ hS kd_29 rfl) rfl rfl hl.1 rfl (lv_room (Nat.le_of_ble_eq_true rfl)) dX5_bestStep_9 ⟨Nat.le_of_ble_eq_true rfl, Nat.le_of_ble_eq_true rfl⟩) hS (fun r_5 G_6 H locs hpo hW hS => ?_)
  have hX_9 : P_oAim p0 (G.1 7 3) G r_5 G_6 := hpo
  obtain ⟨hB_G_6, hq_7, -⟩ := hpo
  have hF := hF.call9 hq_7 rfl rfl
  refine lv_lstore (lv' := [(4, .long r_5), (3, .int (G.1 7 3)), (0, .ref (a 29)), (1, .ref (a 7)), (2, .int p0)]) hx hb dX5_bestStep_12 hl (lt_b rfl) rfl (fun ls hl => ?_)
  refine lv_iload_n hx hb dX5_bestStep_14 rfl (lv_at hl 1 rfl) ?_
  refine ic_1 hx hb dX5_bestStep_15 ?_
  refine lv_iadd hx hb dX5_bestStep_16 ?_
  refine lv_topi (fun y_10 ey_10 => ?_)
  have ty_10 : y_10.toInt = (G.1 7 3).toInt + 1 := xI_add rfl rfl ey_10 (by omega) (by omega)
  refine lv_istore (lv' := [(6, .int y_10), (4, .long r_5), (3, .int (G.1 7 3)), (0, .ref (a 29)), (1, .ref (a 7)), (2, .int p0)]) hx hb dX5_bestStep_17 hl (lt_b rfl) rfl (fun ls hl => ?_)
  refine loop_N (Inv := fun n H locs ls => ∃ (G_11 : GS) (x_15 : Int32) (x_16 : Int64) (x_17 : Int32), (n : Int) = 61 - x_15.toInt ∧ (1 ≤ x_15.toInt ∧ x_15.toInt ≤ 61) ∧ (0 ≤ x_17.toInt ∧ x_17.toInt ≤ 60) ∧ Rc (St_k_oBest_1 p0 G) (y_10, r_5, (G.1 7 3), G_6) (x_15, x_16, x_17, G_11) ∧ Wd D k A a G_11 H ∧ Bd G_11 ∧ Fr [] [] G G_11 ∧ Fr [] [] G_6 G_11 ∧ va_S A s.heap H locs ∧ lv_has ls 7 [(6, .int x_15), (4, .long x_16), (3, .int x_17), (0, .ref (a 29)), (1, .ref (a 7)), (2, .int p0)]) (fun n_14 H locs ls ih_13 hI => ?_) (61 - y_10.toInt : Int).toNat ⟨G_6, y_10, r_5, (G.1 7 3), (Int.toNat_of_nonneg (by omega)), ⟨by omega, by omega⟩, ⟨by omega, by omega⟩, Rc.rf, hW, hB_G_6, hF, Fr.rf, hS, lv_sub hl [0, 1, 2, 3, 4, 5] rfl⟩
  obtain ⟨G_11, x_15, x_16, x_17, hn_21, f_19, f_20, hX_18, hW, hB_G_11, hF, hq_12, hS, hl⟩ := hI
  refine lv_iload hx hb dX5_bestStep_19 (lv_at hl 0 rfl) ?_
  refine lv_aload_n hx hb dX5_bestStep_21 rfl (lv_at hl 4 rfl) ?_
  refine S_getI (v := (G.1 7 4)) (C := RX0) (T := TX0) (N := 8) hx hb hg iX0 hown hK hW kd_7 rfl 4 (lt_b rfl) (hg (Cond.fieldLink RX5 40 "SlabWalk$Course" "most" "I") m381) (fun _ h9 => h9) rfl ((hq_12.i9 7 4 rfl rfl).trans ((hq_7.i9 7 4 rfl rfl).trans (rfl))) dX5_bestStep_22 ?_
  refine lv_icmp_gt (tgt := 76) hx hb dX5_bestStep_25 rfl (fun c_22 => ?_) (fun c_22 => ?_)
  · have c_22 : (G.1 7 4).toInt < x_15.toInt := xI_lt rfl rfl c_22
    refine lv_iload_n hx hb dX5_bestStep_76 rfl (lv_at hl 2 rfl) ?_
    exact W.iret (v := x_17) hx hb hr (fun t ht _ => ⟨⟨x_17, G_11, rfl, (P_oBest_mk ⟨hB_G_11, hF, ⟨(by first | (clear ha_p0 hci b_1 b_2 b_3 b_4 ty_10 hn_21 f_19 c_22; omega) | omega), (by first | (clear ha_p0 hci b_1 b_2 b_3 b_4 ty_10 hn_21 f_19 c_22; omega) | omega)⟩, ⟨r_5, G_6, hX_9, ⟨y_10, ty_10, ⟨x_15, x_16, x_17, G_11, hX_18, f_19, f_20, hB_G_11, hq_12, (Or.inl ⟨c_22, ⟨rfl, rfl⟩⟩)⟩⟩⟩⟩), wd_t ht hW⟩, hS.F ht⟩) hS.2.2 dX5_bestStep_77
  · have c_22 : x_15.toInt ≤ (G.1 7 4).toInt := xI_nlt rfl rfl c_22
    refine lv_iload_n hx hb dX5_bestStep_28 rfl (lv_at hl 5 rfl) ?_
    refine lv_iload hx hb dX5_bestStep_29 (lv_at hl 0 rfl) ?_
    refine lv_iadd hx hb dX5_bestStep_31 ?_
    refine lv_topi (fun y_23 ey_23 => ?_)
    have ty_23 : y_23.toInt = p0.toInt + x_15.toInt := xI_add rfl rfl ey_23 ((by first | (clear b_1 b_2 b_4 hn_21 f_20; omega) | omega)) ((by first | (clear b_1 b_2 b_4 hn_21 f_20; omega) | omega))
    refine lv_aload_n hx hb dX5_bestStep_32 rfl (lv_at hl 4 rfl) ?_
    refine S_getI (v := (G.1 7 6)) (C := RX0) (T := TX0) (N := 8) hx hb hg iX0 hown hK hW kd_7 rfl 6 (lt_b rfl) (hg (Cond.fieldLink RX5 30 "SlabWalk$Course" "last" "I") m389) (fun _ h9 => h9) rfl ((hq_12.i9 7 6 rfl rfl).trans ((hq_7.i9 7 6 rfl rfl).trans (rfl))) dX5_bestStep_33 ?_
    refine ic_2 hx hb dX5_bestStep_36 ?_
    refine lv_iadd hx hb dX5_bestStep_37 ?_
    refine lv_topi (fun y_24 ey_24 => ?_)
    have ty_24 : y_24.toInt = (G.1 7 6).toInt + 2 := xI_add rfl rfl ey_24 ((by first | (clear ha_p0 hn_21 f_19 f_20; omega) | omega)) ((by first | (clear ha_p0 hn_21 f_19 f_20; omega) | omega))
    refine lv_icmp_gt (tgt := 76) hx hb dX5_bestStep_38 rfl (fun c_25 => ?_) (fun c_25 => ?_)
    · have c_25 : y_24.toInt < y_23.toInt := xI_lt rfl rfl c_25
      refine lv_iload_n hx hb dX5_bestStep_76 rfl (lv_at hl 2 rfl) ?_
      exact W.iret (v := x_17) hx hb hr (fun t ht _ => ⟨⟨x_17, G_11, rfl, (P_oBest_mk ⟨hB_G_11, hF, ⟨(by first | (clear ha_p0 hci b_1 b_2 b_3 b_4 ty_10 hn_21 f_19 c_22 ty_23 ty_24 c_25; omega) | omega), (by first | (clear ha_p0 hci b_1 b_2 b_3 b_4 ty_10 hn_21 f_19 c_22 ty_23 ty_24 c_25; omega) | omega)⟩, ⟨r_5, G_6, hX_9, ⟨y_10, ty_10, ⟨x_15, x_16, x_17, G_11, hX_18, f_19, f_20, hB_G_11, hq_12, (Or.inr ⟨c_22, ⟨y_23, ty_23, ⟨y_24, ty_24, ⟨c_25, ⟨rfl, rfl⟩⟩⟩⟩⟩)⟩⟩⟩⟩), wd_t ht hW⟩, hS.F ht⟩) hS.2.2 dX5_bestStep_77
    · have c_25 : y_23.toInt ≤ y_24.toInt := xI_nlt rfl rfl c_25
      refine lv_aload_n hx hb dX5_bestStep_41 rfl (lv_at hl 3 rfl) ?_
      refine S_getR (n := 57) (C := RX5) (T := TX5) (N := 7) hx hb hg iX5 hown hK hW kd_29 rfl 5 (lt_b rfl) (hg (Cond.fieldLink RX5 27 "SlabWalk$Odds" "aims" "[J") m469) (fun _ h9 => h9) rfl dX5_bestStep_42 ?_
      refine lv_iload_n hx hb dX5_bestStep_45 rfl (lv_at hl 5 rfl) ?_
      refine lv_iload hx hb dX5_bestStep_46 (lv_at hl 0 rfl) ?_
      refine lv_iadd hx hb dX5_bestStep_48 ?_
      refine lv_topi (fun y_26 ey_26 => ?_)
      have ty_26 : y_26.toInt = p0.toInt + x_15.toInt := xI_add rfl rfl ey_26 ((by first | (clear b_2 b_4 hn_21 f_20; omega) | omega)) ((by first | (clear b_2 b_4 hn_21 f_20; omega) | omega))
      refine S_lald hx hb hK hW kd_57 (vin ((by first | (clear b_2 b_4 hn_21 f_20; omega) | omega)) ((by first | (clear b_2 b_4 hn_21 f_20; omega) | omega))) dX5_bestStep_49 (fun y_27 ey_27 => ?_)
      refine lv_lload hx hb dX5_bestStep_50 (lv_at hl 1 rfl) ?_
      refine W.lcmp hx hb dX5_bestStep_52 ?_
      refine lv_topi (fun y_28 ey_28 => ?_)
      have ty_28 := lcmp_rng ey_28
      refine lv_if_le (tgt := 70) hx hb dX5_bestStep_53 rfl (fun c_29 => ?_) (fun c_29 => ?_)
      · have c_29 : y_28.toInt ≤ 0 := xI_le rfl rfl c_29
        obtain ⟨y_30, ey_30⟩ : ∃ q, q = x_15 + 1 := ⟨_, rfl⟩
        have ty_30 : y_30.toInt = x_15.toInt + 1 := xI_add rfl rfl ey_30 ((by first | (clear b_2 b_4 hn_21 f_20 c_29; omega) | omega)) ((by first | (clear b_2 b_4 hn_21 f_20 c_29; omega) | omega))
        refine lv_iinc (v := y_30) (lv' := [(6, .int y_30), (4, .long x_16), (3, .int x_17), (0, .ref (a 29)), (1, .ref (a 7)), (2, .int p0)]) hx hb dX5_bestStep_70 hl (k := 0) rfl (by rw [ey_30]; rfl) (lt_b rfl) rfl (fun ls hl => ?_)
        refine lv_goto (tgt := 19) hx hb dX5_bestStep_73 rfl ?_
        exact ih_13 (61 - y_30.toInt : Int).toNat ((by first | (clear b_2 b_4 f_20 c_29; omega) | omega)) _ _ _ ⟨G_11, y_30, x_16, x_17, (Int.toNat_of_nonneg ((by first | (clear b_2 b_4 hn_21 f_20 c_29; omega) | omega))), ⟨(by first | (clear b_2 b_4 hn_21 f_20 c_29; omega) | omega), (by first | (clear b_2 b_4 hn_21 f_20 c_29; omega) | omega)⟩, ⟨(by first | (clear ha_p0 hci b_1 b_2 b_3 b_4 ty_10 hn_21 f_19 c_22 ty_23 ty_24 c_25 ty_26 c_29 ty_30; omega) | omega), (by first | (clear ha_p0 hci b_1 b_2 b_3 b_4 ty_10 hn_21 f_19 c_22 ty_23 ty_24 c_25 ty_26 c_29 ty_30; omega) | omega)⟩, (hX_18.st (St_k_oBest_1_mk ⟨x_15, x_16, x_17, G_11, y_30, x_16, x_17, G_11, rfl, rfl, f_19, f_20, hB_G_11, ⟨c_22, ⟨y_23, ty_23, ⟨y_24, ty_24, ⟨c_25, ⟨y_26, ty_26, ⟨y_27, ey_27, ⟨y_28, ey_28, (Or.inl ⟨c_29, ⟨y_30, ty_30, ⟨rfl, rfl, rfl, rfl⟩⟩⟩)⟩⟩⟩⟩⟩⟩⟩⟩)), hW, hB_G_11, hF, (Fr.call9 (rs := []) (fs := []) Fr.rf hq_12 rfl rfl), hS, lv_sub hl [0, 1, 2, 3, 4, 5] rfl⟩
      · have c_29 : 0 < y_28.toInt := xI_nle rfl rfl c_29
        refine lv_iload hx hb dX5_bestStep_56 (lv_at hl 0 rfl) ?_
        refine lv_istore_n (lv' := [(3, .int x_15), (6, .int x_15), (4, .long x_16), (0, .ref (a 29)), (1, .ref (a 7)), (2, .int p0)]) hx hb dX5_bestStep_58 rfl hl (lt_b rfl) rfl (fun ls hl => ?_)
        refine lv_aload_n hx hb dX5_bestStep_59 rfl (lv_at hl 3 rfl) ?_
        refine S_getR (n := 57) (C := RX5) (T := TX5) (N := 7) hx hb hg iX5 hown hK hW kd_29 rfl 5 (lt_b rfl) (hg (Cond.fieldLink RX5 27 "SlabWalk$Odds" "aims" "[J") m469) (fun _ h9 => h9) rfl dX5_bestStep_60 ?_
        refine lv_iload_n hx hb dX5_bestStep_63 rfl (lv_at hl 5 rfl) ?_
        refine lv_iload hx hb dX5_bestStep_64 (lv_at hl 1 rfl) ?_
        refine lv_iadd hx hb dX5_bestStep_66 ?_
        refine lv_topi (fun y_31 ey_31 => ?_)
        have ty_31 : y_31.toInt = p0.toInt + x_15.toInt := xI_add rfl rfl ey_31 ((by first | (clear b_2 b_4 hn_21 f_20 c_29; omega) | omega)) ((by first | (clear b_2 b_4 hn_21 f_20 c_29; omega) | omega))
        refine S_lald hx hb hK hW kd_57 (vin ((by first | (clear b_2 b_4 hn_21 f_20 c_29; omega) | omega)) ((by first | (clear b_2 b_4 hn_21 f_20 c_29; omega) | omega))) dX5_bestStep_67 (fun y_32 ey_32 => ?_)
        refine lv_lstore (lv' := [(4, .long y_32), (3, .int x_15), (6, .int x_15), (0, .ref (a 29)), (1, .ref (a 7)), (2, .int p0)]) hx hb dX5_bestStep_68 hl (lt_b rfl) rfl (fun ls hl => ?_)
        obtain ⟨y_33, ey_33⟩ : ∃ q, q = x_15 + 1 := ⟨_, rfl⟩
        have ty_33 : y_33.toInt = x_15.toInt + 1 := xI_add rfl rfl ey_33 ((by first | (clear b_2 b_4 hn_21 f_20 c_29; omega) | omega)) ((by first | (clear b_2 b_4 hn_21 f_20 c_29; omega) | omega))
        refine lv_iinc (v := y_33) (lv' := [(6, .int y_33), (4, .long y_32), (3, .int x_15), (0, .ref (a 29)), (1, .ref (a 7)), (2, .int p0)]) hx hb dX5_bestStep_70 hl (k := 2) rfl (by rw [ey_33]; rfl) (lt_b rfl) rfl (fun ls hl => ?_)
        refine lv_goto (tgt := 19) hx hb dX5_bestStep_73 rfl ?_
        exact ih_13 (61 - y_33.toInt : Int).toNat ((by first | (clear b_2 b_4 f_20 c_29; omega) | omega)) _ _ _ ⟨G_11, y_33, y_32, x_15, (Int.toNat_of_nonneg ((by first | (clear b_2 b_4 hn_21 f_20 c_29; omega) | omega))), ⟨(by first | (clear b_2 b_4 hn_21 f_20 c_29; omega) | omega), (by first | (clear b_2 b_4 hn_21 f_20 c_29; omega) | omega)⟩, ⟨(by first | (clear b_2 b_4 hn_21 f_20 c_29; omega) | omega), (by first | (clear b_2 b_4 hn_21 f_20 c_29; omega) | omega)⟩, (hX_18.st (St_k_oBest_1_mk ⟨x_15, x_16, x_17, G_11, y_33, y_32, x_15, G_11, rfl, rfl, f_19, f_20, hB_G_11, ⟨c_22, ⟨y_23, ty_23, ⟨y_24, ty_24, ⟨c_25, ⟨y_26, ty_26, ⟨y_27, ey_27, ⟨y_28, ey_28, (Or.inr ⟨c_29, ⟨y_31, ty_31, ⟨y_32, ey_32, ⟨y_33, ty_33, ⟨rfl, rfl, rfl, rfl⟩⟩⟩⟩⟩)⟩⟩⟩⟩⟩⟩⟩⟩)), hW, hB_G_11, hF, (Fr.call9 (rs := []) (fs := []) Fr.rf hq_12 rfl rfl), hS, lv_sub hl [0, 1, 2, 3, 4, 5] rfl⟩

set_option maxHeartbeats 4000000 in
set_option maxRecDepth 100000 in
theorem k_oBoldest (l : Launch) (D : va_G) (k : KT) (A : Nat → Prop) (a : Nat → Nat) (z : SK) (G : GS)   : Met l yX5_boldestStep (WS yX5_boldestStep cX5_boldestStep 1 (some .int)) ({ frames := 0, cells := 0, slots := 0, locals := 0 }) (va_Pc [.ref (a 29)] (cW D k A a z G)) (va_Qi (fun (r : Int32) (G1 : GS) => P_oBoldest G r G1) (fun (G1 : GS) t => Wd D k A a G1 t.heap) A) 0 0 A := by
  refine Met.ofW (cc := cX5_boldestStep) (maxL := 1) (ret := (some .int)) (by decide) rfl ?_
  intro p e s m args below meth c s₁ B hml hv
  obtain ⟨rfl, hW, hB_G, hK, hZ⟩ := hv
  have hx := B.exec
  have hb := B.bytes
  have hr := B.returns
  have hts := atoms_spec (ws := WS yX5_boldestStep cX5_boldestStep 1 (some .int)) B.pre
  have hgd : ∀ w ∈ gd, w ∈ WS yX5_boldestStep cX5_boldestStep 1 (some .int) := fun w h => List.mem_cons_of_mem _ h
  have hg : ∀ w ∈ gd, w.before _ s = true := fun w h => hts w (hgd w h)
  have hown : s.vm.findClass RX5 = some m.cls := findClass_of_methodNamed B.named
  have hS : va_S A s.heap s.heap [] := va_S.rf
  have hF : Fr [] [] G G := Fr.rf
  have hl := lv_entry ([.ref (a 29)]) (n := 1) (Nat.le_of_ble_eq_true rfl)
  rw [lg_entry_eq]
  generalize (lg_sl ([.ref (a 29)]) ++ List.replicate (1 - (lg_sl ([.ref (a 29)])).length) Slot.unset).toArray = ls at hl ⊢
  have hl : lv_has ls 1 [(0, .ref (a 29))] := hl
  refine lv_aload_n hx hb dX5_boldestStep_0 rfl (lv_at hl 0 rfl) ?_
  refine S_getI (v := (G.1 29 6)) (C := RX5) (T := TX5) (N := 7) hx hb hg iX5 hown hK hW kd_29 rfl 6 (lt_b rfl) (hg (Cond.fieldLink RX5 82 "SlabWalk$Odds" "boldest" "I") m470) (fun _ h9 => h9) rfl rfl dX5_boldestStep_1 ?_
  exact W.iret (v := (G.1 29 6)) hx hb hr (fun t ht _ => ⟨⟨(G.1 29 6), G, rfl, (P_oBoldest_mk ⟨hB_G, hF, ⟨rfl, rfl⟩⟩), wd_t ht hW⟩, hS.F ht⟩) hS.2.2 dX5_boldestStep_4
