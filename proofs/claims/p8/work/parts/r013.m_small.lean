theorem m85 : Cond.selects RX12 yX12_areRules yX12_areRules ∈ gd := gds_6 5 rfl
theorem m90 : Cond.selects RX12 yX12_isWalker yX12_isWalker ∈ gd := gds_6 10 rfl
theorem m92 : Cond.selects RX12 yX12_doesStand yX12_doesStand ∈ gd := gds_6 12 rfl
theorem m1369 : Cond.fieldLink RX12 105 "SlabWalkModel" "hand" "I" ∈ gd := gdc_6_3 5 rfl gw_fieldLink
theorem m1370 : Cond.fieldLink RX12 108 "SlabWalkModel" "slack" "I" ∈ gd := gdc_6_3 6 rfl gw_fieldLink
theorem m1372 : Cond.fieldLink RX12 115 "SlabWalkModel" "lawful" "[Z" ∈ gd := gdc_6_3 8 rfl gw_fieldLink
theorem m1373 : Cond.fieldLink RX12 469 "SlabWalkModel" "inchesOf" "I" ∈ gd := gdc_6_3 9 rfl gw_fieldLink
theorem m1374 : Cond.fieldLink RX12 472 "SlabWalkModel" "foot" "I" ∈ gd := gdc_6_3 10 rfl gw_fieldLink
theorem m1375 : Cond.fieldLink RX12 475 "SlabWalkModel" "least" "I" ∈ gd := gdc_6_3 11 rfl gw_fieldLink
theorem m1376 : Cond.fieldLink RX12 478 "SlabWalkModel" "most" "I" ∈ gd := gdc_6_3 12 rfl gw_fieldLink
theorem m1377 : Cond.fieldLink RX12 481 "SlabWalkModel" "leap" "I" ∈ gd := gdc_6_3 13 rfl gw_fieldLink
theorem m1378 : Cond.fieldLink RX12 118 "SlabWalkModel" "need" "[I" ∈ gd := gdc_6_3 14 rfl gw_fieldLink
theorem m1381 : Cond.fieldLink RX12 124 "SlabWalkModel" "ways" "[J" ∈ gd := gdc_6_4 1 rfl gw_fieldLink
theorem m1382 : Cond.fieldLink RX12 127 "SlabWalkModel" "next" "[J" ∈ gd := gdc_6_4 2 rfl gw_fieldLink
theorem m1387 : Cond.fieldLink RX12 142 "SlabWalkModel" "hasWays" "[Z" ∈ gd := gdc_6_4 7 rfl gw_fieldLink
theorem m1388 : Cond.fieldLink RX12 145 "SlabWalkModel" "wins" "[Z" ∈ gd := gdc_6_4 8 rfl gw_fieldLink
theorem m1389 : Cond.fieldLink RX12 148 "SlabWalkModel" "winsBy" "[I" ∈ gd := gdc_6_4 9 rfl gw_fieldLink
theorem m1799 : Cond.methodLink RX12 463 yX12_areRules ∈ gd := gdc_8_0 3 rfl gw_methodLink
theorem m1801 : Cond.instanceMethod yX12_areRules ∈ gd := gdc_8_0 5 rfl gw_instanceMethod
theorem m1802 : Cond.code yX12_areRules cX12_areRules 2 (some .boolean) ∈ gd := gdc_8_0 6 rfl gw_code
theorem m1830 : Cond.methodLink RX12 487 yX12_isWalker ∈ gd := gdc_8_2 2 rfl gw_methodLink
theorem m1832 : Cond.instanceMethod yX12_isWalker ∈ gd := gdc_8_2 4 rfl gw_instanceMethod
theorem m1833 : Cond.code yX12_isWalker cX12_isWalker 2 (some .boolean) ∈ gd := gdc_8_2 5 rfl gw_code
theorem m1838 : Cond.methodLink RX12 484 yX12_doesStand ∈ gd := gdc_8_2 10 rfl gw_methodLink
theorem m1840 : Cond.instanceMethod yX12_doesStand ∈ gd := gdc_8_2 12 rfl gw_instanceMethod
theorem m1841 : Cond.code yX12_doesStand cX12_doesStand 2 (some .boolean) ∈ gd := gdc_8_2 13 rfl gw_code
theorem m1879 : Cond.methodLink RX12 522 yX12_capped ∈ gd := gdc_8_5 3 rfl gw_methodLink
theorem m1880 : Cond.static yX12_capped ∈ gd := gdc_8_5 4 rfl gw_static
theorem m1881 : Cond.code yX12_capped cX12_capped 2 (some .long) ∈ gd := gdc_8_5 5 rfl gw_code
theorem m1882 : Cond.constantLong RX12 515 1000000000000000 ∈ gd := gdc_8_5 6 rfl gw_constantLong
def rbX12_capped_0 : List (Nat × List Nat) := [(0, [30]), (1, [20, 2, 3]), (4, [148]), (5, [158, 0, 9]), (8, [20, 2, 3]), (11, [167, 0, 4]), (14, [30]), (15, [173])]
theorem rcX12_capped_0 : dgo (lb cX12_capped) 0 rbX12_capped_0 = true := by decide +kernel
theorem dX12_capped_0 : decode cX12_capped 0 = .ok (.lload_n 0, 1) := dk_30 (dw rcX12_capped_0 0 rfl)
theorem dX12_capped_1 : decode cX12_capped 1 = .ok (.ldc2_w 515, 3) := dk_20 (dw rcX12_capped_0 1 rfl) rfl
theorem dX12_capped_4 : decode cX12_capped 4 = .ok (.lcmp, 1) := dk_148 (dw rcX12_capped_0 2 rfl)
theorem dX12_capped_5 : decode cX12_capped 5 = .ok (.ifCond .le 9, 3) := dk_158 (dw rcX12_capped_0 3 rfl) rfl
theorem dX12_capped_8 : decode cX12_capped 8 = .ok (.ldc2_w 515, 3) := dk_20 (dw rcX12_capped_0 4 rfl) rfl
theorem dX12_capped_11 : decode cX12_capped 11 = .ok (.goto 4, 3) := dk_167 (dw rcX12_capped_0 5 rfl) rfl
theorem dX12_capped_14 : decode cX12_capped 14 = .ok (.lload_n 0, 1) := dk_30 (dw rcX12_capped_0 6 rfl)
theorem dX12_capped_15 : decode cX12_capped 15 = .ok (.lreturn, 1) := dk_173 (dw rcX12_capped_0 7 rfl)
def rbX12_doesStand_0 : List (Nat × List Nat) := [(0, [27]), (1, [155, 0, 20]), (4, [27]), (5, [42]), (6, [180, 1, 213]), (9, [42]), (10, [180, 1, 216]), (13, [100]), (14, [163, 0, 7]), (17, [4]), (18, [167, 0, 4]), (21, [3]), (22, [172])]
theorem rcX12_doesStand_0 : dgo (lb cX12_doesStand) 0 rbX12_doesStand_0 = true := by decide +kernel
theorem dX12_doesStand_0 : decode cX12_doesStand 0 = .ok (.iload_n 1, 1) := dk_27 (dw rcX12_doesStand_0 0 rfl)
theorem dX12_doesStand_1 : decode cX12_doesStand 1 = .ok (.ifCond .lt 20, 3) := dk_155 (dw rcX12_doesStand_0 1 rfl) rfl
theorem dX12_doesStand_4 : decode cX12_doesStand 4 = .ok (.iload_n 1, 1) := dk_27 (dw rcX12_doesStand_0 2 rfl)
theorem dX12_doesStand_5 : decode cX12_doesStand 5 = .ok (.aload_n 0, 1) := dk_42 (dw rcX12_doesStand_0 3 rfl)
theorem dX12_doesStand_6 : decode cX12_doesStand 6 = .ok (.getfield 469, 3) := dk_180 (dw rcX12_doesStand_0 4 rfl) rfl
theorem dX12_doesStand_9 : decode cX12_doesStand 9 = .ok (.aload_n 0, 1) := dk_42 (dw rcX12_doesStand_0 5 rfl)
theorem dX12_doesStand_10 : decode cX12_doesStand 10 = .ok (.getfield 472, 3) := dk_180 (dw rcX12_doesStand_0 6 rfl) rfl
theorem dX12_doesStand_13 : decode cX12_doesStand 13 = .ok (.isub, 1) := dk_100 (dw rcX12_doesStand_0 7 rfl)
theorem dX12_doesStand_14 : decode cX12_doesStand 14 = .ok (.if_icmp .gt 7, 3) := dk_163 (dw rcX12_doesStand_0 8 rfl) rfl
theorem dX12_doesStand_17 : decode cX12_doesStand 17 = .ok (.iconst 1, 1) := dk_4 (dw rcX12_doesStand_0 9 rfl)
theorem dX12_doesStand_18 : decode cX12_doesStand 18 = .ok (.goto 4, 3) := dk_167 (dw rcX12_doesStand_0 10 rfl) rfl
theorem dX12_doesStand_21 : decode cX12_doesStand 21 = .ok (.iconst 0, 1) := dk_3 (dw rcX12_doesStand_0 11 rfl)
theorem dX12_doesStand_22 : decode cX12_doesStand 22 = .ok (.ireturn, 1) := dk_172 (dw rcX12_doesStand_0 12 rfl)
def rbX12_goOn_0 : List (Nat × List Nat) := [(0, [27]), (1, [5]), (2, [108]), (3, [61]), (4, [42]), (5, [180, 1, 219]), (8, [62]), (9, [29]), (10, [27]), (11, [5]), (12, [112]), (13, [4]), (14, [160, 0, 10]), (17, [42]), (18, [180, 1, 222]), (21, [167, 0, 7]), (24, [42]), (25, [180, 1, 225]), (28, [163, 0, 71]), (31, [42]), (32, [180, 0, 115]), (35, [28]), (36, [29]), (37, [96])]
theorem rcX12_goOn_0 : dgo (lb cX12_goOn) 0 rbX12_goOn_0 = true := by decide +kernel
theorem dX12_goOn_0 : decode cX12_goOn 0 = .ok (.iload_n 1, 1) := dk_27 (dw rcX12_goOn_0 0 rfl)
theorem dX12_goOn_1 : decode cX12_goOn 1 = .ok (.iconst 2, 1) := dk_5 (dw rcX12_goOn_0 1 rfl)
theorem dX12_goOn_2 : decode cX12_goOn 2 = .ok (.idiv, 1) := dk_108 (dw rcX12_goOn_0 2 rfl)
theorem dX12_goOn_3 : decode cX12_goOn 3 = .ok (.istore_n 2, 1) := dk_61 (dw rcX12_goOn_0 3 rfl)
theorem dX12_goOn_4 : decode cX12_goOn 4 = .ok (.aload_n 0, 1) := dk_42 (dw rcX12_goOn_0 4 rfl)
theorem dX12_goOn_5 : decode cX12_goOn 5 = .ok (.getfield 475, 3) := dk_180 (dw rcX12_goOn_0 5 rfl) rfl
theorem dX12_goOn_8 : decode cX12_goOn 8 = .ok (.istore_n 3, 1) := dk_62 (dw rcX12_goOn_0 6 rfl)
theorem dX12_goOn_9 : decode cX12_goOn 9 = .ok (.iload_n 3, 1) := dk_29 (dw rcX12_goOn_0 7 rfl)
theorem dX12_goOn_10 : decode cX12_goOn 10 = .ok (.iload_n 1, 1) := dk_27 (dw rcX12_goOn_0 8 rfl)
theorem dX12_goOn_11 : decode cX12_goOn 11 = .ok (.iconst 2, 1) := dk_5 (dw rcX12_goOn_0 9 rfl)
theorem dX12_goOn_12 : decode cX12_goOn 12 = .ok (.irem, 1) := dk_112 (dw rcX12_goOn_0 10 rfl)
theorem dX12_goOn_13 : decode cX12_goOn 13 = .ok (.iconst 1, 1) := dk_4 (dw rcX12_goOn_0 11 rfl)
theorem dX12_goOn_14 : decode cX12_goOn 14 = .ok (.if_icmp .ne 10, 3) := dk_160 (dw rcX12_goOn_0 12 rfl) rfl
theorem dX12_goOn_17 : decode cX12_goOn 17 = .ok (.aload_n 0, 1) := dk_42 (dw rcX12_goOn_0 13 rfl)
theorem dX12_goOn_18 : decode cX12_goOn 18 = .ok (.getfield 478, 3) := dk_180 (dw rcX12_goOn_0 14 rfl) rfl
theorem dX12_goOn_21 : decode cX12_goOn 21 = .ok (.goto 7, 3) := dk_167 (dw rcX12_goOn_0 15 rfl) rfl
theorem dX12_goOn_24 : decode cX12_goOn 24 = .ok (.aload_n 0, 1) := dk_42 (dw rcX12_goOn_0 16 rfl)
theorem dX12_goOn_25 : decode cX12_goOn 25 = .ok (.getfield 481, 3) := dk_180 (dw rcX12_goOn_0 17 rfl) rfl
theorem dX12_goOn_28 : decode cX12_goOn 28 = .ok (.if_icmp .gt 71, 3) := dk_163 (dw rcX12_goOn_0 18 rfl) rfl
theorem dX12_goOn_31 : decode cX12_goOn 31 = .ok (.aload_n 0, 1) := dk_42 (dw rcX12_goOn_0 19 rfl)
theorem dX12_goOn_32 : decode cX12_goOn 32 = .ok (.getfield 115, 3) := dk_180 (dw rcX12_goOn_0 20 rfl) rfl
theorem dX12_goOn_35 : decode cX12_goOn 35 = .ok (.iload_n 2, 1) := dk_28 (dw rcX12_goOn_0 21 rfl)
theorem dX12_goOn_36 : decode cX12_goOn 36 = .ok (.iload_n 3, 1) := dk_29 (dw rcX12_goOn_0 22 rfl)
theorem dX12_goOn_37 : decode cX12_goOn 37 = .ok (.iadd, 1) := dk_96 (dw rcX12_goOn_0 23 rfl)
def rbX12_goOn_38 : List (Nat × List Nat) := [(38, [51]), (39, [154, 0, 6]), (42, [167, 0, 51]), (45, [5]), (46, [28]), (47, [29]), (48, [96]), (49, [104]), (50, [29]), (51, [42]), (52, [180, 1, 222]), (55, [164, 0, 7]), (58, [4]), (59, [167, 0, 4]), (62, [3]), (63, [184, 1, 92]), (66, [96]), (67, [54, 4]), (69, [42]), (70, [180, 0, 127]), (73, [21, 4]), (75, [42]), (76, [180, 0, 127]), (79, [21, 4])]
theorem rcX12_goOn_38 : dgo (lb cX12_goOn) 0 rbX12_goOn_38 = true := by decide +kernel
theorem dX12_goOn_38 : decode cX12_goOn 38 = .ok (.baload, 1) := dk_51 (dw rcX12_goOn_38 0 rfl)
theorem dX12_goOn_39 : decode cX12_goOn 39 = .ok (.ifCond .ne 6, 3) := dk_154 (dw rcX12_goOn_38 1 rfl) rfl
theorem dX12_goOn_42 : decode cX12_goOn 42 = .ok (.goto 51, 3) := dk_167 (dw rcX12_goOn_38 2 rfl) rfl
theorem dX12_goOn_45 : decode cX12_goOn 45 = .ok (.iconst 2, 1) := dk_5 (dw rcX12_goOn_38 3 rfl)
theorem dX12_goOn_46 : decode cX12_goOn 46 = .ok (.iload_n 2, 1) := dk_28 (dw rcX12_goOn_38 4 rfl)
theorem dX12_goOn_47 : decode cX12_goOn 47 = .ok (.iload_n 3, 1) := dk_29 (dw rcX12_goOn_38 5 rfl)
theorem dX12_goOn_48 : decode cX12_goOn 48 = .ok (.iadd, 1) := dk_96 (dw rcX12_goOn_38 6 rfl)
theorem dX12_goOn_49 : decode cX12_goOn 49 = .ok (.imul, 1) := dk_104 (dw rcX12_goOn_38 7 rfl)
theorem dX12_goOn_50 : decode cX12_goOn 50 = .ok (.iload_n 3, 1) := dk_29 (dw rcX12_goOn_38 8 rfl)
theorem dX12_goOn_51 : decode cX12_goOn 51 = .ok (.aload_n 0, 1) := dk_42 (dw rcX12_goOn_38 9 rfl)
theorem dX12_goOn_52 : decode cX12_goOn 52 = .ok (.getfield 478, 3) := dk_180 (dw rcX12_goOn_38 10 rfl) rfl
theorem dX12_goOn_55 : decode cX12_goOn 55 = .ok (.if_icmp .le 7, 3) := dk_164 (dw rcX12_goOn_38 11 rfl) rfl
theorem dX12_goOn_58 : decode cX12_goOn 58 = .ok (.iconst 1, 1) := dk_4 (dw rcX12_goOn_38 12 rfl)
theorem dX12_goOn_59 : decode cX12_goOn 59 = .ok (.goto 4, 3) := dk_167 (dw rcX12_goOn_38 13 rfl) rfl
theorem dX12_goOn_62 : decode cX12_goOn 62 = .ok (.iconst 0, 1) := dk_3 (dw rcX12_goOn_38 14 rfl)
theorem dX12_goOn_63 : decode cX12_goOn 63 = .ok (.invokestatic 348, 3) := dk_184 (dw rcX12_goOn_38 15 rfl) rfl
theorem dX12_goOn_66 : decode cX12_goOn 66 = .ok (.iadd, 1) := dk_96 (dw rcX12_goOn_38 16 rfl)
theorem dX12_goOn_67 : decode cX12_goOn 67 = .ok (.istore 4, 2) := dk_54 (dw rcX12_goOn_38 17 rfl)
theorem dX12_goOn_69 : decode cX12_goOn 69 = .ok (.aload_n 0, 1) := dk_42 (dw rcX12_goOn_38 18 rfl)
theorem dX12_goOn_70 : decode cX12_goOn 70 = .ok (.getfield 127, 3) := dk_180 (dw rcX12_goOn_38 19 rfl) rfl
theorem dX12_goOn_73 : decode cX12_goOn 73 = .ok (.iload 4, 2) := dk_21 (dw rcX12_goOn_38 20 rfl)
theorem dX12_goOn_75 : decode cX12_goOn 75 = .ok (.aload_n 0, 1) := dk_42 (dw rcX12_goOn_38 21 rfl)
theorem dX12_goOn_76 : decode cX12_goOn 76 = .ok (.getfield 127, 3) := dk_180 (dw rcX12_goOn_38 22 rfl) rfl
theorem dX12_goOn_79 : decode cX12_goOn 79 = .ok (.iload 4, 2) := dk_21 (dw rcX12_goOn_38 23 rfl)
def rbX12_goOn_81 : List (Nat × List Nat) := [(81, [47]), (82, [42]), (83, [180, 0, 124]), (86, [27]), (87, [47]), (88, [97]), (89, [184, 2, 10]), (92, [80]), (93, [132, 3, 1]), (96, [167, 255, 169]), (99, [177])]
theorem rcX12_goOn_81 : dgo (lb cX12_goOn) 0 rbX12_goOn_81 = true := by decide +kernel
theorem dX12_goOn_81 : decode cX12_goOn 81 = .ok (.laload, 1) := dk_47 (dw rcX12_goOn_81 0 rfl)
theorem dX12_goOn_82 : decode cX12_goOn 82 = .ok (.aload_n 0, 1) := dk_42 (dw rcX12_goOn_81 1 rfl)
theorem dX12_goOn_83 : decode cX12_goOn 83 = .ok (.getfield 124, 3) := dk_180 (dw rcX12_goOn_81 2 rfl) rfl
theorem dX12_goOn_86 : decode cX12_goOn 86 = .ok (.iload_n 1, 1) := dk_27 (dw rcX12_goOn_81 3 rfl)
theorem dX12_goOn_87 : decode cX12_goOn 87 = .ok (.laload, 1) := dk_47 (dw rcX12_goOn_81 4 rfl)
theorem dX12_goOn_88 : decode cX12_goOn 88 = .ok (.ladd, 1) := dk_97 (dw rcX12_goOn_81 5 rfl)
theorem dX12_goOn_89 : decode cX12_goOn 89 = .ok (.invokestatic 522, 3) := dk_184 (dw rcX12_goOn_81 6 rfl) rfl
theorem dX12_goOn_92 : decode cX12_goOn 92 = .ok (.lastore, 1) := dk_80 (dw rcX12_goOn_81 7 rfl)
theorem dX12_goOn_93 : decode cX12_goOn 93 = .ok (.iinc 3 1, 3) := dk_132 (dw rcX12_goOn_81 8 rfl) rfl
theorem dX12_goOn_96 : decode cX12_goOn 96 = .ok (.goto (-87), 3) := dk_167 (dw rcX12_goOn_81 9 rfl) rfl
theorem dX12_goOn_99 : decode cX12_goOn 99 = .ok (.return_, 1) := dk_177 (dw rcX12_goOn_81 10 rfl)
def rbX12_isAsked_0 : List (Nat × List Nat) := [(0, [42]), (1, [27]), (2, [182, 1, 231]), (5, [153, 0, 23]), (8, [42]), (9, [28]), (10, [182, 1, 197]), (13, [153, 0, 15]), (16, [42]), (17, [29]), (18, [182, 1, 207]), (21, [153, 0, 7]), (24, [4]), (25, [167, 0, 4]), (28, [3]), (29, [172])]
theorem rcX12_isAsked_0 : dgo (lb cX12_isAsked) 0 rbX12_isAsked_0 = true := by decide +kernel
theorem dX12_isAsked_0 : decode cX12_isAsked 0 = .ok (.aload_n 0, 1) := dk_42 (dw rcX12_isAsked_0 0 rfl)
theorem dX12_isAsked_1 : decode cX12_isAsked 1 = .ok (.iload_n 1, 1) := dk_27 (dw rcX12_isAsked_0 1 rfl)
theorem dX12_isAsked_2 : decode cX12_isAsked 2 = .ok (.invokevirtual 487, 3) := dk_182 (dw rcX12_isAsked_0 2 rfl) rfl
theorem dX12_isAsked_5 : decode cX12_isAsked 5 = .ok (.ifCond .eq 23, 3) := dk_153 (dw rcX12_isAsked_0 3 rfl) rfl
theorem dX12_isAsked_8 : decode cX12_isAsked 8 = .ok (.aload_n 0, 1) := dk_42 (dw rcX12_isAsked_0 4 rfl)
theorem dX12_isAsked_9 : decode cX12_isAsked 9 = .ok (.iload_n 2, 1) := dk_28 (dw rcX12_isAsked_0 5 rfl)
theorem dX12_isAsked_10 : decode cX12_isAsked 10 = .ok (.invokevirtual 453, 3) := dk_182 (dw rcX12_isAsked_0 6 rfl) rfl
theorem dX12_isAsked_13 : decode cX12_isAsked 13 = .ok (.ifCond .eq 15, 3) := dk_153 (dw rcX12_isAsked_0 7 rfl) rfl
theorem dX12_isAsked_16 : decode cX12_isAsked 16 = .ok (.aload_n 0, 1) := dk_42 (dw rcX12_isAsked_0 8 rfl)
theorem dX12_isAsked_17 : decode cX12_isAsked 17 = .ok (.iload_n 3, 1) := dk_29 (dw rcX12_isAsked_0 9 rfl)
theorem dX12_isAsked_18 : decode cX12_isAsked 18 = .ok (.invokevirtual 463, 3) := dk_182 (dw rcX12_isAsked_0 10 rfl) rfl
theorem dX12_isAsked_21 : decode cX12_isAsked 21 = .ok (.ifCond .eq 7, 3) := dk_153 (dw rcX12_isAsked_0 11 rfl) rfl
theorem dX12_isAsked_24 : decode cX12_isAsked 24 = .ok (.iconst 1, 1) := dk_4 (dw rcX12_isAsked_0 12 rfl)
theorem dX12_isAsked_25 : decode cX12_isAsked 25 = .ok (.goto 4, 3) := dk_167 (dw rcX12_isAsked_0 13 rfl) rfl
theorem dX12_isAsked_28 : decode cX12_isAsked 28 = .ok (.iconst 0, 1) := dk_3 (dw rcX12_isAsked_0 14 rfl)
theorem dX12_isAsked_29 : decode cX12_isAsked 29 = .ok (.ireturn, 1) := dk_172 (dw rcX12_isAsked_0 15 rfl)
def rbX12_isEnd_0 : List (Nat × List Nat) := [(0, [42]), (1, [27]), (2, [42]), (3, [180, 1, 222]), (6, [96]), (7, [182, 1, 228]), (10, [154, 0, 7]), (13, [4]), (14, [167, 0, 4]), (17, [3]), (18, [172])]
theorem rcX12_isEnd_0 : dgo (lb cX12_isEnd) 0 rbX12_isEnd_0 = true := by decide +kernel
theorem dX12_isEnd_0 : decode cX12_isEnd 0 = .ok (.aload_n 0, 1) := dk_42 (dw rcX12_isEnd_0 0 rfl)
theorem dX12_isEnd_1 : decode cX12_isEnd 1 = .ok (.iload_n 1, 1) := dk_27 (dw rcX12_isEnd_0 1 rfl)
theorem dX12_isEnd_2 : decode cX12_isEnd 2 = .ok (.aload_n 0, 1) := dk_42 (dw rcX12_isEnd_0 2 rfl)
theorem dX12_isEnd_3 : decode cX12_isEnd 3 = .ok (.getfield 478, 3) := dk_180 (dw rcX12_isEnd_0 3 rfl) rfl
theorem dX12_isEnd_6 : decode cX12_isEnd 6 = .ok (.iadd, 1) := dk_96 (dw rcX12_isEnd_0 4 rfl)
theorem dX12_isEnd_7 : decode cX12_isEnd 7 = .ok (.invokevirtual 484, 3) := dk_182 (dw rcX12_isEnd_0 5 rfl) rfl
theorem dX12_isEnd_10 : decode cX12_isEnd 10 = .ok (.ifCond .ne 7, 3) := dk_154 (dw rcX12_isEnd_0 6 rfl) rfl
theorem dX12_isEnd_13 : decode cX12_isEnd 13 = .ok (.iconst 1, 1) := dk_4 (dw rcX12_isEnd_0 7 rfl)
theorem dX12_isEnd_14 : decode cX12_isEnd 14 = .ok (.goto 4, 3) := dk_167 (dw rcX12_isEnd_0 8 rfl) rfl
theorem dX12_isEnd_17 : decode cX12_isEnd 17 = .ok (.iconst 0, 1) := dk_3 (dw rcX12_isEnd_0 9 rfl)
theorem dX12_isEnd_18 : decode cX12_isEnd 18 = .ok (.ireturn, 1) := dk_172 (dw rcX12_isEnd_0 10 rfl)
def rbX12_isHeld_0 : List (Nat × List Nat) := [(0, [27]), (1, [42]), (2, [180, 0, 105]), (5, [28]), (6, [104]), (7, [100]), (8, [42]), (9, [180, 0, 108]), (12, [163, 0, 22]), (15, [42]), (16, [180, 0, 105]), (19, [28]), (20, [104]), (21, [27]), (22, [100]), (23, [42]), (24, [180, 0, 108]), (27, [163, 0, 7]), (30, [4]), (31, [167, 0, 4]), (34, [3]), (35, [172])]
theorem rcX12_isHeld_0 : dgo (lb cX12_isHeld) 0 rbX12_isHeld_0 = true := by decide +kernel
theorem dX12_isHeld_0 : decode cX12_isHeld 0 = .ok (.iload_n 1, 1) := dk_27 (dw rcX12_isHeld_0 0 rfl)
theorem dX12_isHeld_1 : decode cX12_isHeld 1 = .ok (.aload_n 0, 1) := dk_42 (dw rcX12_isHeld_0 1 rfl)
theorem dX12_isHeld_2 : decode cX12_isHeld 2 = .ok (.getfield 105, 3) := dk_180 (dw rcX12_isHeld_0 2 rfl) rfl
theorem dX12_isHeld_5 : decode cX12_isHeld 5 = .ok (.iload_n 2, 1) := dk_28 (dw rcX12_isHeld_0 3 rfl)
theorem dX12_isHeld_6 : decode cX12_isHeld 6 = .ok (.imul, 1) := dk_104 (dw rcX12_isHeld_0 4 rfl)
theorem dX12_isHeld_7 : decode cX12_isHeld 7 = .ok (.isub, 1) := dk_100 (dw rcX12_isHeld_0 5 rfl)
theorem dX12_isHeld_8 : decode cX12_isHeld 8 = .ok (.aload_n 0, 1) := dk_42 (dw rcX12_isHeld_0 6 rfl)
theorem dX12_isHeld_9 : decode cX12_isHeld 9 = .ok (.getfield 108, 3) := dk_180 (dw rcX12_isHeld_0 7 rfl) rfl
theorem dX12_isHeld_12 : decode cX12_isHeld 12 = .ok (.if_icmp .gt 22, 3) := dk_163 (dw rcX12_isHeld_0 8 rfl) rfl
theorem dX12_isHeld_15 : decode cX12_isHeld 15 = .ok (.aload_n 0, 1) := dk_42 (dw rcX12_isHeld_0 9 rfl)
theorem dX12_isHeld_16 : decode cX12_isHeld 16 = .ok (.getfield 105, 3) := dk_180 (dw rcX12_isHeld_0 10 rfl) rfl
theorem dX12_isHeld_19 : decode cX12_isHeld 19 = .ok (.iload_n 2, 1) := dk_28 (dw rcX12_isHeld_0 11 rfl)
theorem dX12_isHeld_20 : decode cX12_isHeld 20 = .ok (.imul, 1) := dk_104 (dw rcX12_isHeld_0 12 rfl)
theorem dX12_isHeld_21 : decode cX12_isHeld 21 = .ok (.iload_n 1, 1) := dk_27 (dw rcX12_isHeld_0 13 rfl)
theorem dX12_isHeld_22 : decode cX12_isHeld 22 = .ok (.isub, 1) := dk_100 (dw rcX12_isHeld_0 14 rfl)
theorem dX12_isHeld_23 : decode cX12_isHeld 23 = .ok (.aload_n 0, 1) := dk_42 (dw rcX12_isHeld_0 15 rfl)
theorem dX12_isHeld_24 : decode cX12_isHeld 24 = .ok (.getfield 108, 3) := dk_180 (dw rcX12_isHeld_0 16 rfl) rfl
theorem dX12_isHeld_27 : decode cX12_isHeld 27 = .ok (.if_icmp .gt 7, 3) := dk_163 (dw rcX12_isHeld_0 17 rfl) rfl
theorem dX12_isHeld_30 : decode cX12_isHeld 30 = .ok (.iconst 1, 1) := dk_4 (dw rcX12_isHeld_0 18 rfl)
theorem dX12_isHeld_31 : decode cX12_isHeld 31 = .ok (.goto 4, 3) := dk_167 (dw rcX12_isHeld_0 19 rfl) rfl
theorem dX12_isHeld_34 : decode cX12_isHeld 34 = .ok (.iconst 0, 1) := dk_3 (dw rcX12_isHeld_0 20 rfl)
theorem dX12_isHeld_35 : decode cX12_isHeld 35 = .ok (.ireturn, 1) := dk_172 (dw rcX12_isHeld_0 21 rfl)
def rbX12_lay_0 : List (Nat × List Nat) := [(0, [42]), (1, [180, 0, 121]), (4, [42]), (5, [180, 1, 190]), (8, [27]), (9, [79]), (10, [42]), (11, [89]), (12, [180, 1, 190]), (15, [4]), (16, [96]), (17, [181, 1, 190]), (20, [177])]
theorem rcX12_lay_0 : dgo (lb cX12_lay) 0 rbX12_lay_0 = true := by decide +kernel
theorem dX12_lay_0 : decode cX12_lay 0 = .ok (.aload_n 0, 1) := dk_42 (dw rcX12_lay_0 0 rfl)
theorem dX12_lay_1 : decode cX12_lay 1 = .ok (.getfield 121, 3) := dk_180 (dw rcX12_lay_0 1 rfl) rfl
theorem dX12_lay_4 : decode cX12_lay 4 = .ok (.aload_n 0, 1) := dk_42 (dw rcX12_lay_0 2 rfl)
theorem dX12_lay_5 : decode cX12_lay 5 = .ok (.getfield 446, 3) := dk_180 (dw rcX12_lay_0 3 rfl) rfl
theorem dX12_lay_8 : decode cX12_lay 8 = .ok (.iload_n 1, 1) := dk_27 (dw rcX12_lay_0 4 rfl)
theorem dX12_lay_9 : decode cX12_lay 9 = .ok (.iastore, 1) := dk_79 (dw rcX12_lay_0 5 rfl)
theorem dX12_lay_10 : decode cX12_lay 10 = .ok (.aload_n 0, 1) := dk_42 (dw rcX12_lay_0 6 rfl)
theorem dX12_lay_11 : decode cX12_lay 11 = .ok (.dup, 1) := dk_89 (dw rcX12_lay_0 7 rfl)
theorem dX12_lay_12 : decode cX12_lay 12 = .ok (.getfield 446, 3) := dk_180 (dw rcX12_lay_0 8 rfl) rfl
theorem dX12_lay_15 : decode cX12_lay 15 = .ok (.iconst 1, 1) := dk_4 (dw rcX12_lay_0 9 rfl)
theorem dX12_lay_16 : decode cX12_lay 16 = .ok (.iadd, 1) := dk_96 (dw rcX12_lay_0 10 rfl)
theorem dX12_lay_17 : decode cX12_lay 17 = .ok (.putfield 446, 3) := dk_181 (dw rcX12_lay_0 11 rfl) rfl
theorem dX12_lay_20 : decode cX12_lay 20 = .ok (.return_, 1) := dk_177 (dw rcX12_lay_0 12 rfl)
def rbX12_layWins_0 : List (Nat × List Nat) := [(0, [42]), (1, [180, 0, 145]), (4, [27]), (5, [3]), (6, [84]), (7, [42]), (8, [180, 0, 148]), (11, [27]), (12, [2]), (13, [79]), (14, [3]), (15, [61]), (16, [28]), (17, [42]), (18, [180, 1, 175]), (21, [162, 0, 64]), (24, [42]), (25, [180, 0, 145]), (28, [27]), (29, [51]), (30, [154, 0, 55]), (33, [27]), (34, [4]), (35, [28])]
theorem rcX12_layWins_0 : dgo (lb cX12_layWins) 0 rbX12_layWins_0 = true := by decide +kernel
theorem dX12_layWins_0 : decode cX12_layWins 0 = .ok (.aload_n 0, 1) := dk_42 (dw rcX12_layWins_0 0 rfl)
theorem dX12_layWins_1 : decode cX12_layWins 1 = .ok (.getfield 145, 3) := dk_180 (dw rcX12_layWins_0 1 rfl) rfl
theorem dX12_layWins_4 : decode cX12_layWins 4 = .ok (.iload_n 1, 1) := dk_27 (dw rcX12_layWins_0 2 rfl)
theorem dX12_layWins_5 : decode cX12_layWins 5 = .ok (.iconst 0, 1) := dk_3 (dw rcX12_layWins_0 3 rfl)
theorem dX12_layWins_6 : decode cX12_layWins 6 = .ok (.bastore, 1) := dk_84 (dw rcX12_layWins_0 4 rfl)
theorem dX12_layWins_7 : decode cX12_layWins 7 = .ok (.aload_n 0, 1) := dk_42 (dw rcX12_layWins_0 5 rfl)
theorem dX12_layWins_8 : decode cX12_layWins 8 = .ok (.getfield 148, 3) := dk_180 (dw rcX12_layWins_0 6 rfl) rfl
theorem dX12_layWins_11 : decode cX12_layWins 11 = .ok (.iload_n 1, 1) := dk_27 (dw rcX12_layWins_0 7 rfl)
theorem dX12_layWins_12 : decode cX12_layWins 12 = .ok (.iconst (-1), 1) := dk_2 (dw rcX12_layWins_0 8 rfl)
theorem dX12_layWins_13 : decode cX12_layWins 13 = .ok (.iastore, 1) := dk_79 (dw rcX12_layWins_0 9 rfl)
theorem dX12_layWins_14 : decode cX12_layWins 14 = .ok (.iconst 0, 1) := dk_3 (dw rcX12_layWins_0 10 rfl)
theorem dX12_layWins_15 : decode cX12_layWins 15 = .ok (.istore_n 2, 1) := dk_61 (dw rcX12_layWins_0 11 rfl)
theorem dX12_layWins_16 : decode cX12_layWins 16 = .ok (.iload_n 2, 1) := dk_28 (dw rcX12_layWins_0 12 rfl)
theorem dX12_layWins_17 : decode cX12_layWins 17 = .ok (.aload_n 0, 1) := dk_42 (dw rcX12_layWins_0 13 rfl)
theorem dX12_layWins_18 : decode cX12_layWins 18 = .ok (.getfield 431, 3) := dk_180 (dw rcX12_layWins_0 14 rfl) rfl
theorem dX12_layWins_21 : decode cX12_layWins 21 = .ok (.if_icmp .ge 64, 3) := dk_162 (dw rcX12_layWins_0 15 rfl) rfl
theorem dX12_layWins_24 : decode cX12_layWins 24 = .ok (.aload_n 0, 1) := dk_42 (dw rcX12_layWins_0 16 rfl)
theorem dX12_layWins_25 : decode cX12_layWins 25 = .ok (.getfield 145, 3) := dk_180 (dw rcX12_layWins_0 17 rfl) rfl
theorem dX12_layWins_28 : decode cX12_layWins 28 = .ok (.iload_n 1, 1) := dk_27 (dw rcX12_layWins_0 18 rfl)
theorem dX12_layWins_29 : decode cX12_layWins 29 = .ok (.baload, 1) := dk_51 (dw rcX12_layWins_0 19 rfl)
theorem dX12_layWins_30 : decode cX12_layWins 30 = .ok (.ifCond .ne 55, 3) := dk_154 (dw rcX12_layWins_0 20 rfl) rfl
theorem dX12_layWins_33 : decode cX12_layWins 33 = .ok (.iload_n 1, 1) := dk_27 (dw rcX12_layWins_0 21 rfl)
theorem dX12_layWins_34 : decode cX12_layWins 34 = .ok (.iconst 1, 1) := dk_4 (dw rcX12_layWins_0 22 rfl)
theorem dX12_layWins_35 : decode cX12_layWins 35 = .ok (.iload_n 2, 1) := dk_28 (dw rcX12_layWins_0 23 rfl)
def rbX12_layWins_36 : List (Nat × List Nat) := [(36, [120]), (37, [128]), (38, [62]), (39, [29]), (40, [27]), (41, [159, 0, 38]), (44, [42]), (45, [180, 0, 142]), (48, [29]), (49, [51]), (50, [153, 0, 29]), (53, [42]), (54, [180, 0, 145]), (57, [29]), (58, [51]), (59, [153, 0, 6]), (62, [167, 0, 17]), (65, [42]), (66, [180, 0, 145]), (69, [27]), (70, [4]), (71, [84]), (72, [42]), (73, [180, 0, 148])]
theorem rcX12_layWins_36 : dgo (lb cX12_layWins) 0 rbX12_layWins_36 = true := by decide +kernel
theorem dX12_layWins_36 : decode cX12_layWins 36 = .ok (.ishl, 1) := dk_120 (dw rcX12_layWins_36 0 rfl)
theorem dX12_layWins_37 : decode cX12_layWins 37 = .ok (.ior, 1) := dk_128 (dw rcX12_layWins_36 1 rfl)
theorem dX12_layWins_38 : decode cX12_layWins 38 = .ok (.istore_n 3, 1) := dk_62 (dw rcX12_layWins_36 2 rfl)
theorem dX12_layWins_39 : decode cX12_layWins 39 = .ok (.iload_n 3, 1) := dk_29 (dw rcX12_layWins_36 3 rfl)
theorem dX12_layWins_40 : decode cX12_layWins 40 = .ok (.iload_n 1, 1) := dk_27 (dw rcX12_layWins_36 4 rfl)
theorem dX12_layWins_41 : decode cX12_layWins 41 = .ok (.if_icmp .eq 38, 3) := dk_159 (dw rcX12_layWins_36 5 rfl) rfl
theorem dX12_layWins_44 : decode cX12_layWins 44 = .ok (.aload_n 0, 1) := dk_42 (dw rcX12_layWins_36 6 rfl)
theorem dX12_layWins_45 : decode cX12_layWins 45 = .ok (.getfield 142, 3) := dk_180 (dw rcX12_layWins_36 7 rfl) rfl
theorem dX12_layWins_48 : decode cX12_layWins 48 = .ok (.iload_n 3, 1) := dk_29 (dw rcX12_layWins_36 8 rfl)
theorem dX12_layWins_49 : decode cX12_layWins 49 = .ok (.baload, 1) := dk_51 (dw rcX12_layWins_36 9 rfl)
theorem dX12_layWins_50 : decode cX12_layWins 50 = .ok (.ifCond .eq 29, 3) := dk_153 (dw rcX12_layWins_36 10 rfl) rfl
theorem dX12_layWins_53 : decode cX12_layWins 53 = .ok (.aload_n 0, 1) := dk_42 (dw rcX12_layWins_36 11 rfl)
theorem dX12_layWins_54 : decode cX12_layWins 54 = .ok (.getfield 145, 3) := dk_180 (dw rcX12_layWins_36 12 rfl) rfl
theorem dX12_layWins_57 : decode cX12_layWins 57 = .ok (.iload_n 3, 1) := dk_29 (dw rcX12_layWins_36 13 rfl)
theorem dX12_layWins_58 : decode cX12_layWins 58 = .ok (.baload, 1) := dk_51 (dw rcX12_layWins_36 14 rfl)
theorem dX12_layWins_59 : decode cX12_layWins 59 = .ok (.ifCond .eq 6, 3) := dk_153 (dw rcX12_layWins_36 15 rfl) rfl
theorem dX12_layWins_62 : decode cX12_layWins 62 = .ok (.goto 17, 3) := dk_167 (dw rcX12_layWins_36 16 rfl) rfl
theorem dX12_layWins_65 : decode cX12_layWins 65 = .ok (.aload_n 0, 1) := dk_42 (dw rcX12_layWins_36 17 rfl)
theorem dX12_layWins_66 : decode cX12_layWins 66 = .ok (.getfield 145, 3) := dk_180 (dw rcX12_layWins_36 18 rfl) rfl
theorem dX12_layWins_69 : decode cX12_layWins 69 = .ok (.iload_n 1, 1) := dk_27 (dw rcX12_layWins_36 19 rfl)
theorem dX12_layWins_70 : decode cX12_layWins 70 = .ok (.iconst 1, 1) := dk_4 (dw rcX12_layWins_36 20 rfl)
theorem dX12_layWins_71 : decode cX12_layWins 71 = .ok (.bastore, 1) := dk_84 (dw rcX12_layWins_36 21 rfl)
theorem dX12_layWins_72 : decode cX12_layWins 72 = .ok (.aload_n 0, 1) := dk_42 (dw rcX12_layWins_36 22 rfl)
theorem dX12_layWins_73 : decode cX12_layWins 73 = .ok (.getfield 148, 3) := dk_180 (dw rcX12_layWins_36 23 rfl) rfl
def rbX12_layWins_76 : List (Nat × List Nat) := [(76, [27]), (77, [28]), (78, [79]), (79, [132, 2, 1]), (82, [167, 255, 190]), (85, [177])]
theorem rcX12_layWins_76 : dgo (lb cX12_layWins) 0 rbX12_layWins_76 = true := by decide +kernel
theorem dX12_layWins_76 : decode cX12_layWins 76 = .ok (.iload_n 1, 1) := dk_27 (dw rcX12_layWins_76 0 rfl)
theorem dX12_layWins_77 : decode cX12_layWins 77 = .ok (.iload_n 2, 1) := dk_28 (dw rcX12_layWins_76 1 rfl)
theorem dX12_layWins_78 : decode cX12_layWins 78 = .ok (.iastore, 1) := dk_79 (dw rcX12_layWins_76 2 rfl)
theorem dX12_layWins_79 : decode cX12_layWins 79 = .ok (.iinc 2 1, 3) := dk_132 (dw rcX12_layWins_76 3 rfl) rfl
theorem dX12_layWins_82 : decode cX12_layWins 82 = .ok (.goto (-66), 3) := dk_167 (dw rcX12_layWins_76 4 rfl) rfl
theorem dX12_layWins_85 : decode cX12_layWins 85 = .ok (.return_, 1) := dk_177 (dw rcX12_layWins_76 5 rfl)
def rbX12_needOf_0 : List (Nat × List Nat) := [(0, [42]), (1, [180, 0, 118]), (4, [6]), (5, [5]), (6, [27]), (7, [104]), (8, [28]), (9, [96]), (10, [104]), (11, [29]), (12, [96]), (13, [46]), (14, [172])]
theorem rcX12_needOf_0 : dgo (lb cX12_needOf) 0 rbX12_needOf_0 = true := by decide +kernel
theorem dX12_needOf_0 : decode cX12_needOf 0 = .ok (.aload_n 0, 1) := dk_42 (dw rcX12_needOf_0 0 rfl)
theorem dX12_needOf_1 : decode cX12_needOf 1 = .ok (.getfield 118, 3) := dk_180 (dw rcX12_needOf_0 1 rfl) rfl
theorem dX12_needOf_4 : decode cX12_needOf 4 = .ok (.iconst 3, 1) := dk_6 (dw rcX12_needOf_0 2 rfl)
theorem dX12_needOf_5 : decode cX12_needOf 5 = .ok (.iconst 2, 1) := dk_5 (dw rcX12_needOf_0 3 rfl)
theorem dX12_needOf_6 : decode cX12_needOf 6 = .ok (.iload_n 1, 1) := dk_27 (dw rcX12_needOf_0 4 rfl)
theorem dX12_needOf_7 : decode cX12_needOf 7 = .ok (.imul, 1) := dk_104 (dw rcX12_needOf_0 5 rfl)
theorem dX12_needOf_8 : decode cX12_needOf 8 = .ok (.iload_n 2, 1) := dk_28 (dw rcX12_needOf_0 6 rfl)
theorem dX12_needOf_9 : decode cX12_needOf 9 = .ok (.iadd, 1) := dk_96 (dw rcX12_needOf_0 7 rfl)
theorem dX12_needOf_10 : decode cX12_needOf 10 = .ok (.imul, 1) := dk_104 (dw rcX12_needOf_0 8 rfl)
theorem dX12_needOf_11 : decode cX12_needOf 11 = .ok (.iload_n 3, 1) := dk_29 (dw rcX12_needOf_0 9 rfl)
theorem dX12_needOf_12 : decode cX12_needOf 12 = .ok (.iadd, 1) := dk_96 (dw rcX12_needOf_0 10 rfl)
theorem dX12_needOf_13 : decode cX12_needOf 13 = .ok (.iaload, 1) := dk_46 (dw rcX12_needOf_0 11 rfl)
theorem dX12_needOf_14 : decode cX12_needOf 14 = .ok (.ireturn, 1) := dk_172 (dw rcX12_needOf_0 12 rfl)
def rbX12_stands_0 : List (Nat × List Nat) := [(0, [42]), (1, [180, 0, 151]), (4, [16, 9]), (6, [46]), (7, [4]), (8, [159, 0, 12]), (11, [42]), (12, [180, 0, 115]), (15, [27]), (16, [51]), (17, [153, 0, 7]), (20, [4]), (21, [167, 0, 4]), (24, [3]), (25, [184, 1, 92]), (28, [172])]
theorem rcX12_stands_0 : dgo (lb cX12_stands) 0 rbX12_stands_0 = true := by decide +kernel
theorem dX12_stands_0 : decode cX12_stands 0 = .ok (.aload_n 0, 1) := dk_42 (dw rcX12_stands_0 0 rfl)
theorem dX12_stands_1 : decode cX12_stands 1 = .ok (.getfield 151, 3) := dk_180 (dw rcX12_stands_0 1 rfl) rfl
theorem dX12_stands_4 : decode cX12_stands 4 = .ok (.bipush 9, 2) := dk_16 (dw rcX12_stands_0 2 rfl) rfl
theorem dX12_stands_6 : decode cX12_stands 6 = .ok (.iaload, 1) := dk_46 (dw rcX12_stands_0 3 rfl)
theorem dX12_stands_7 : decode cX12_stands 7 = .ok (.iconst 1, 1) := dk_4 (dw rcX12_stands_0 4 rfl)
theorem dX12_stands_8 : decode cX12_stands 8 = .ok (.if_icmp .eq 12, 3) := dk_159 (dw rcX12_stands_0 5 rfl) rfl
theorem dX12_stands_11 : decode cX12_stands 11 = .ok (.aload_n 0, 1) := dk_42 (dw rcX12_stands_0 6 rfl)
theorem dX12_stands_12 : decode cX12_stands 12 = .ok (.getfield 115, 3) := dk_180 (dw rcX12_stands_0 7 rfl) rfl
theorem dX12_stands_15 : decode cX12_stands 15 = .ok (.iload_n 1, 1) := dk_27 (dw rcX12_stands_0 8 rfl)
theorem dX12_stands_16 : decode cX12_stands 16 = .ok (.baload, 1) := dk_51 (dw rcX12_stands_0 9 rfl)
theorem dX12_stands_17 : decode cX12_stands 17 = .ok (.ifCond .eq 7, 3) := dk_153 (dw rcX12_stands_0 10 rfl) rfl
theorem dX12_stands_20 : decode cX12_stands 20 = .ok (.iconst 1, 1) := dk_4 (dw rcX12_stands_0 11 rfl)
theorem dX12_stands_21 : decode cX12_stands 21 = .ok (.goto 4, 3) := dk_167 (dw rcX12_stands_0 12 rfl) rfl
theorem dX12_stands_24 : decode cX12_stands 24 = .ok (.iconst 0, 1) := dk_3 (dw rcX12_stands_0 13 rfl)
theorem dX12_stands_25 : decode cX12_stands 25 = .ok (.invokestatic 348, 3) := dk_184 (dw rcX12_stands_0 14 rfl) rfl
theorem dX12_stands_28 : decode cX12_stands 28 = .ok (.ireturn, 1) := dk_172 (dw rcX12_stands_0 15 rfl)
set_option maxHeartbeats 4000000 in
set_option maxRecDepth 100000 in
theorem n_stands1 (l : Launch) (D : va_G) (k : KT) (A : Nat → Prop) (a : Nat → Nat) (z : SK) (G : GS) (p0 : Int32)  : Met l yX12_doesStand (WS yX12_doesStand cX12_doesStand 2 (some .boolean)) ({ frames := 0, cells := 0, slots := 0, locals := 0 }) (va_Pc [.ref (a 66), .int p0] (cW D k A a z G)) (va_Qi (fun (r : Int32) (G1 : GS) => Q_stands1 p0 G r G1) (fun (G1 : GS) t => Wd D k A a G1 t.heap) A) 0 0 A := by
  refine Met.ofW (cc := cX12_doesStand) (maxL := 2) (ret := (some .boolean)) (by decide) rfl ?_
  intro p e s m args below meth c s₁ B hml hv
  obtain ⟨rfl, hW, hB_G, hK, hZ⟩ := hv
  have hx := B.exec
  have hb := B.bytes
  have hr := B.returns
  have hts := atoms_spec (ws := WS yX12_doesStand cX12_doesStand 2 (some .boolean)) B.pre
  have hgd : ∀ w ∈ gd, w ∈ WS yX12_doesStand cX12_doesStand 2 (some .boolean) := fun w h => List.mem_cons_of_mem _ h
  have hg : ∀ w ∈ gd, w.before _ s = true := fun w h => hts w (hgd w h)
  have hown : s.vm.findClass RX12 = some m.cls := findClass_of_methodNamed B.named
  have hS : va_S A s.heap s.heap [] := va_S.rf
  have hF : Fr [] [] G G := Fr.rf
  have hl := lv_entry ([.ref (a 66), .int p0]) (n := 2) (Nat.le_of_ble_eq_true rfl)
  rw [lg_entry_eq]
  generalize (lg_sl ([.ref (a 66), .int p0]) ++ List.replicate (2 - (lg_sl ([.ref (a 66), .int p0])).length) Slot.unset).toArray = ls at hl ⊢
  have hl : lv_has ls 2 [(0, .ref (a 66)), (1, .int p0)] := hl
  refine lv_iload_n hx hb dX12_doesStand_0 rfl (lv_at hl 1 rfl) ?_
  refine lv_if_lt (tgt := 21) hx hb dX12_doesStand_1 rfl (fun c_1 => ?_) (fun c_1 => ?_)
  · have c_1 : p0.toInt < 0 := xI_lt rfl rfl c_1
    refine ic_0 hx hb dX12_doesStand_21 ?_
    have b_2 : 0 ≤ (G.1 66 59).toInt ∧ (G.1 66 59).toInt ≤ 400 := bd_66_59 hB_G
    have b_3 : 0 ≤ (G.1 66 60).toInt ∧ (G.1 66 60).toInt ≤ 12 := bd_66_60 hB_G
    exact W.zret (v := 0) hx hb hr (by decide) (fun t ht _ => ⟨⟨0, G, rfl, (Q_stands1_mk ⟨hB_G, hF, ⟨by decide, by decide⟩, (by have hq : (0 : Int32).toInt = 0 := rfl; (try dsimp only); omega), (Or.inl ⟨c_1, ⟨rfl, rfl⟩⟩)⟩), wd_t ht hW⟩, hS.F ht⟩) hS.2.2 dX12_doesStand_22
  · have c_1 : 0 ≤ p0.toInt := xI_nlt rfl rfl c_1
    refine lv_iload_n hx hb dX12_doesStand_4 rfl (lv_at hl 1 rfl) ?_
    refine lv_aload_n hx hb dX12_doesStand_5 rfl (lv_at hl 0 rfl) ?_
    have b_4 : 0 ≤ (G.1 66 59).toInt ∧ (G.1 66 59).toInt ≤ 400 := bd_66_59 hB_G
    refine S_getI (v := (G.1 66 59)) (C := RX12) (T := TX12) (N := 89) hx hb hg iX12 hown hK hW kd_66 rfl 59 (lt_b rfl) (hg (Cond.fieldLink RX12 469 "SlabWalkModel" "inchesOf" "I") m1373) (fun _ h9 => h9) rfl rfl dX12_doesStand_6 ?_
    refine lv_aload_n hx hb dX12_doesStand_9 rfl (lv_at hl 0 rfl) ?_
    have b_5 : 0 ≤ (G.1 66 60).toInt ∧ (G.1 66 60).toInt ≤ 12 := bd_66_60 hB_G
    refine S_getI (v := (G.1 66 60)) (C := RX12) (T := TX12) (N := 89) hx hb hg iX12 hown hK hW kd_66 rfl 60 (lt_b rfl) (hg (Cond.fieldLink RX12 472 "SlabWalkModel" "foot" "I") m1374) (fun _ h9 => h9) rfl rfl dX12_doesStand_10 ?_
    refine lv_isub hx hb dX12_doesStand_13 ?_
    refine lv_topi (fun y_6 ey_6 => ?_)
    have ty_6 : y_6.toInt = (G.1 66 59).toInt - (G.1 66 60).toInt := xI_sub rfl rfl ey_6 (by omega) (by omega)
    refine lv_icmp_gt (tgt := 21) hx hb dX12_doesStand_14 rfl (fun c_7 => ?_) (fun c_7 => ?_)
    · have c_7 : y_6.toInt < p0.toInt := xI_lt rfl rfl c_7
      refine ic_0 hx hb dX12_doesStand_21 ?_
      exact W.zret (v := 0) hx hb hr (by decide) (fun t ht _ => ⟨⟨0, G, rfl, (Q_stands1_mk ⟨hB_G, hF, ⟨by decide, by decide⟩, (by have hq : (0 : Int32).toInt = 0 := rfl; (try dsimp only); omega), (Or.inr ⟨c_1, ⟨y_6, ty_6, (Or.inl ⟨c_7, ⟨rfl, rfl⟩⟩)⟩⟩)⟩), wd_t ht hW⟩, hS.F ht⟩) hS.2.2 dX12_doesStand_22
    · have c_7 : p0.toInt ≤ y_6.toInt := xI_nlt rfl rfl c_7
      refine ic_1 hx hb dX12_doesStand_17 ?_
      refine lv_goto (tgt := 22) hx hb dX12_doesStand_18 rfl ?_
      exact W.zret (v := 1) hx hb hr (by decide) (fun t ht _ => ⟨⟨1, G, rfl, (Q_stands1_mk ⟨hB_G, hF, ⟨by decide, by decide⟩, (by have hq : (1 : Int32).toInt = 1 := rfl; (try dsimp only); omega), (Or.inr ⟨c_1, ⟨y_6, ty_6, (Or.inr ⟨c_7, ⟨rfl, rfl⟩⟩)⟩⟩)⟩), wd_t ht hW⟩, hS.F ht⟩) hS.2.2 dX12_doesStand_22

set_option maxHeartbeats 4000000 in
set_option maxRecDepth 100000 in
theorem n_isEnd (l : Launch) (D : va_G) (k : KT) (A : Nat → Prop) (a : Nat → Nat) (z : SK) (G : GS) (p0 : Int32) (ha_p0 : -500 ≤ p0.toInt ∧ p0.toInt ≤ 500) : Met l yX12_isEnd (WS yX12_isEnd cX12_isEnd 2 (some .boolean)) ({ frames := 1, cells := 0, slots := 0, locals := 21 }) (va_Pc [.ref (a 66), .int p0] (cW D k A a z G)) (va_Qi (fun (r : Int32) (G1 : GS) => Q_isEnd p0 G r G1) (fun (G1 : GS) t => Wd D k A a G1 t.heap) A) 0 0 A := by
  refine Met.ofW (cc := cX12_isEnd) (maxL := 2) (ret := (some .boolean)) (by decide) rfl ?_
  intro p e s m args below meth c s₁ B hml hv
  obtain ⟨rfl, hW, hB_G, hK, hZ⟩ := hv
  have hx := B.exec
  have hb := B.bytes
  have hr := B.returns
  have hts := atoms_spec (ws := WS yX12_isEnd cX12_isEnd 2 (some .boolean)) B.pre
  have hgd : ∀ w ∈ gd, w ∈ WS yX12_isEnd cX12_isEnd 2 (some .boolean) := fun w h => List.mem_cons_of_mem _ h
  have hg : ∀ w ∈ gd, w.before _ s = true := fun w h => hts w (hgd w h)
  have hown : s.vm.findClass RX12 = some m.cls := findClass_of_methodNamed B.named
  have hS : va_S A s.heap s.heap [] := va_S.rf
  have hF : Fr [] [] G G := Fr.rf
  have hl := lv_entry ([.ref (a 66), .int p0]) (n := 2) (Nat.le_of_ble_eq_true rfl)
  rw [lg_entry_eq]
  generalize (lg_sl ([.ref (a 66), .int p0]) ++ List.replicate (2 - (lg_sl ([.ref (a 66), .int p0])).length) Slot.unset).toArray = ls at hl ⊢
  have hl : lv_has ls 2 [(0, .ref (a 66)), (1, .int p0)] := hl
  refine lv_aload_n hx hb dX12_isEnd_0 rfl (lv_at hl 0 rfl) ?_
  refine lv_iload_n hx hb dX12_isEnd_1 rfl (lv_at hl 1 rfl) ?_
  refine lv_aload_n hx hb dX12_isEnd_2 rfl (lv_at hl 0 rfl) ?_
  have b_1 : 0 ≤ (G.1 66 62).toInt ∧ (G.1 66 62).toInt ≤ 60 := bd_66_62 hB_G
  refine S_getI (v := (G.1 66 62)) (C := RX12) (T := TX12) (N := 89) hx hb hg iX12 hown hK hW kd_66 rfl 62 (lt_b rfl) (hg (Cond.fieldLink RX12 478 "SlabWalkModel" "most" "I") m1376) (fun _ h9 => h9) rfl rfl dX12_isEnd_3 ?_
  refine lv_iadd hx hb dX12_isEnd_6 ?_
  refine lv_topi (fun y_2 ey_2 => ?_)
  have ty_2 : y_2.toInt = p0.toInt + (G.1 66 62).toInt := xI_add rfl rfl ey_2 (by omega) (by omega)
  refine S_calli (va_runV (As := [.int y_2]) (rest := []) ⟨hx, hb, hml, hown, hts⟩ (n_stands1 l D k A a z G y_2 ) (cwV 1 hts (gd_V hgd m1838 m1840 m92 m131 m1841) rfl rfl rfl hd_X12_doesStand ⟨Nat.le_of_ble_eq_true rfl, Nat.le_of_ble_eq_true rfl⟩) (pre_W hW hB_G hK hZ hS kd_66 rfl) rfl rfl hl.1 rfl (lv_room (Nat.le_of_ble_eq_true rfl)) dX12_isEnd_7 ⟨Nat.le_of_ble_eq_true rfl, Nat.le_of_ble_eq_true rfl⟩) hS (fun r_3 G_4 H locs hpo hW hS => ?_)
  have hX_7 : Q_stands1 y_2 G r_3 G_4 := hpo
  obtain ⟨hB_G_4, hq_5, f_8, ⟨d_1, d_2⟩, -⟩ := hpo
  have hF := hF.call9 hq_5 rfl rfl
  refine lv_if_ne (tgt := 17) hx hb dX12_isEnd_10 rfl (fun c_9 => ?_) (fun c_9 => ?_)
  · have c_9 : r_3.toInt ≠ 0 := xI_ne rfl rfl c_9
    refine ic_0 hx hb dX12_isEnd_17 ?_
    exact W.zret (v := 0) hx hb hr (by decide) (fun t ht _ => ⟨⟨0, G_4, rfl, (Q_isEnd_mk ⟨hB_G_4, hF, ⟨by decide, by decide⟩, (by have hq : (0 : Int32).toInt = 0 := rfl; (try dsimp only); omega), ⟨y_2, ty_2, ⟨r_3, G_4, hX_7, (Or.inr ⟨c_9, ⟨rfl, rfl⟩⟩)⟩⟩⟩), wd_t ht hW⟩, hS.F ht⟩) hS.2.2 dX12_isEnd_18
  · have c_9 : r_3.toInt = 0 := xI_eq rfl rfl c_9
    refine ic_1 hx hb dX12_isEnd_13 ?_
    refine lv_goto (tgt := 18) hx hb dX12_isEnd_14 rfl ?_
    exact W.zret (v := 1) hx hb hr (by decide) (fun t ht _ => ⟨⟨1, G_4, rfl, (Q_isEnd_mk ⟨hB_G_4, hF, ⟨by decide, by decide⟩, (by have hq : (1 : Int32).toInt = 1 := rfl; (try dsimp only); omega), ⟨y_2, ty_2, ⟨r_3, G_4, hX_7, (Or.inl ⟨c_9, ⟨rfl, rfl⟩⟩)⟩⟩⟩), wd_t ht hW⟩, hS.F ht⟩) hS.2.2 dX12_isEnd_18

set_option maxHeartbeats 4000000 in
set_option maxRecDepth 100000 in
theorem n_isAsked (l : Launch) (D : va_G) (k : KT) (A : Nat → Prop) (a : Nat → Nat) (z : SK) (G : GS) (p0 : Int32) (p1 : Int32) (p2 : Int32)  : Met l yX12_isAsked (WS yX12_isAsked cX12_isAsked 4 (some .boolean)) ({ frames := 2, cells := 0, slots := 0, locals := 43 }) (va_Pc [.ref (a 66), .int p0, .int p1, .int p2] (cW D k A a z G)) (va_Qi (fun (r : Int32) (G1 : GS) => Q_isAsked p0 p1 p2 G r G1) (fun (G1 : GS) t => Wd D k A a G1 t.heap) A) 0 0 A := by
  refine Met.ofW (cc := cX12_isAsked) (maxL := 4) (ret := (some .boolean)) (by decide) rfl ?_
  intro p e s m args below meth c s₁ B hml hv
  obtain ⟨rfl, hW, hB_G, hK, hZ⟩ := hv
  have hx := B.exec
  have hb := B.bytes
  have hr := B.returns
  have hts := atoms_spec (ws := WS yX12_isAsked cX12_isAsked 4 (some .boolean)) B.pre
  have hgd : ∀ w ∈ gd, w ∈ WS yX12_isAsked cX12_isAsked 4 (some .boolean) := fun w h => List.mem_cons_of_mem _ h
  have hg : ∀ w ∈ gd, w.before _ s = true := fun w h => hts w (hgd w h)
  have hown : s.vm.findClass RX12 = some m.cls := findClass_of_methodNamed B.named
  have hS : va_S A s.heap s.heap [] := va_S.rf
  have hF : Fr [] [] G G := Fr.rf
  have hl := lv_entry ([.ref (a 66), .int p0, .int p1, .int p2]) (n := 4) (Nat.le_of_ble_eq_true rfl)
  rw [lg_entry_eq]
  generalize (lg_sl ([.ref (a 66), .int p0, .int p1, .int p2]) ++ List.replicate (4 - (lg_sl ([.ref (a 66), .int p0, .int p1, .int p2])).length) Slot.unset).toArray = ls at hl ⊢
  have hl : lv_has ls 4 [(0, .ref (a 66)), (1, .int p0), (2, .int p1), (3, .int p2)] := hl
  refine lv_aload_n hx hb dX12_isAsked_0 rfl (lv_at hl 0 rfl) ?_
  refine lv_iload_n hx hb dX12_isAsked_1 rfl (lv_at hl 1 rfl) ?_
  refine S_calli (va_runV (As := [.int p0]) (rest := []) ⟨hx, hb, hml, hown, hts⟩ (n_isWalker l D k A a z G p0 ) (cwV 1 hts (gd_V hgd m1830 m1832 m90 m131 m1833) rfl rfl rfl hd_X12_isWalker ⟨Nat.le_of_ble_eq_true rfl, Nat.le_of_ble_eq_true rfl⟩) (pre_W hW hB_G hK hZ hS kd_66 rfl) rfl rfl hl.1 rfl (lv_room (Nat.le_of_ble_eq_true rfl)) dX12_isAsked_2 ⟨Nat.le_of_ble_eq_true rfl, Nat.le_of_ble_eq_true rfl⟩) hS (fun r_1 G_2 H locs hpo hW hS => ?_)
  have hX_5 : Q_isWalker p0 G r_1 G_2 := hpo
  obtain ⟨hB_G_2, hq_3, f_6, hp_4, -⟩ := hpo
  have hF := hF.call9 hq_3 rfl rfl
  refine lv_if_eq (tgt := 28) hx hb dX12_isAsked_5 rfl (fun c_7 => ?_) (fun c_7 => ?_)
  · have c_7 : r_1.toInt = 0 := xI_eq rfl rfl c_7
    refine ic_0 hx hb dX12_isAsked_28 ?_
    exact W.zret (v := 0) hx hb hr (by decide) (fun t ht _ => ⟨⟨0, G_2, rfl, (Q_isAsked_mk ⟨hB_G_2, hF, ⟨by decide, by decide⟩, (by have hq : (0 : Int32).toInt = 0 := rfl; (try dsimp only); omega), ⟨r_1, G_2, hX_5, (Or.inl ⟨c_7, ⟨rfl, rfl⟩⟩)⟩⟩), wd_t ht hW⟩, hS.F ht⟩) hS.2.2 dX12_isAsked_29
  · have c_7 : r_1.toInt ≠ 0 := xI_ne rfl rfl c_7
    refine lv_aload_n hx hb dX12_isAsked_8 rfl (lv_at hl 0 rfl) ?_
    refine lv_iload_n hx hb dX12_isAsked_9 rfl (lv_at hl 2 rfl) ?_
    have b_8 : 0 ≤ (G.1 66 52).toInt ∧ (G.1 66 52).toInt ≤ 3 := bd_66_52 hB_G
    have g_9 : (G_2.1 66 52).toInt = (G.1 66 52).toInt := (congrArg Int32.toInt (show G_2.1 66 52 = (G.1 66 52) from (hq_3.i9 66 52 rfl rfl)))
    refine S_calli (va_runV (As := [.int p1]) (rest := []) ⟨hx, hb, hml, hown, hts⟩ (n_isStreet l D k A a z G_2 p1 ) (cwV 1 hts (gd_V hgd m1777 m1779 m83 m131 m1780) rfl rfl rfl hd_X12_isStreet ⟨Nat.le_of_ble_eq_true rfl, Nat.le_of_ble_eq_true rfl⟩) (pre_W hW hB_G_2 hK hZ hS kd_66 rfl) rfl rfl hl.1 rfl (lv_room (Nat.le_of_ble_eq_true rfl)) dX12_isAsked_10 ⟨Nat.le_of_ble_eq_true rfl, Nat.le_of_ble_eq_true rfl⟩) hS (fun r_10 G_11 H locs hpo hW hS => ?_)
    have hX_14 : Q_isStreet p1 G_2 r_10 G_11 := hpo
    obtain ⟨hB_G_11, hq_12, f_15, hp_13, -⟩ := hpo
    have hF := hF.call9 hq_12 rfl rfl
    refine lv_if_eq (tgt := 28) hx hb dX12_isAsked_13 rfl (fun c_16 => ?_) (fun c_16 => ?_)
    · have c_16 : r_10.toInt = 0 := xI_eq rfl rfl c_16
      refine ic_0 hx hb dX12_isAsked_28 ?_
      exact W.zret (v := 0) hx hb hr (by decide) (fun t ht _ => ⟨⟨0, G_11, rfl, (Q_isAsked_mk ⟨hB_G_11, hF, ⟨by decide, by decide⟩, (by have hq : (0 : Int32).toInt = 0 := rfl; (try dsimp only); omega), ⟨r_1, G_2, hX_5, (Or.inr ⟨c_7, ⟨r_10, G_11, hX_14, (Or.inl ⟨c_16, ⟨rfl, rfl⟩⟩)⟩⟩)⟩⟩), wd_t ht hW⟩, hS.F ht⟩) hS.2.2 dX12_isAsked_29
    · have c_16 : r_10.toInt ≠ 0 := xI_ne rfl rfl c_16
      refine lv_aload_n hx hb dX12_isAsked_16 rfl (lv_at hl 0 rfl) ?_
      refine lv_iload_n hx hb dX12_isAsked_17 rfl (lv_at hl 3 rfl) ?_
      refine S_calli (va_runV (As := [.int p2]) (rest := []) ⟨hx, hb, hml, hown, hts⟩ (n_areRules l D k A a z G_11 p2 ) (cwV 1 hts (gd_V hgd m1799 m1801 m85 m131 m1802) rfl rfl rfl hd_X12_areRules ⟨Nat.le_of_ble_eq_true rfl, Nat.le_of_ble_eq_true rfl⟩) (pre_W hW hB_G_11 hK hZ hS kd_66 rfl) rfl rfl hl.1 rfl (lv_room (Nat.le_of_ble_eq_true rfl)) dX12_isAsked_18 ⟨Nat.le_of_ble_eq_true rfl, Nat.le_of_ble_eq_true rfl⟩) hS (fun r_17 G_18 H locs hpo hW hS => ?_)
      have hX_21 : Q_areRules p2 G_11 r_17 G_18 := hpo
      obtain ⟨hB_G_18, hq_19, f_22, hp_20, -⟩ := hpo
      have hF := hF.call9 hq_19 rfl rfl
      refine lv_if_eq (tgt := 28) hx hb dX12_isAsked_21 rfl (fun c_23 => ?_) (fun c_23 => ?_)
      · have c_23 : r_17.toInt = 0 := xI_eq rfl rfl c_23
        refine ic_0 hx hb dX12_isAsked_28 ?_
        exact W.zret (v := 0) hx hb hr (by decide) (fun t ht _ => ⟨⟨0, G_18, rfl, (Q_isAsked_mk ⟨hB_G_18, hF, ⟨by decide, by decide⟩, (by have hq : (0 : Int32).toInt = 0 := rfl; (try dsimp only); omega), ⟨r_1, G_2, hX_5, (Or.inr ⟨c_7, ⟨r_10, G_11, hX_14, (Or.inr ⟨c_16, ⟨r_17, G_18, hX_21, (Or.inl ⟨c_23, ⟨rfl, rfl⟩⟩)⟩⟩)⟩⟩)⟩⟩), wd_t ht hW⟩, hS.F ht⟩) hS.2.2 dX12_isAsked_29
      · have c_23 : r_17.toInt ≠ 0 := xI_ne rfl rfl c_23
        refine ic_1 hx hb dX12_isAsked_24 ?_
        refine lv_goto (tgt := 29) hx hb dX12_isAsked_25 rfl ?_
        exact W.zret (v := 1) hx hb hr (by decide) (fun t ht _ => ⟨⟨1, G_18, rfl, (Q_isAsked_mk ⟨hB_G_18, hF, ⟨by decide, by decide⟩, (by have hq : (1 : Int32).toInt = 1 := rfl; (try dsimp only); omega), ⟨r_1, G_2, hX_5, (Or.inr ⟨c_7, ⟨r_10, G_11, hX_14, (Or.inr ⟨c_16, ⟨r_17, G_18, hX_21, (Or.inr ⟨c_23, ⟨rfl, rfl⟩⟩)⟩⟩)⟩⟩)⟩⟩), wd_t ht hW⟩, hS.F ht⟩) hS.2.2 dX12_isAsked_29

set_option maxHeartbeats 4000000 in
set_option maxRecDepth 100000 in
theorem n_needOf (l : Launch) (D : va_G) (k : KT) (A : Nat → Prop) (a : Nat → Nat) (z : SK) (G : GS) (p0 : Int32) (p1 : Int32) (p2 : Int32) (ha_p0 : 0 ≤ p0.toInt ∧ p0.toInt ≤ 399) (ha_p1 : 0 ≤ p1.toInt ∧ p1.toInt ≤ 1) (ha_p2 : 0 ≤ p2.toInt ∧ p2.toInt ≤ 2) : Met l yX12_needOf (WS yX12_needOf cX12_needOf 4 (some .int)) ({ frames := 0, cells := 0, slots := 0, locals := 0 }) (va_Pc [.ref (a 66), .int p0, .int p1, .int p2] (cW D k A a z G)) (va_Qi (fun (r : Int32) (G1 : GS) => Q_needOf p0 p1 p2 G r G1) (fun (G1 : GS) t => Wd D k A a G1 t.heap) A) 0 0 A := by
  refine Met.ofW (cc := cX12_needOf) (maxL := 4) (ret := (some .int)) (by decide) rfl ?_
  intro p e s m args below meth c s₁ B hml hv
  obtain ⟨rfl, hW, hB_G, hK, hZ⟩ := hv
  have hx := B.exec
  have hb := B.bytes
  have hr := B.returns
  have hts := atoms_spec (ws := WS yX12_needOf cX12_needOf 4 (some .int)) B.pre
  have hgd : ∀ w ∈ gd, w ∈ WS yX12_needOf cX12_needOf 4 (some .int) := fun w h => List.mem_cons_of_mem _ h
  have hg : ∀ w ∈ gd, w.before _ s = true := fun w h => hts w (hgd w h)
  have hown : s.vm.findClass RX12 = some m.cls := findClass_of_methodNamed B.named
  have hS : va_S A s.heap s.heap [] := va_S.rf
  have hF : Fr [] [] G G := Fr.rf
  have hl := lv_entry ([.ref (a 66), .int p0, .int p1, .int p2]) (n := 4) (Nat.le_of_ble_eq_true rfl)
  rw [lg_entry_eq]
  generalize (lg_sl ([.ref (a 66), .int p0, .int p1, .int p2]) ++ List.replicate (4 - (lg_sl ([.ref (a 66), .int p0, .int p1, .int p2])).length) Slot.unset).toArray = ls at hl ⊢
  have hl : lv_has ls 4 [(0, .ref (a 66)), (1, .int p0), (2, .int p1), (3, .int p2)] := hl
  refine lv_aload_n hx hb dX12_needOf_0 rfl (lv_at hl 0 rfl) ?_
  refine S_getR (n := 99) (C := RX12) (T := TX12) (N := 89) hx hb hg iX12 hown hK hW kd_66 rfl 64 (lt_b rfl) (hg (Cond.fieldLink RX12 118 "SlabWalkModel" "need" "[I") m1378) (fun _ h9 => h9) rfl dX12_needOf_1 ?_
  refine ic_3 hx hb dX12_needOf_4 ?_
  refine ic_2 hx hb dX12_needOf_5 ?_
  refine lv_iload_n hx hb dX12_needOf_6 rfl (lv_at hl 1 rfl) ?_
  refine lv_imul hx hb dX12_needOf_7 ?_
  refine lv_topi (fun y_1 ey_1 => ?_)
  have ty_1 : y_1.toInt = 2 * p0.toInt := xI_mul rfl rfl ey_1 (by omega) (by omega)
  refine lv_iload_n hx hb dX12_needOf_8 rfl (lv_at hl 2 rfl) ?_
  refine lv_iadd hx hb dX12_needOf_9 ?_
  refine lv_topi (fun y_2 ey_2 => ?_)
  have ty_2 : y_2.toInt = y_1.toInt + p1.toInt := xI_add rfl rfl ey_2 (by omega) (by omega)
  refine lv_imul hx hb dX12_needOf_10 ?_
  refine lv_topi (fun y_3 ey_3 => ?_)
  have ty_3 : y_3.toInt = 3 * y_2.toInt := xI_mul rfl rfl ey_3 (by omega) (by omega)
  refine lv_iload_n hx hb dX12_needOf_11 rfl (lv_at hl 3 rfl) ?_
  refine lv_iadd hx hb dX12_needOf_12 ?_
  refine lv_topi (fun y_4 ey_4 => ?_)
  have ty_4 : y_4.toInt = y_3.toInt + p2.toInt := xI_add rfl rfl ey_4 (by omega) (by omega)
  refine S_iald hx hb hK hW kd_99 (vin (by omega) (by omega)) dX12_needOf_13 (fun y_5 ey_5 => ?_)
  have ty_5 : 0 ≤ y_5.toInt ∧ y_5.toInt ≤ 100000 := bv_99 hB_G ey_5
  have u_6 : y_5.toInt = (G.1 99 y_4.toNatClampNeg).toInt := congrArg Int32.toInt (ey_5)
  exact W.iret (v := y_5) hx hb hr (fun t ht _ => ⟨⟨y_5, G, rfl, (Q_needOf_mk ⟨hB_G, hF, ⟨by omega, by omega⟩, (ndv_at (x := y_4) (by omega) (by omega)), ⟨y_1, ty_1, ⟨y_2, ty_2, ⟨y_3, ty_3, ⟨y_4, ty_4, ⟨y_5, ey_5, ⟨rfl, rfl⟩⟩⟩⟩⟩⟩⟩), wd_t ht hW⟩, hS.F ht⟩) hS.2.2 dX12_needOf_14

set_option maxHeartbeats 4000000 in
set_option maxRecDepth 100000 in
theorem n_lay (l : Launch) (D : va_G) (k : KT) (A : Nat → Prop) (a : Nat → Nat) (z : SK) (G : GS) (p0 : Int32) (hq : (G.1 66 66).toInt < 400) : Met l yX12_lay (WS yX12_lay cX12_lay 2 none) ({ frames := 0, cells := 0, slots := 0, locals := 0 }) (va_Pc [.ref (a 66), .int p0] (cW D k A a z G)) (va_Qv (fun (G1 : GS) => Q_lay p0 G G1) (fun (G1 : GS) t => Wd D k A a G1 t.heap) A) 0 0 A := by
  refine Met.ofW (cc := cX12_lay) (maxL := 2) (ret := none) (by decide) rfl ?_
  intro p e s m args below meth c s₁ B hml hv
  obtain ⟨rfl, hW, hB_G, hK, hZ⟩ := hv
  have hx := B.exec
  have hb := B.bytes
  have hr := B.returns
  have hts := atoms_spec (ws := WS yX12_lay cX12_lay 2 none) B.pre
  have hgd : ∀ w ∈ gd, w ∈ WS yX12_lay cX12_lay 2 none := fun w h => List.mem_cons_of_mem _ h
  have hg : ∀ w ∈ gd, w.before _ s = true := fun w h => hts w (hgd w h)
  have hown : s.vm.findClass RX12 = some m.cls := findClass_of_methodNamed B.named
  have hS : va_S A s.heap s.heap [] := va_S.rf
  have hF : Fr [100] [(66, 66)] G G := Fr.rf
  have hl := lv_entry ([.ref (a 66), .int p0]) (n := 2) (Nat.le_of_ble_eq_true rfl)
  rw [lg_entry_eq]
  generalize (lg_sl ([.ref (a 66), .int p0]) ++ List.replicate (2 - (lg_sl ([.ref (a 66), .int p0])).length) Slot.unset).toArray = ls at hl ⊢
  have hl : lv_has ls 2 [(0, .ref (a 66)), (1, .int p0)] := hl
  refine lv_aload_n hx hb dX12_lay_0 rfl (lv_at hl 0 rfl) ?_
  refine S_getR (n := 100) (C := RX12) (T := TX12) (N := 89) hx hb hg iX12 hown hK hW kd_66 rfl 65 (lt_b rfl) (hg (Cond.fieldLink RX12 121 "SlabWalkModel" "lies" "[I") m1379) (fun _ h9 => h9) rfl dX12_lay_1 ?_
  refine lv_aload_n hx hb dX12_lay_4 rfl (lv_at hl 0 rfl) ?_
  have b_1 : 0 ≤ (G.1 66 66).toInt ∧ (G.1 66 66).toInt ≤ 400 := bd_66_66 hB_G
  refine S_getI (v := (G.1 66 66)) (C := RX12) (T := TX12) (N := 89) hx hb hg iX12 hown hK hW kd_66 rfl 66 (lt_b rfl) (hg (Cond.fieldLink RX12 446 "SlabWalkModel" "lain" "I") m1380) (fun _ h9 => h9) rfl rfl dX12_lay_5 ?_
  refine lv_iload_n hx hb dX12_lay_8 rfl (lv_at hl 1 rfl) ?_
  refine S_iast hx hb hK hW hS kd_100 (vin (by omega) (by omega)) dX12_lay_9 (fun G_2 H locs eG_2 hW hS => ?_)
  have hB_G_2 : Bd G_2 := hB_G.put (lo := (-2147483648)) (hi := 2147483647) eG_2 rfl rfl rfl (tI_rng _).1 (tI_rng _).2 (hB_G.2.put eG_2 rfl)
  have hF := hF.put eG_2 (Or.inl (by decide))
  refine lv_aload_n hx hb dX12_lay_10 rfl (lv_at hl 0 rfl) ?_
  refine lv_dup hx hb dX12_lay_11 rfl ?_
  refine S_getI (v := (G.1 66 66)) (C := RX12) (T := TX12) (N := 89) hx hb hg iX12 hown hK hW kd_66 rfl 66 (lt_b rfl) (hg (Cond.fieldLink RX12 446 "SlabWalkModel" "lain" "I") m1380) (fun _ h9 => h9) rfl ((gp_ne eG_2 (fun q => absurd q.1 (Nat.ne_of_beq_eq_false rfl))).trans (rfl)) dX12_lay_12 ?_
  refine ic_1 hx hb dX12_lay_15 ?_
  refine lv_iadd hx hb dX12_lay_16 ?_
  refine lv_topi (fun y_3 ey_3 => ?_)
  have ty_3 : y_3.toInt = (G.1 66 66).toInt + 1 := xI_add rfl rfl ey_3 (by omega) (by omega)
  refine S_putI (ty := .int) (C := RX12) (T := TX12) (N := 89) hx hb hg iX12 tyX12 tyX12_ok nmX12 hown hK hW hS kd_66 rfl 66 (lt_b rfl) (hg (Cond.fieldLink RX12 446 "SlabWalkModel" "lain" "I") m1380) (fun _ h9 => h9) rfl (by decide +kernel) rfl rfl rfl dX12_lay_17 (fun G_4 H locs eG_4 hW hS => ?_)
  have hB_G_4 : Bd G_4 := hB_G_2.put (V := y_3.toInt) (lo := 0) (hi := 400) eG_4 rfl rfl rfl (by omega) (by omega) (hB_G_2.2.put eG_4 rfl)
  have hF := hF.put eG_4 (Or.inr (by decide))
  have g_5 : (G_4.1 66 66).toInt = y_3.toInt := (congrArg Int32.toInt (show G_4.1 66 66 = y_3 from (gp_eq eG_4)))
  exact W.vret hx hb hr (fun t ht _ => ⟨⟨G_4, rfl, (Q_lay_mk ⟨hB_G_4, hF, (by omega), ⟨y_3, ty_3, ⟨(Fr.put (rs := [100]) (fs := [(66, 66)]) (Fr.put (rs := [100]) (fs := [(66, 66)]) Fr.rf eG_2 (Or.inl (by decide))) eG_4 (Or.inr (by decide))), (gp_eq eG_4), (rw_put eG_4 (by decide)).trans (rw_ast eG_2)⟩⟩⟩), wd_t ht hW⟩, hS.F ht⟩) hS.2.2 dX12_lay_20

set_option maxHeartbeats 4000000 in
set_option maxRecDepth 100000 in
theorem n_capped (l : Launch) (D : va_G) (k : KT) (A : Nat → Prop) (a : Nat → Nat) (z : SK) (G : GS) (p0 : Int64)  : Met l yX12_capped (WS yX12_capped cX12_capped 2 (some .long)) ({ frames := 0, cells := 0, slots := 0, locals := 0 }) (va_Pc [.long p0] (cW D k A a z G)) (va_Ql (fun (r : Int64) (G1 : GS) => Q_capped p0 G r G1) (fun (G1 : GS) t => Wd D k A a G1 t.heap) A) 0 0 A := by
  refine Met.ofW (cc := cX12_capped) (maxL := 2) (ret := (some .long)) (by decide) rfl ?_
  intro p e s m args below meth c s₁ B hml hv
  obtain ⟨rfl, hW, hB_G, hK, hZ⟩ := hv
  have hx := B.exec
  have hb := B.bytes
  have hr := B.returns
  have hts := atoms_spec (ws := WS yX12_capped cX12_capped 2 (some .long)) B.pre
  have hgd : ∀ w ∈ gd, w ∈ WS yX12_capped cX12_capped 2 (some .long) := fun w h => List.mem_cons_of_mem _ h
  have hg : ∀ w ∈ gd, w.before _ s = true := fun w h => hts w (hgd w h)
  have hown : s.vm.findClass RX12 = some m.cls := findClass_of_methodNamed B.named
  have hS : va_S A s.heap s.heap [] := va_S.rf
  have hF : Fr [] [] G G := Fr.rf
  have hl := lv_entry ([.long p0]) (n := 2) (Nat.le_of_ble_eq_true rfl)
  rw [lg_entry_eq]
  generalize (lg_sl ([.long p0]) ++ List.replicate (2 - (lg_sl ([.long p0])).length) Slot.unset).toArray = ls at hl ⊢
  have hl : lv_has ls 2 [(0, .long p0)] := hl
  refine lv_lload_n hx hb dX12_capped_0 rfl (lv_at hl 0 rfl) ?_
  refine lv_ldc2 (v := 1000000000000000) hx hb hown (hg (Cond.constantLong RX12 515 1000000000000000) m1882) dX12_capped_1 ?_
  refine W.lcmp hx hb dX12_capped_4 ?_
  refine lv_topi (fun y_1 ey_1 => ?_)
  have ty_1 := lcmp_rng ey_1
  refine lv_if_le (tgt := 14) hx hb dX12_capped_5 rfl (fun c_2 => ?_) (fun c_2 => ?_)
  · have c_2 : y_1.toInt ≤ 0 := xI_le rfl rfl c_2
    refine lv_lload_n hx hb dX12_capped_14 rfl (lv_at hl 0 rfl) ?_
    exact W.lret (v := p0) hx hb hr (fun t ht _ => ⟨⟨p0, G, rfl, (Q_capped_mk ⟨hB_G, hF, ⟨y_1, ey_1, (Or.inl ⟨c_2, ⟨rfl, rfl⟩⟩)⟩⟩), wd_t ht hW⟩, hS.F ht⟩) hS.2.2 dX12_capped_15
  · have c_2 : 0 < y_1.toInt := xI_nle rfl rfl c_2
    refine lv_ldc2 (v := 1000000000000000) hx hb hown (hg (Cond.constantLong RX12 515 1000000000000000) m1882) dX12_capped_8 ?_
    refine lv_goto (tgt := 15) hx hb dX12_capped_11 rfl ?_
    exact W.lret (v := 1000000000000000) hx hb hr (fun t ht _ => ⟨⟨1000000000000000, G, rfl, (Q_capped_mk ⟨hB_G, hF, ⟨y_1, ey_1, (Or.inr ⟨c_2, ⟨rfl, rfl⟩⟩)⟩⟩), wd_t ht hW⟩, hS.F ht⟩) hS.2.2 dX12_capped_15

set_option maxHeartbeats 4000000 in
set_option maxRecDepth 100000 in
theorem n_isHeld (l : Launch) (D : va_G) (k : KT) (A : Nat → Prop) (a : Nat → Nat) (z : SK) (G : GS) (p0 : Int32) (p1 : Int32) (ha_p0 : 0 ≤ p0.toInt ∧ p0.toInt ≤ 600) (ha_p1 : 0 ≤ p1.toInt ∧ p1.toInt ≤ 400) : Met l yX12_isHeld (WS yX12_isHeld cX12_isHeld 3 (some .boolean)) ({ frames := 0, cells := 0, slots := 0, locals := 0 }) (va_Pc [.ref (a 66), .int p0, .int p1] (cW D k A a z G)) (va_Qi (fun (r : Int32) (G1 : GS) => Q_isHeld p0 p1 G r G1) (fun (G1 : GS) t => Wd D k A a G1 t.heap) A) 0 0 A := by
  refine Met.ofW (cc := cX12_isHeld) (maxL := 3) (ret := (some .boolean)) (by decide) rfl ?_
  intro p e s m args below meth c s₁ B hml hv
  obtain ⟨rfl, hW, hB_G, hK, hZ⟩ := hv
  have hx := B.exec
  have hb := B.bytes
  have hr := B.returns
  have hts := atoms_spec (ws := WS yX12_isHeld cX12_isHeld 3 (some .boolean)) B.pre
  have hgd : ∀ w ∈ gd, w ∈ WS yX12_isHeld cX12_isHeld 3 (some .boolean) := fun w h => List.mem_cons_of_mem _ h
  have hg : ∀ w ∈ gd, w.before _ s = true := fun w h => hts w (hgd w h)
  have hown : s.vm.findClass RX12 = some m.cls := findClass_of_methodNamed B.named
  have hS : va_S A s.heap s.heap [] := va_S.rf
  have hF : Fr [] [] G G := Fr.rf
  have hl := lv_entry ([.ref (a 66), .int p0, .int p1]) (n := 3) (Nat.le_of_ble_eq_true rfl)
  rw [lg_entry_eq]
  generalize (lg_sl ([.ref (a 66), .int p0, .int p1]) ++ List.replicate (3 - (lg_sl ([.ref (a 66), .int p0, .int p1])).length) Slot.unset).toArray = ls at hl ⊢
  have hl : lv_has ls 3 [(0, .ref (a 66)), (1, .int p0), (2, .int p1)] := hl
  refine lv_iload_n hx hb dX12_isHeld_0 rfl (lv_at hl 1 rfl) ?_
  refine lv_aload_n hx hb dX12_isHeld_1 rfl (lv_at hl 0 rfl) ?_
  refine S_getI (v := (G.1 66 55)) (C := RX12) (T := TX12) (N := 89) hx hb hg iX12 hown hK hW kd_66 rfl 55 (lt_b rfl) (hg (Cond.fieldLink RX12 105 "SlabWalkModel" "hand" "I") m1369) (fun _ h9 => h9) rfl rfl dX12_isHeld_2 ?_
  refine lv_iload_n hx hb dX12_isHeld_5 rfl (lv_at hl 2 rfl) ?_
  refine lv_imul hx hb dX12_isHeld_6 ?_
  refine lv_topi (fun y_1 ey_1 => ?_)
  refine lv_isub hx hb dX12_isHeld_7 ?_
  refine lv_topi (fun y_2 ey_2 => ?_)
  refine lv_aload_n hx hb dX12_isHeld_8 rfl (lv_at hl 0 rfl) ?_
  refine S_getI (v := (G.1 66 56)) (C := RX12) (T := TX12) (N := 89) hx hb hg iX12 hown hK hW kd_66 rfl 56 (lt_b rfl) (hg (Cond.fieldLink RX12 108 "SlabWalkModel" "slack" "I") m1370) (fun _ h9 => h9) rfl rfl dX12_isHeld_9 ?_
  refine lv_icmp_gt (tgt := 34) hx hb dX12_isHeld_12 rfl (fun c_3 => ?_) (fun c_3 => ?_)
  · have c_3 : (G.1 66 56).toInt < y_2.toInt := xI_lt rfl rfl c_3
    refine ic_0 hx hb dX12_isHeld_34 ?_
    exact W.zret (v := 0) hx hb hr (by decide) (fun t ht _ => ⟨⟨0, G, rfl, (Q_isHeld_mk ⟨hB_G, hF, ⟨by decide, by decide⟩, ⟨y_1, ey_1, ⟨y_2, ey_2, (Or.inl ⟨c_3, ⟨rfl, rfl⟩⟩)⟩⟩⟩), wd_t ht hW⟩, hS.F ht⟩) hS.2.2 dX12_isHeld_35
  · have c_3 : y_2.toInt ≤ (G.1 66 56).toInt := xI_nlt rfl rfl c_3
    refine lv_aload_n hx hb dX12_isHeld_15 rfl (lv_at hl 0 rfl) ?_
    refine S_getI (v := (G.1 66 55)) (C := RX12) (T := TX12) (N := 89) hx hb hg iX12 hown hK hW kd_66 rfl 55 (lt_b rfl) (hg (Cond.fieldLink RX12 105 "SlabWalkModel" "hand" "I") m1369) (fun _ h9 => h9) rfl rfl dX12_isHeld_16 ?_
    refine lv_iload_n hx hb dX12_isHeld_19 rfl (lv_at hl 2 rfl) ?_
    refine lv_imul hx hb dX12_isHeld_20 ?_
    refine lv_topi (fun y_4 ey_4 => ?_)
    refine lv_iload_n hx hb dX12_isHeld_21 rfl (lv_at hl 1 rfl) ?_
    refine lv_isub hx hb dX12_isHeld_22 ?_
    refine lv_topi (fun y_5 ey_5 => ?_)
    refine lv_aload_n hx hb dX12_isHeld_23 rfl (lv_at hl 0 rfl) ?_
    refine S_getI (v := (G.1 66 56)) (C := RX12) (T := TX12) (N := 89) hx hb hg iX12 hown hK hW kd_66 rfl 56 (lt_b rfl) (hg (Cond.fieldLink RX12 108 "SlabWalkModel" "slack" "I") m1370) (fun _ h9 => h9) rfl rfl dX12_isHeld_24 ?_
    refine lv_icmp_gt (tgt := 34) hx hb dX12_isHeld_27 rfl (fun c_6 => ?_) (fun c_6 => ?_)
    · have c_6 : (G.1 66 56).toInt < y_5.toInt := xI_lt rfl rfl c_6
      refine ic_0 hx hb dX12_isHeld_34 ?_
      exact W.zret (v := 0) hx hb hr (by decide) (fun t ht _ => ⟨⟨0, G, rfl, (Q_isHeld_mk ⟨hB_G, hF, ⟨by decide, by decide⟩, ⟨y_1, ey_1, ⟨y_2, ey_2, (Or.inr ⟨c_3, ⟨y_4, ey_4, ⟨y_5, ey_5, (Or.inl ⟨c_6, ⟨rfl, rfl⟩⟩)⟩⟩⟩)⟩⟩⟩), wd_t ht hW⟩, hS.F ht⟩) hS.2.2 dX12_isHeld_35
    · have c_6 : y_5.toInt ≤ (G.1 66 56).toInt := xI_nlt rfl rfl c_6
      refine ic_1 hx hb dX12_isHeld_30 ?_
      refine lv_goto (tgt := 35) hx hb dX12_isHeld_31 rfl ?_
      exact W.zret (v := 1) hx hb hr (by decide) (fun t ht _ => ⟨⟨1, G, rfl, (Q_isHeld_mk ⟨hB_G, hF, ⟨by decide, by decide⟩, ⟨y_1, ey_1, ⟨y_2, ey_2, (Or.inr ⟨c_3, ⟨y_4, ey_4, ⟨y_5, ey_5, (Or.inr ⟨c_6, ⟨rfl, rfl⟩⟩)⟩⟩⟩)⟩⟩⟩), wd_t ht hW⟩, hS.F ht⟩) hS.2.2 dX12_isHeld_35

set_option maxHeartbeats 4000000 in
set_option maxRecDepth 100000 in
theorem n_stands (l : Launch) (D : va_G) (k : KT) (A : Nat → Prop) (a : Nat → Nat) (z : SK) (G : GS) (p0 : Int32) (ha_p0 : 0 ≤ p0.toInt ∧ p0.toInt ≤ 511) : Met l yX12_stands (WS yX12_stands cX12_stands 2 (some .int)) ({ frames := 1, cells := 0, slots := 0, locals := 20 }) (va_Pc [.ref (a 66), .int p0] (cW D k A a z G)) (va_Qi (fun (r : Int32) (G1 : GS) => Q_stands p0 G r G1) (fun (G1 : GS) t => Wd D k A a G1 t.heap) A) 0 0 A := by
  refine Met.ofW (cc := cX12_stands) (maxL := 2) (ret := (some .int)) (by decide) rfl ?_
  intro p e s m args below meth c s₁ B hml hv
  obtain ⟨rfl, hW, hB_G, hK, hZ⟩ := hv
  have hx := B.exec
  have hb := B.bytes
  have hr := B.returns
  have hts := atoms_spec (ws := WS yX12_stands cX12_stands 2 (some .int)) B.pre
  have hgd : ∀ w ∈ gd, w ∈ WS yX12_stands cX12_stands 2 (some .int) := fun w h => List.mem_cons_of_mem _ h
  have hg : ∀ w ∈ gd, w.before _ s = true := fun w h => hts w (hgd w h)
  have hown : s.vm.findClass RX12 = some m.cls := findClass_of_methodNamed B.named
  have hS : va_S A s.heap s.heap [] := va_S.rf
  have hF : Fr [] [] G G := Fr.rf
  have hl := lv_entry ([.ref (a 66), .int p0]) (n := 2) (Nat.le_of_ble_eq_true rfl)
  rw [lg_entry_eq]
  generalize (lg_sl ([.ref (a 66), .int p0]) ++ List.replicate (2 - (lg_sl ([.ref (a 66), .int p0])).length) Slot.unset).toArray = ls at hl ⊢
  have hl : lv_has ls 2 [(0, .ref (a 66)), (1, .int p0)] := hl
  refine lv_aload_n hx hb dX12_stands_0 rfl (lv_at hl 0 rfl) ?_
  refine S_getR (n := 110) (C := RX12) (T := TX12) (N := 89) hx hb hg iX12 hown hK hW kd_66 rfl 76 (lt_b rfl) (hg (Cond.fieldLink RX12 151 "SlabWalkModel" "now" "[I") m1390) (fun _ h9 => h9) rfl dX12_stands_1 ?_
  refine lv_bipush (v := 9) hx hb dX12_stands_4 (by decide) ?_
  refine S_iald hx hb hK hW kd_110 (vin (by decide) (by decide)) dX12_stands_6 (fun y_1 ey_1 => ?_)
  refine ic_1 hx hb dX12_stands_7 ?_
  refine lv_icmp_eq (tgt := 20) hx hb dX12_stands_8 rfl (fun c_2 => ?_) (fun c_2 => ?_)
  · have c_2 : y_1.toInt = 1 := xI_eq rfl rfl c_2
    refine ic_1 hx hb dX12_stands_20 ?_
    refine lv_goto (tgt := 25) hx hb dX12_stands_21 rfl ?_
    have qc_3 : (1 : Int32).toInt = 1 := rfl
    refine S_calli (va_runS (As := [.int 1]) (rest := []) ⟨hx, hb, hml, hown, hts⟩ (n_truth l D k A a z G 1 ⟨by decide, by decide⟩) (va_cwS 1 hts (gd_S hgd m1788 m1789 m131 m1790) rfl rfl rfl hd_X12_truth.2 ⟨Nat.le_of_ble_eq_true rfl, Nat.le_of_ble_eq_true rfl⟩) (pre_S hW hB_G hK hZ hS) rfl rfl hl.1 rfl (lv_room (Nat.le_of_ble_eq_true rfl)) dX12_stands_25 ⟨Nat.le_of_ble_eq_true rfl, Nat.le_of_ble_eq_true rfl⟩) hS (fun r_4 G_5 H locs hpo hW hS => ?_)
    have hX_8 : Q_truth 1 G r_4 G_5 := hpo
    obtain ⟨hB_G_5, hq_6, f_9, hp_7, -⟩ := hpo
    have hF := hF.call9 hq_6 rfl rfl
    exact W.iret (v := r_4) hx hb hr (fun t ht _ => ⟨⟨r_4, G_5, rfl, (Q_stands_mk ⟨hB_G_5, hF, ⟨by omega, by omega⟩, ⟨y_1, ey_1, (Or.inl ⟨c_2, ⟨r_4, G_5, hX_8, ⟨rfl, rfl⟩⟩⟩)⟩⟩), wd_t ht hW⟩, hS.F ht⟩) hS.2.2 dX12_stands_28
  · have c_2 : y_1.toInt ≠ 1 := xI_ne rfl rfl c_2
    refine lv_aload_n hx hb dX12_stands_11 rfl (lv_at hl 0 rfl) ?_
    refine S_getR (n := 98) (C := RX12) (T := TX12) (N := 89) hx hb hg iX12 hown hK hW kd_66 rfl 58 (lt_b rfl) (hg (Cond.fieldLink RX12 115 "SlabWalkModel" "lawful" "[Z") m1372) (fun _ h9 => h9) rfl dX12_stands_12 ?_
    refine lv_iload_n hx hb dX12_stands_15 rfl (lv_at hl 1 rfl) ?_
    refine S_zald hx hb hK hW kd_98 (vin (by omega) (by omega)) dX12_stands_16 (fun y_10 ey_10 => ?_)
    have ty_10 := hB_G.law ey_10
    refine lv_if_eq (tgt := 24) hx hb dX12_stands_17 rfl (fun c_11 => ?_) (fun c_11 => ?_)
    · have c_11 : y_10.toInt = 0 := xI_eq rfl rfl c_11
      refine ic_0 hx hb dX12_stands_24 ?_
      have qc_12 : (0 : Int32).toInt = 0 := rfl
      refine S_calli (va_runS (As := [.int 0]) (rest := []) ⟨hx, hb, hml, hown, hts⟩ (n_truth l D k A a z G 0 ⟨by decide, by decide⟩) (va_cwS 1 hts (gd_S hgd m1788 m1789 m131 m1790) rfl rfl rfl hd_X12_truth.2 ⟨Nat.le_of_ble_eq_true rfl, Nat.le_of_ble_eq_true rfl⟩) (pre_S hW hB_G hK hZ hS) rfl rfl hl.1 rfl (lv_room (Nat.le_of_ble_eq_true rfl)) dX12_stands_25 ⟨Nat.le_of_ble_eq_true rfl, Nat.le_of_ble_eq_true rfl⟩) hS (fun r_13 G_14 H locs hpo hW hS => ?_)
      have hX_17 : Q_truth 0 G r_13 G_14 := hpo
      obtain ⟨hB_G_14, hq_15, f_18, hp_16, -⟩ := hpo
      have hF := hF.call9 hq_15 rfl rfl
      exact W.iret (v := r_13) hx hb hr (fun t ht _ => ⟨⟨r_13, G_14, rfl, (Q_stands_mk ⟨hB_G_14, hF, ⟨(by first | (clear ha_p0 c_2 c_11; omega) | omega), (by first | (clear ha_p0 c_2 c_11; omega) | omega)⟩, ⟨y_1, ey_1, (Or.inr ⟨c_2, ⟨y_10, ey_10, (Or.inl ⟨c_11, ⟨r_13, G_14, hX_17, ⟨rfl, rfl⟩⟩⟩)⟩⟩)⟩⟩), wd_t ht hW⟩, hS.F ht⟩) hS.2.2 dX12_stands_28
    · have c_11 : y_10.toInt ≠ 0 := xI_ne rfl rfl c_11
      refine ic_1 hx hb dX12_stands_20 ?_
      refine lv_goto (tgt := 25) hx hb dX12_stands_21 rfl ?_
      have qc_19 : (1 : Int32).toInt = 1 := rfl
      refine S_calli (va_runS (As := [.int 1]) (rest := []) ⟨hx, hb, hml, hown, hts⟩ (n_truth l D k A a z G 1 ⟨by decide, by decide⟩) (va_cwS 1 hts (gd_S hgd m1788 m1789 m131 m1790) rfl rfl rfl hd_X12_truth.2 ⟨Nat.le_of_ble_eq_true rfl, Nat.le_of_ble_eq_true rfl⟩) (pre_S hW hB_G hK hZ hS) rfl rfl hl.1 rfl (lv_room (Nat.le_of_ble_eq_true rfl)) dX12_stands_25 ⟨Nat.le_of_ble_eq_true rfl, Nat.le_of_ble_eq_true rfl⟩) hS (fun r_20 G_21 H locs hpo hW hS => ?_)
      have hX_24 : Q_truth 1 G r_20 G_21 := hpo
      obtain ⟨hB_G_21, hq_22, f_25, hp_23, -⟩ := hpo
      have hF := hF.call9 hq_22 rfl rfl
      exact W.iret (v := r_20) hx hb hr (fun t ht _ => ⟨⟨r_20, G_21, rfl, (Q_stands_mk ⟨hB_G_21, hF, ⟨(by first | (clear ha_p0 c_2 c_11; omega) | omega), (by first | (clear ha_p0 c_2 c_11; omega) | omega)⟩, ⟨y_1, ey_1, (Or.inr ⟨c_2, ⟨y_10, ey_10, (Or.inr ⟨c_11, ⟨r_20, G_21, hX_24, ⟨rfl, rfl⟩⟩⟩)⟩⟩)⟩⟩), wd_t ht hW⟩, hS.F ht⟩) hS.2.2 dX12_stands_28

set_option maxHeartbeats 4000000 in
set_option maxRecDepth 100000 in
theorem n_layWins (l : Launch) (D : va_G) (k : KT) (A : Nat → Prop) (a : Nat → Nat) (z : SK) (G : GS) (p0 : Int32) (ha_p0 : 0 ≤ p0.toInt ∧ p0.toInt ≤ 63) : Met l yX12_layWins (WS yX12_layWins cX12_layWins 4 none) ({ frames := 0, cells := 0, slots := 0, locals := 0 }) (va_Pc [.ref (a 66), .int p0] (cW D k A a z G)) (va_Qv (fun (G1 : GS) => Q_layWins p0 G G1) (fun (G1 : GS) t => Wd D k A a G1 t.heap) A) 0 0 A := by
  refine Met.ofW (cc := cX12_layWins) (maxL := 4) (ret := none) (by decide) rfl ?_
  intro p e s m args below meth c s₁ B hml hv
  obtain ⟨rfl, hW, hB_G, hK, hZ⟩ := hv
  have hx := B.exec
  have hb := B.bytes
  have hr := B.returns
  have hts := atoms_spec (ws := WS yX12_layWins cX12_layWins 4 none) B.pre
  have hgd : ∀ w ∈ gd, w ∈ WS yX12_layWins cX12_layWins 4 none := fun w h => List.mem_cons_of_mem _ h
  have hg : ∀ w ∈ gd, w.before _ s = true := fun w h => hts w (hgd w h)
  have hown : s.vm.findClass RX12 = some m.cls := findClass_of_methodNamed B.named
  have hS : va_S A s.heap s.heap [] := va_S.rf
  have hF : Fr [108, 109] [] G G := Fr.rf
  have hl := lv_entry ([.ref (a 66), .int p0]) (n := 4) (Nat.le_of_ble_eq_true rfl)
  rw [lg_entry_eq]
  generalize (lg_sl ([.ref (a 66), .int p0]) ++ List.replicate (4 - (lg_sl ([.ref (a 66), .int p0])).length) Slot.unset).toArray = ls at hl ⊢
  have hl : lv_has ls 4 [(0, .ref (a 66)), (1, .int p0)] := hl
  refine lv_aload_n hx hb dX12_layWins_0 rfl (lv_at hl 0 rfl) ?_
  refine S_getR (n := 108) (C := RX12) (T := TX12) (N := 89) hx hb hg iX12 hown hK hW kd_66 rfl 74 (lt_b rfl) (hg (Cond.fieldLink RX12 145 "SlabWalkModel" "wins" "[Z") m1388) (fun _ h9 => h9) rfl dX12_layWins_1 ?_
  refine lv_iload_n hx hb dX12_layWins_4 rfl (lv_at hl 1 rfl) ?_
  refine ic_0 hx hb dX12_layWins_5 ?_
  refine S_zast hx hb hK hW hS kd_108 (vin (by omega) (by omega)) dX12_layWins_6 (fun G_1 H locs eG_1 hW hS => ?_)
  have hB_G_1 : Bd G_1 := hB_G.put (lo := 0) (hi := 1) eG_1 rfl rfl rfl nz_bool.1 nz_bool.2 (hB_G.2.put eG_1 rfl)
  have hF := hF.put eG_1 (Or.inl (by decide))
  refine lv_aload_n hx hb dX12_layWins_7 rfl (lv_at hl 0 rfl) ?_
  refine S_getR (n := 109) (C := RX12) (T := TX12) (N := 89) hx hb hg iX12 hown hK hW kd_66 rfl 75 (lt_b rfl) (hg (Cond.fieldLink RX12 148 "SlabWalkModel" "winsBy" "[I") m1389) (fun _ h9 => h9) rfl dX12_layWins_8 ?_
  refine lv_iload_n hx hb dX12_layWins_11 rfl (lv_at hl 1 rfl) ?_
  refine ic_m1 hx hb dX12_layWins_12 ?_
  refine S_iast hx hb hK hW hS kd_109 (vin (by omega) (by omega)) dX12_layWins_13 (fun G_2 H locs eG_2 hW hS => ?_)
  have hB_G_2 : Bd G_2 := hB_G_1.put (lo := (-2147483648)) (hi := 2147483647) eG_2 rfl rfl rfl (tI_rng _).1 (tI_rng _).2 (hB_G_1.2.put eG_2 rfl)
  have hF := hF.put eG_2 (Or.inl (by decide))
  refine ic_0 hx hb dX12_layWins_14 ?_
  refine lv_istore_n (lv' := [(2, .int 0), (0, .ref (a 66)), (1, .int p0)]) hx hb dX12_layWins_15 rfl hl (lt_b rfl) rfl (fun ls hl => ?_)
  have qc_9 : (0 : Int32).toInt = 0 := rfl
  refine loop_N (Inv := fun n H locs ls => ∃ (G_3 : GS) (x_7 : Int32), (n : Int) = 6 - x_7.toInt ∧ (0 ≤ x_7.toInt ∧ x_7.toInt ≤ 6) ∧ Rc (St_n_layWins_1 p0 G) (0, G_2) (x_7, G_3) ∧ Wd D k A a G_3 H ∧ Bd G_3 ∧ Fr [108, 109] [] G G_3 ∧ Fr [108, 109] [] G_2 G_3 ∧ va_S A s.heap H locs ∧ lv_has ls 4 [(2, .int x_7), (0, .ref (a 66)), (1, .int p0)]) (fun n_6 H locs ls ih_5 hI => ?_) (6 - 0 : Int).toNat ⟨G_2, 0, (Int.toNat_of_nonneg (by omega)), ⟨by omega, by omega⟩, Rc.rf, hW, hB_G_2, hF, Fr.rf, hS, lv_sub hl [0, 1, 2] rfl⟩
  obtain ⟨G_3, x_7, hn_11, f_10, hX_8, hW, hB_G_3, hF, hq_4, hS, hl⟩ := hI
  refine lv_iload_n hx hb dX12_layWins_16 rfl (lv_at hl 0 rfl) ?_
  refine lv_aload_n hx hb dX12_layWins_17 rfl (lv_at hl 1 rfl) ?_
  have b_12 : 0 ≤ (G.1 66 54).toInt ∧ (G.1 66 54).toInt ≤ 6 := bd_66_54 hB_G
  refine S_getI (v := (G.1 66 54)) (C := RX12) (T := TX12) (N := 89) hx hb hg iX12 hown hK hW kd_66 rfl 54 (lt_b rfl) (hg (Cond.fieldLink RX12 431 "SlabWalkModel" "rules" "I") m1368) (fun _ h9 => h9) rfl ((hq_4.i9 66 54 rfl rfl).trans ((gp_ne eG_2 (fun q => absurd q.1 (Nat.ne_of_beq_eq_false rfl))).trans (gp_ne eG_1 (fun q => absurd q.1 (Nat.ne_of_beq_eq_false rfl))))) dX12_layWins_18 ?_
  refine lv_icmp_ge (tgt := 85) hx hb dX12_layWins_21 rfl (fun c_13 => ?_) (fun c_13 => ?_)
  · have c_13 : (G.1 66 54).toInt ≤ x_7.toInt := xI_le rfl rfl c_13
    exact W.vret hx hb hr (fun t ht _ => ⟨⟨G_3, rfl, (Q_layWins_mk ⟨hB_G_3, hF, ⟨G_2, hB_G_2, (Fr.put (rs := [108, 109]) (fs := []) (Fr.put (rs := [108, 109]) (fs := []) Fr.rf eG_1 (Or.inl (by decide))) eG_2 (Or.inl (by decide))), (rw_put eG_2 (by decide)).trans (rw_ast eG_1), (rw_ast eG_2).trans (congrArg (fun q => upd q (p0.toNatClampNeg) (-1)) (rw_put eG_1 (by decide))), ⟨x_7, G_3, hX_8, f_10, hB_G_3, hq_4, (Or.inl ⟨c_13, rfl⟩)⟩⟩⟩), wd_t ht hW⟩, hS.F ht⟩) hS.2.2 dX12_layWins_85
  · have c_13 : x_7.toInt < (G.1 66 54).toInt := xI_nle rfl rfl c_13
    refine lv_aload_n hx hb dX12_layWins_24 rfl (lv_at hl 1 rfl) ?_
    refine S_getR (n := 108) (C := RX12) (T := TX12) (N := 89) hx hb hg iX12 hown hK hW kd_66 rfl 74 (lt_b rfl) (hg (Cond.fieldLink RX12 145 "SlabWalkModel" "wins" "[Z") m1388) (fun _ h9 => h9) rfl dX12_layWins_25 ?_
    refine lv_iload_n hx hb dX12_layWins_28 rfl (lv_at hl 2 rfl) ?_
    refine S_zald hx hb hK hW kd_108 (vin ((by first | (clear hn_11 f_10 b_12 c_13; omega) | omega)) ((by first | (clear hn_11 f_10 b_12 c_13; omega) | omega))) dX12_layWins_29 (fun y_14 ey_14 => ?_)
    have ty_14 : 0 ≤ y_14.toInt ∧ y_14.toInt ≤ 1 := bv_108 hB_G_3 ey_14
    refine lv_if_ne (tgt := 85) hx hb dX12_layWins_30 rfl (fun c_15 => ?_) (fun c_15 => ?_)
    · have c_15 : y_14.toInt ≠ 0 := xI_ne rfl rfl c_15
      exact W.vret hx hb hr (fun t ht _ => ⟨⟨G_3, rfl, (Q_layWins_mk ⟨hB_G_3, hF, ⟨G_2, hB_G_2, (Fr.put (rs := [108, 109]) (fs := []) (Fr.put (rs := [108, 109]) (fs := []) Fr.rf eG_1 (Or.inl (by decide))) eG_2 (Or.inl (by decide))), (rw_put eG_2 (by decide)).trans (rw_ast eG_1), (rw_ast eG_2).trans (congrArg (fun q => upd q (p0.toNatClampNeg) (-1)) (rw_put eG_1 (by decide))), ⟨x_7, G_3, hX_8, f_10, hB_G_3, hq_4, (Or.inr ⟨c_13, ⟨y_14, ey_14, ⟨c_15, rfl⟩⟩⟩)⟩⟩⟩), wd_t ht hW⟩, hS.F ht⟩) hS.2.2 dX12_layWins_85
    · have c_15 : y_14.toInt = 0 := xI_eq rfl rfl c_15
      refine lv_iload_n hx hb dX12_layWins_33 rfl (lv_at hl 2 rfl) ?_
      refine ic_1 hx hb dX12_layWins_34 ?_
      refine lv_iload_n hx hb dX12_layWins_35 rfl (lv_at hl 0 rfl) ?_
      refine lv_ishl hx hb dX12_layWins_36 ?_
      refine lv_topi (fun y_16 ey_16 => ?_)
      have ty_16 := sh5 (Y := x_7.toInt) rfl ey_16 rfl (by omega) (by omega)
      refine lv_ior hx hb dX12_layWins_37 ?_
      refine lv_topi (fun y_17 ey_17 => ?_)
      have ty_17 := or6 ey_17 ⟨by omega, by omega⟩ ⟨by omega, by omega⟩
      refine lv_istore_n (lv' := [(3, .int y_17), (2, .int x_7), (0, .ref (a 66)), (1, .int p0)]) hx hb dX12_layWins_38 rfl hl (lt_b rfl) rfl (fun ls hl => ?_)
      refine lv_iload_n hx hb dX12_layWins_39 rfl (lv_at hl 0 rfl) ?_
      refine lv_iload_n hx hb dX12_layWins_40 rfl (lv_at hl 3 rfl) ?_
      refine lv_icmp_eq (tgt := 79) hx hb dX12_layWins_41 rfl (fun c_18 => ?_) (fun c_18 => ?_)
      · have c_18 : y_17.toInt = p0.toInt := xI_eq rfl rfl c_18
        obtain ⟨y_19, ey_19⟩ : ∃ q, q = x_7 + 1 := ⟨_, rfl⟩
        have ty_19 : y_19.toInt = x_7.toInt + 1 := xI_add rfl rfl ey_19 ((by first | (clear ha_p0 hn_11 ty_14 c_15 c_18; omega) | omega)) ((by first | (clear ha_p0 hn_11 ty_14 c_15 c_18; omega) | omega))
        refine lv_iinc (v := y_19) (lv' := [(2, .int y_19), (3, .int y_17), (0, .ref (a 66)), (1, .int p0)]) hx hb dX12_layWins_79 hl (k := 1) rfl (by rw [ey_19]; rfl) (lt_b rfl) rfl (fun ls hl => ?_)
        refine lv_goto (tgt := 16) hx hb dX12_layWins_82 rfl ?_
        exact ih_5 (6 - y_19.toInt : Int).toNat ((by first | (clear ha_p0 ty_14 c_15 c_18; omega) | omega)) _ _ _ ⟨G_3, y_19, (Int.toNat_of_nonneg ((by first | (clear ha_p0 hn_11 ty_14 c_15 c_18; omega) | omega))), ⟨(by first | (clear ha_p0 hn_11 ty_14 c_15 c_18; omega) | omega), (by first | (clear ha_p0 hn_11 ty_14 c_15 c_18; omega) | omega)⟩, (hX_8.st (St_n_layWins_1_mk ⟨x_7, G_3, y_19, G_3, rfl, rfl, f_10, hB_G_3, ⟨c_13, ⟨y_14, ey_14, ⟨c_15, ⟨y_16, ey_16, ⟨y_17, ey_17, (Or.inl ⟨c_18, ⟨y_19, ty_19, ⟨rfl, rfl⟩⟩⟩)⟩⟩⟩⟩⟩⟩)), hW, hB_G_3, hF, (Fr.call9 (rs := [108, 109]) (fs := []) Fr.rf hq_4 rfl rfl), hS, lv_sub hl [0, 2, 3] rfl⟩
      · have c_18 : y_17.toInt ≠ p0.toInt := xI_ne rfl rfl c_18
        refine lv_aload_n hx hb dX12_layWins_44 rfl (lv_at hl 2 rfl) ?_
        refine S_getR (n := 107) (C := RX12) (T := TX12) (N := 89) hx hb hg iX12 hown hK hW kd_66 rfl 73 (lt_b rfl) (hg (Cond.fieldLink RX12 142 "SlabWalkModel" "hasWays" "[Z") m1387) (fun _ h9 => h9) rfl dX12_layWins_45 ?_
        refine lv_iload_n hx hb dX12_layWins_48 rfl (lv_at hl 0 rfl) ?_
        refine S_zald hx hb hK hW kd_107 (vin ((by first | (clear hn_11 f_10 b_12 c_13 ty_14 c_15; omega) | omega)) ((by first | (clear hn_11 f_10 b_12 c_13 ty_14 c_15; omega) | omega))) dX12_layWins_49 (fun y_20 ey_20 => ?_)
        have ty_20 : 0 ≤ y_20.toInt ∧ y_20.toInt ≤ 1 := bv_107 hB_G_3 ey_20
        refine lv_if_eq (tgt := 79) hx hb dX12_layWins_50 rfl (fun c_21 => ?_) (fun c_21 => ?_)
        · have c_21 : y_20.toInt = 0 := xI_eq rfl rfl c_21
          obtain ⟨y_22, ey_22⟩ : ∃ q, q = x_7 + 1 := ⟨_, rfl⟩
          have ty_22 : y_22.toInt = x_7.toInt + 1 := xI_add rfl rfl ey_22 ((by first | (clear ha_p0 hn_11 ty_14 c_15 c_18 ty_20 c_21; omega) | omega)) ((by first | (clear ha_p0 hn_11 ty_14 c_15 c_18 ty_20 c_21; omega) | omega))
          refine lv_iinc (v := y_22) (lv' := [(2, .int y_22), (3, .int y_17), (0, .ref (a 66)), (1, .int p0)]) hx hb dX12_layWins_79 hl (k := 1) rfl (by rw [ey_22]; rfl) (lt_b rfl) rfl (fun ls hl => ?_)
          refine lv_goto (tgt := 16) hx hb dX12_layWins_82 rfl ?_
          exact ih_5 (6 - y_22.toInt : Int).toNat ((by first | (clear ha_p0 ty_14 c_15 c_18 ty_20 c_21; omega) | omega)) _ _ _ ⟨G_3, y_22, (Int.toNat_of_nonneg ((by first | (clear ha_p0 hn_11 ty_14 c_15 c_18 ty_20 c_21; omega) | omega))), ⟨(by first | (clear ha_p0 hn_11 ty_14 c_15 c_18 ty_20 c_21; omega) | omega), (by first | (clear ha_p0 hn_11 ty_14 c_15 c_18 ty_20 c_21; omega) | omega)⟩, (hX_8.st (St_n_layWins_1_mk ⟨x_7, G_3, y_22, G_3, rfl, rfl, f_10, hB_G_3, ⟨c_13, ⟨y_14, ey_14, ⟨c_15, ⟨y_16, ey_16, ⟨y_17, ey_17, (Or.inr ⟨c_18, ⟨y_20, ey_20, (Or.inl ⟨c_21, ⟨y_22, ty_22, ⟨rfl, rfl⟩⟩⟩)⟩⟩)⟩⟩⟩⟩⟩⟩)), hW, hB_G_3, hF, (Fr.call9 (rs := [108, 109]) (fs := []) Fr.rf hq_4 rfl rfl), hS, lv_sub hl [0, 2, 3] rfl⟩
        · have c_21 : y_20.toInt ≠ 0 := xI_ne rfl rfl c_21
          refine lv_aload_n hx hb dX12_layWins_53 rfl (lv_at hl 2 rfl) ?_
          refine S_getR (n := 108) (C := RX12) (T := TX12) (N := 89) hx hb hg iX12 hown hK hW kd_66 rfl 74 (lt_b rfl) (hg (Cond.fieldLink RX12 145 "SlabWalkModel" "wins" "[Z") m1388) (fun _ h9 => h9) rfl dX12_layWins_54 ?_
          refine lv_iload_n hx hb dX12_layWins_57 rfl (lv_at hl 0 rfl) ?_
          refine S_zald hx hb hK hW kd_108 (vin ((by first | (clear hn_11 f_10 b_12 c_13 ty_14 c_15 ty_20 c_21; omega) | omega)) ((by first | (clear hn_11 f_10 b_12 c_13 ty_14 c_15 ty_20 c_21; omega) | omega))) dX12_layWins_58 (fun y_23 ey_23 => ?_)
          have ty_23 : 0 ≤ y_23.toInt ∧ y_23.toInt ≤ 1 := bv_108 hB_G_3 ey_23
          refine lv_if_eq (tgt := 65) hx hb dX12_layWins_59 rfl (fun c_24 => ?_) (fun c_24 => ?_)
          · have c_24 : y_23.toInt = 0 := xI_eq rfl rfl c_24
            refine lv_aload_n hx hb dX12_layWins_65 rfl (lv_at hl 2 rfl) ?_
            refine S_getR (n := 108) (C := RX12) (T := TX12) (N := 89) hx hb hg iX12 hown hK hW kd_66 rfl 74 (lt_b rfl) (hg (Cond.fieldLink RX12 145 "SlabWalkModel" "wins" "[Z") m1388) (fun _ h9 => h9) rfl dX12_layWins_66 ?_
            refine lv_iload_n hx hb dX12_layWins_69 rfl (lv_at hl 3 rfl) ?_
            refine ic_1 hx hb dX12_layWins_70 ?_
            refine S_zast hx hb hK hW hS kd_108 (vin ((by first | (clear hn_11 f_10 b_12 c_13 ty_14 c_15 ty_20 c_21 ty_23 c_24; omega) | omega)) ((by first | (clear hn_11 f_10 b_12 c_13 ty_14 c_15 ty_20 c_21 ty_23 c_24; omega) | omega))) dX12_layWins_71 (fun G_25 H locs eG_25 hW hS => ?_)
            have hB_G_25 : Bd G_25 := hB_G_3.put (lo := 0) (hi := 1) eG_25 rfl rfl rfl nz_bool.1 nz_bool.2 (hB_G_3.2.put eG_25 rfl)
            have hF := hF.put eG_25 (Or.inl (by decide))
            refine lv_aload_n hx hb dX12_layWins_72 rfl (lv_at hl 2 rfl) ?_
            refine S_getR (n := 109) (C := RX12) (T := TX12) (N := 89) hx hb hg iX12 hown hK hW kd_66 rfl 75 (lt_b rfl) (hg (Cond.fieldLink RX12 148 "SlabWalkModel" "winsBy" "[I") m1389) (fun _ h9 => h9) rfl dX12_layWins_73 ?_
            refine lv_iload_n hx hb dX12_layWins_76 rfl (lv_at hl 3 rfl) ?_
            refine lv_iload_n hx hb dX12_layWins_77 rfl (lv_at hl 1 rfl) ?_
            refine S_iast hx hb hK hW hS kd_109 (vin ((by first | (clear hn_11 f_10 b_12 c_13 ty_14 c_15 ty_20 c_21 ty_23 c_24; omega) | omega)) ((by first | (clear hn_11 f_10 b_12 c_13 ty_14 c_15 ty_20 c_21 ty_23 c_24; omega) | omega))) dX12_layWins_78 (fun G_26 H locs eG_26 hW hS => ?_)
            have hB_G_26 : Bd G_26 := hB_G_25.put (lo := (-2147483648)) (hi := 2147483647) eG_26 rfl rfl rfl (tI_rng _).1 (tI_rng _).2 (hB_G_25.2.put eG_26 rfl)
            have hF := hF.put eG_26 (Or.inl (by decide))
            obtain ⟨y_27, ey_27⟩ : ∃ q, q = x_7 + 1 := ⟨_, rfl⟩
            have ty_27 : y_27.toInt = x_7.toInt + 1 := xI_add rfl rfl ey_27 ((by first | (clear ha_p0 hn_11 ty_14 c_15 c_18 ty_20 c_21 ty_23 c_24; omega) | omega)) ((by first | (clear ha_p0 hn_11 ty_14 c_15 c_18 ty_20 c_21 ty_23 c_24; omega) | omega))
            refine lv_iinc (v := y_27) (lv' := [(2, .int y_27), (3, .int y_17), (0, .ref (a 66)), (1, .int p0)]) hx hb dX12_layWins_79 hl (k := 1) rfl (by rw [ey_27]; rfl) (lt_b rfl) rfl (fun ls hl => ?_)
            refine lv_goto (tgt := 16) hx hb dX12_layWins_82 rfl ?_
            exact ih_5 (6 - y_27.toInt : Int).toNat ((by first | (clear ha_p0 ty_14 c_15 c_18 ty_20 c_21 ty_23 c_24; omega) | omega)) _ _ _ ⟨G_26, y_27, (Int.toNat_of_nonneg ((by first | (clear ha_p0 hn_11 ty_14 c_15 c_18 ty_20 c_21 ty_23 c_24; omega) | omega))), ⟨(by first | (clear ha_p0 hn_11 ty_14 c_15 c_18 ty_20 c_21 ty_23 c_24; omega) | omega), (by first | (clear ha_p0 hn_11 ty_14 c_15 c_18 ty_20 c_21 ty_23 c_24; omega) | omega)⟩, (hX_8.st (St_n_layWins_1_mk ⟨x_7, G_3, y_27, G_26, rfl, rfl, f_10, hB_G_3, ⟨c_13, ⟨y_14, ey_14, ⟨c_15, ⟨y_16, ey_16, ⟨y_17, ey_17, (Or.inr ⟨c_18, ⟨y_20, ey_20, (Or.inr ⟨c_21, ⟨y_23, ey_23, (Or.inl ⟨c_24, ⟨y_27, ty_27, ⟨rfl, (Fr.put (rs := [108, 109]) (fs := []) (Fr.put (rs := [108, 109]) (fs := []) Fr.rf eG_25 (Or.inl (by decide))) eG_26 (Or.inl (by decide))), (rw_put eG_26 (by decide)).trans (rw_ast eG_25), (rw_ast eG_26).trans (congrArg (fun q => upd q (p0.toNatClampNeg) x_7) (rw_put eG_25 (by decide)))⟩⟩⟩)⟩⟩)⟩⟩)⟩⟩⟩⟩⟩⟩)), hW, hB_G_26, hF, (Fr.put (rs := [108, 109]) (fs := []) (Fr.put (rs := [108, 109]) (fs := []) (Fr.call9 (rs := [108, 109]) (fs := []) Fr.rf hq_4 rfl rfl) eG_25 (Or.inl (by decide))) eG_26 (Or.inl (by decide))), hS, lv_sub hl [0, 2, 3] rfl⟩
          · have c_24 : y_23.toInt ≠ 0 := xI_ne rfl rfl c_24
            refine lv_goto (tgt := 79) hx hb dX12_layWins_62 rfl ?_
            obtain ⟨y_28, ey_28⟩ : ∃ q, q = x_7 + 1 := ⟨_, rfl⟩
            have ty_28 : y_28.toInt = x_7.toInt + 1 := xI_add rfl rfl ey_28 ((by first | (clear ha_p0 hn_11 ty_14 c_15 c_18 ty_20 c_21 ty_23 c_24; omega) | omega)) ((by first | (clear ha_p0 hn_11 ty_14 c_15 c_18 ty_20 c_21 ty_23 c_24; omega) | omega))
            refine lv_iinc (v := y_28) (lv' := [(2, .int y_28), (3, .int y_17), (0, .ref (a 66)), (1, .int p0)]) hx hb dX12_layWins_79 hl (k := 1) rfl (by rw [ey_28]; rfl) (lt_b rfl) rfl (fun ls hl => ?_)
            refine lv_goto (tgt := 16) hx hb dX12_layWins_82 rfl ?_
            exact ih_5 (6 - y_28.toInt : Int).toNat ((by first | (clear ha_p0 ty_14 c_15 c_18 ty_20 c_21 ty_23 c_24; omega) | omega)) _ _ _ ⟨G_3, y_28, (Int.toNat_of_nonneg ((by first | (clear ha_p0 hn_11 ty_14 c_15 c_18 ty_20 c_21 ty_23 c_24; omega) | omega))), ⟨(by first | (clear ha_p0 hn_11 ty_14 c_15 c_18 ty_20 c_21 ty_23 c_24; omega) | omega), (by first | (clear ha_p0 hn_11 ty_14 c_15 c_18 ty_20 c_21 ty_23 c_24; omega) | omega)⟩, (hX_8.st (St_n_layWins_1_mk ⟨x_7, G_3, y_28, G_3, rfl, rfl, f_10, hB_G_3, ⟨c_13, ⟨y_14, ey_14, ⟨c_15, ⟨y_16, ey_16, ⟨y_17, ey_17, (Or.inr ⟨c_18, ⟨y_20, ey_20, (Or.inr ⟨c_21, ⟨y_23, ey_23, (Or.inr ⟨c_24, ⟨y_28, ty_28, ⟨rfl, rfl⟩⟩⟩)⟩⟩)⟩⟩)⟩⟩⟩⟩⟩⟩)), hW, hB_G_3, hF, (Fr.call9 (rs := [108, 109]) (fs := []) Fr.rf hq_4 rfl rfl), hS, lv_sub hl [0, 2, 3] rfl⟩

set_option maxHeartbeats 4000000 in
set_option maxRecDepth 100000 in
theorem n_goOn (l : Launch) (D : va_G) (k : KT) (A : Nat → Prop) (a : Nat → Nat) (z : SK) (G : GS) (p0 : Int32) (ha_p0 : 0 ≤ p0.toInt ∧ p0.toInt ≤ 799) : Met l yX12_goOn (WS yX12_goOn cX12_goOn 5 none) ({ frames := 1, cells := 0, slots := 0, locals := 21 }) (va_Pc [.ref (a 66), .int p0] (cW D k A a z G)) (va_Qv (fun (G1 : GS) => Q_goOn p0 G G1) (fun (G1 : GS) t => Wd D k A a G1 t.heap) A) 0 0 A := by
  refine Met.ofW (cc := cX12_goOn) (maxL := 5) (ret := none) (by decide) rfl ?_
  intro p e s m args below meth c s₁ B hml hv
  obtain ⟨rfl, hW, hB_G, hK, hZ⟩ := hv
  have hx := B.exec
  have hb := B.bytes
  have hr := B.returns
  have hts := atoms_spec (ws := WS yX12_goOn cX12_goOn 5 none) B.pre
  have hgd : ∀ w ∈ gd, w ∈ WS yX12_goOn cX12_goOn 5 none := fun w h => List.mem_cons_of_mem _ h
  have hg : ∀ w ∈ gd, w.before _ s = true := fun w h => hts w (hgd w h)
  have hown : s.vm.findClass RX12 = some m.cls := findClass_of_methodNamed B.named
  have hS : va_S A s.heap s.heap [] := va_S.rf
  have hF : Fr [102] [] G G := Fr.rf
  have hl := lv_entry ([.ref (a 66), .int p0]) (n := 5) (Nat.le_of_ble_eq_true rfl)
  rw [lg_entry_eq]
  generalize (lg_sl ([.ref (a 66), .int p0]) ++ List.replicate (5 - (lg_sl ([.ref (a 66), .int p0])).length) Slot.unset).toArray = ls at hl ⊢
  have hl : lv_has ls 5 [(0, .ref (a 66)), (1, .int p0)] := hl
  refine lv_iload_n hx hb dX12_goOn_0 rfl (lv_at hl 1 rfl) ?_
  refine ic_2 hx hb dX12_goOn_1 ?_
  refine lv_idiv hx hb dX12_goOn_2 (by decide) ?_
  refine lv_topi (fun y_1 ey_1 => ?_)
  have ty_1 : y_1.toInt = p0.toInt / 2 := xI_div rfl ey_1 (by decide) (by omega)
  refine lv_istore_n (lv' := [(2, .int y_1), (0, .ref (a 66)), (1, .int p0)]) hx hb dX12_goOn_3 rfl hl (lt_b rfl) rfl (fun ls hl => ?_)
  refine lv_aload_n hx hb dX12_goOn_4 rfl (lv_at hl 1 rfl) ?_
  have b_2 : 0 ≤ (G.1 66 61).toInt ∧ (G.1 66 61).toInt ≤ 60 := bd_66_61 hB_G
  refine S_getI (v := (G.1 66 61)) (C := RX12) (T := TX12) (N := 89) hx hb hg iX12 hown hK hW kd_66 rfl 61 (lt_b rfl) (hg (Cond.fieldLink RX12 475 "SlabWalkModel" "least" "I") m1375) (fun _ h9 => h9) rfl rfl dX12_goOn_5 ?_
  refine lv_istore_n (lv' := [(3, .int (G.1 66 61)), (2, .int y_1), (0, .ref (a 66)), (1, .int p0)]) hx hb dX12_goOn_8 rfl hl (lt_b rfl) rfl (fun ls hl => ?_)
  refine loop_N (Inv := fun n H locs ls => ∃ (G_3 : GS) (x_7 : Int32), (n : Int) = 100 - x_7.toInt ∧ (0 ≤ x_7.toInt ∧ x_7.toInt ≤ 100) ∧ Rc (St_n_goOn_1 p0 y_1 G) ((G.1 66 61), G) (x_7, G_3) ∧ Wd D k A a G_3 H ∧ Bd G_3 ∧ Fr [102] [] G G_3 ∧ Fr [102] [] G G_3 ∧ va_S A s.heap H locs ∧ lv_has ls 5 [(3, .int x_7), (2, .int y_1), (0, .ref (a 66)), (1, .int p0)]) (fun n_6 H locs ls ih_5 hI => ?_) (100 - (G.1 66 61).toInt : Int).toNat ⟨G, (G.1 66 61), (Int.toNat_of_nonneg (by omega)), ⟨by omega, by omega⟩, Rc.rf, hW, hB_G, hF, Fr.rf, hS, lv_sub hl [0, 1, 2, 3] rfl⟩
  obtain ⟨G_3, x_7, hn_10, f_9, hX_8, hW, hB_G_3, hF, hq_4, hS, hl⟩ := hI
  refine lv_iload_n hx hb dX12_goOn_9 rfl (lv_at hl 0 rfl) ?_
  refine lv_iload_n hx hb dX12_goOn_10 rfl (lv_at hl 3 rfl) ?_
  refine ic_2 hx hb dX12_goOn_11 ?_
  refine lv_irem hx hb dX12_goOn_12 (by decide) ?_
  refine lv_topi (fun y_11 ey_11 => ?_)
  have ty_11 : y_11.toInt = p0.toInt % 2 := xI_mod rfl ey_11 (by decide) ((by first | (clear b_2 hn_10 f_9; omega) | omega))
  refine ic_1 hx hb dX12_goOn_13 ?_
  refine W.cut (σ := Int32) (pcJ := 28) (J := fun y H locs ls => ∃ (G_18 : GS), (0 ≤ y.toInt ∧ y.toInt ≤ 99) ∧ Jn_n_goOn_2 y_11 G G_3 y G_18 ∧ Wd D k A a G_18 H ∧ Bd G_18 ∧ Fr [102] [] G G_18 ∧ Fr [] [] G_3 G_18 ∧ va_S A s.heap H locs ∧ lv_has ls 5 [(3, .int x_7), (2, .int y_1), (0, .ref (a 66)), (1, .int p0)]) (stJ := fun y => [.int y, .int x_7]) ?_ (fun hJ_19 => ?_)
  · intro y H locs ls hI
    obtain ⟨w_16, hy⟩ : ∃ q, q = y := ⟨_, rfl⟩
    subst hy
    obtain ⟨G_18, f_22, hX_21, hW, hB_G_18, hF, hq_20, hS, hl⟩ := hI
    refine lv_icmp_gt (tgt := 99) hx hb dX12_goOn_28 rfl (fun c_23 => ?_) (fun c_23 => ?_)
    · have c_23 : w_16.toInt < x_7.toInt := xI_lt rfl rfl c_23
      exact W.vret hx hb hr (fun t ht _ => ⟨⟨G_18, rfl, (Q_goOn_mk ⟨hB_G_18, hF, ⟨y_1, ty_1, ⟨x_7, G_3, hX_8, f_9, hB_G_3, hq_4, ⟨y_11, ty_11, ⟨w_16, G_18, hX_21, f_22, hB_G_18, hq_20, ⟨c_23, rfl⟩⟩⟩⟩⟩⟩), wd_t ht hW⟩, hS.F ht⟩) hS.2.2 dX12_goOn_99
    · have c_23 : x_7.toInt ≤ w_16.toInt := xI_nlt rfl rfl c_23
      refine lv_aload_n hx hb dX12_goOn_31 rfl (lv_at hl 2 rfl) ?_
      refine S_getR (n := 98) (C := RX12) (T := TX12) (N := 89) hx hb hg iX12 hown hK hW kd_66 rfl 58 (lt_b rfl) (hg (Cond.fieldLink RX12 115 "SlabWalkModel" "lawful" "[Z") m1372) (fun _ h9 => h9) rfl dX12_goOn_32 ?_
      refine lv_iload_n hx hb dX12_goOn_35 rfl (lv_at hl 1 rfl) ?_
      refine lv_iload_n hx hb dX12_goOn_36 rfl (lv_at hl 0 rfl) ?_
      refine lv_iadd hx hb dX12_goOn_37 ?_
      refine lv_topi (fun y_24 ey_24 => ?_)
      have ty_24 : y_24.toInt = y_1.toInt + x_7.toInt := xI_add rfl rfl ey_24 (by omega) (by omega)
      refine S_zald hx hb hK hW kd_98 (vin (by omega) (by omega)) dX12_goOn_38 (fun y_25 ey_25 => ?_)
      have ty_25 := hB_G_18.law ey_25
      refine lv_if_ne (tgt := 45) hx hb dX12_goOn_39 rfl (fun c_26 => ?_) (fun c_26 => ?_)
      · have c_26 : y_25.toInt ≠ 0 := xI_ne rfl rfl c_26
        refine ic_2 hx hb dX12_goOn_45 ?_
        refine lv_iload_n hx hb dX12_goOn_46 rfl (lv_at hl 1 rfl) ?_
        refine lv_iload_n hx hb dX12_goOn_47 rfl (lv_at hl 0 rfl) ?_
        refine lv_iadd hx hb dX12_goOn_48 ?_
        refine lv_topi (fun y_27 ey_27 => ?_)
        have ty_27 : y_27.toInt = y_1.toInt + x_7.toInt := xI_add rfl rfl ey_27 ((by first | (clear b_2 hn_10 c_26; omega) | omega)) ((by first | (clear b_2 hn_10 c_26; omega) | omega))
        refine lv_imul hx hb dX12_goOn_49 ?_
        refine lv_topi (fun y_28 ey_28 => ?_)
        have ty_28 : y_28.toInt = 2 * y_27.toInt := xI_mul rfl rfl ey_28 ((by first | (clear b_2 hn_10 c_26; omega) | omega)) ((by first | (clear b_2 hn_10 c_26; omega) | omega))
        refine lv_iload_n hx hb dX12_goOn_50 rfl (lv_at hl 0 rfl) ?_
        refine lv_aload_n hx hb dX12_goOn_51 rfl (lv_at hl 2 rfl) ?_
        have b_29 : 0 ≤ (G.1 66 62).toInt ∧ (G.1 66 62).toInt ≤ 60 := bd_66_62 hB_G
        refine S_getI (v := (G.1 66 62)) (C := RX12) (T := TX12) (N := 89) hx hb hg iX12 hown hK hW kd_66 rfl 62 (lt_b rfl) (hg (Cond.fieldLink RX12 478 "SlabWalkModel" "most" "I") m1376) (fun _ h9 => h9) rfl ((hq_20.i9 66 62 rfl rfl).trans (hq_4.i9 66 62 rfl rfl)) dX12_goOn_52 ?_
        refine W.cut (σ := Int32) (pcJ := 63) (J := fun y H locs ls => ∃ (G_36 : GS), (0 ≤ y.toInt ∧ y.toInt ≤ 1) ∧ Jn_n_goOn_3 x_7 G G_18 y G_36 ∧ Wd D k A a G_36 H ∧ Bd G_36 ∧ Fr [102] [] G G_36 ∧ Fr [] [] G_18 G_36 ∧ va_S A s.heap H locs ∧ lv_has ls 5 [(3, .int x_7), (2, .int y_1), (0, .ref (a 66)), (1, .int p0)]) (stJ := fun y => [.int y, .int y_28]) ?_ (fun hJ_37 => ?_)
        · intro y H locs ls hI
          obtain ⟨w_34, hy⟩ : ∃ q, q = y := ⟨_, rfl⟩
          subst hy
          obtain ⟨G_36, f_40, hX_39, hW, hB_G_36, hF, hq_38, hS, hl⟩ := hI
          refine S_calli (va_runS (As := [.int w_34]) (rest := [.int y_28]) ⟨hx, hb, hml, hown, hts⟩ (n_truth l D k A a z G_36 w_34 ⟨(by first | (clear ha_p0 ty_1 b_2 hn_10 f_9 ty_11 f_22 c_23 ty_24 c_26 ty_27 ty_28 b_29; omega) | omega), (by first | (clear ha_p0 ty_1 b_2 hn_10 f_9 ty_11 f_22 c_23 ty_24 c_26 ty_27 ty_28 b_29; omega) | omega)⟩) (va_cwS 1 hts (gd_S hgd m1788 m1789 m131 m1790) rfl rfl rfl hd_X12_truth.2 ⟨Nat.le_of_ble_eq_true rfl, Nat.le_of_ble_eq_true rfl⟩) (pre_S hW hB_G_36 hK hZ hS) rfl rfl hl.1 rfl (lv_room (Nat.le_of_ble_eq_true rfl)) dX12_goOn_63 ⟨Nat.le_of_ble_eq_true rfl, Nat.le_of_ble_eq_true rfl⟩) hS (fun r_41 G_42 H locs hpo hW hS => ?_)
          have hX_45 : Q_truth w_34 G_36 r_41 G_42 := hpo
          obtain ⟨hB_G_42, hq_43, f_46, hp_44, -⟩ := hpo
          have hF := hF.call9 hq_43 rfl rfl
          refine lv_iadd hx hb dX12_goOn_66 ?_
          refine lv_topi (fun y_47 ey_47 => ?_)
          have ty_47 : y_47.toInt = y_28.toInt + r_41.toInt := xI_add rfl rfl ey_47 ((by first | (clear b_2 hn_10 c_26 b_29; omega) | omega)) ((by first | (clear b_2 hn_10 c_26 b_29; omega) | omega))
          refine lv_istore (lv' := [(4, .int y_47), (3, .int x_7), (2, .int y_1), (0, .ref (a 66)), (1, .int p0)]) hx hb dX12_goOn_67 hl (lt_b rfl) rfl (fun ls hl => ?_)
          refine lv_aload_n hx hb dX12_goOn_69 rfl (lv_at hl 3 rfl) ?_
          refine S_getR (n := 102) (C := RX12) (T := TX12) (N := 89) hx hb hg iX12 hown hK hW kd_66 rfl 68 (lt_b rfl) (hg (Cond.fieldLink RX12 127 "SlabWalkModel" "next" "[J") m1382) (fun _ h9 => h9) rfl dX12_goOn_70 ?_
          refine lv_iload hx hb dX12_goOn_73 (lv_at hl 0 rfl) ?_
          refine lv_aload_n hx hb dX12_goOn_75 rfl (lv_at hl 3 rfl) ?_
          refine S_getR (n := 102) (C := RX12) (T := TX12) (N := 89) hx hb hg iX12 hown hK hW kd_66 rfl 68 (lt_b rfl) (hg (Cond.fieldLink RX12 127 "SlabWalkModel" "next" "[J") m1382) (fun _ h9 => h9) rfl dX12_goOn_76 ?_
          refine lv_iload hx hb dX12_goOn_79 (lv_at hl 0 rfl) ?_
          refine S_lald hx hb hK hW kd_102 (vin ((by first | (clear b_2 hn_10 c_26 b_29; omega) | omega)) ((by first | (clear b_2 hn_10 c_26 b_29; omega) | omega))) dX12_goOn_81 (fun y_48 ey_48 => ?_)
          refine lv_aload_n hx hb dX12_goOn_82 rfl (lv_at hl 3 rfl) ?_
          refine S_getR (n := 101) (C := RX12) (T := TX12) (N := 89) hx hb hg iX12 hown hK hW kd_66 rfl 67 (lt_b rfl) (hg (Cond.fieldLink RX12 124 "SlabWalkModel" "ways" "[J") m1381) (fun _ h9 => h9) rfl dX12_goOn_83 ?_
          refine lv_iload_n hx hb dX12_goOn_86 rfl (lv_at hl 4 rfl) ?_
          refine S_lald hx hb hK hW kd_101 (vin ((by first | (clear b_2 hn_10 c_26 b_29; omega) | omega)) ((by first | (clear b_2 hn_10 c_26 b_29; omega) | omega))) dX12_goOn_87 (fun y_49 ey_49 => ?_)
          refine lv_ladd hx hb dX12_goOn_88 ?_
          refine lv_topl (fun y_50 ey_50 => ?_)
          refine S_calll (va_runS (As := [.long y_50]) (rest := [.int y_47, .ref (a 102)]) ⟨hx, hb, hml, hown, hts⟩ (n_capped l D k A a z G_42 y_50 ) (va_cwS 1 hts (gd_S hgd m1879 m1880 m131 m1881) rfl rfl rfl hd_X12_capped.2 ⟨Nat.le_of_ble_eq_true rfl, Nat.le_of_ble_eq_true rfl⟩) (pre_S hW hB_G_42 hK hZ hS) rfl rfl hl.1 rfl (lv_room (Nat.le_of_ble_eq_true rfl)) dX12_goOn_89 ⟨Nat.le_of_ble_eq_true rfl, Nat.le_of_ble_eq_true rfl⟩) hS (fun r_51 G_52 H locs hpo hW hS => ?_)
          have hX_55 : Q_capped y_50 G_42 r_51 G_52 := hpo
          obtain ⟨hB_G_52, hq_53, -⟩ := hpo
          have hF := hF.call9 hq_53 rfl rfl
          refine S_last hx hb hK hW hS kd_102 (vin ((by first | (clear b_2 hn_10 c_26 b_29; omega) | omega)) ((by first | (clear b_2 hn_10 c_26 b_29; omega) | omega))) dX12_goOn_92 (fun G_56 H locs eG_56 hW hS => ?_)
          have hB_G_56 : Bd G_56 := hB_G_52.putl eG_56
          have hF := hF.putl eG_56 (Or.inl (by decide))
          obtain ⟨y_57, ey_57⟩ : ∃ q, q = x_7 + 1 := ⟨_, rfl⟩
          have ty_57 : y_57.toInt = x_7.toInt + 1 := xI_add rfl rfl ey_57 ((by first | (clear b_2 hn_10 c_26 b_29; omega) | omega)) ((by first | (clear b_2 hn_10 c_26 b_29; omega) | omega))
          refine lv_iinc (v := y_57) (lv' := [(3, .int y_57), (4, .int y_47), (2, .int y_1), (0, .ref (a 66)), (1, .int p0)]) hx hb dX12_goOn_93 hl (k := 1) rfl (by rw [ey_57]; rfl) (lt_b rfl) rfl (fun ls hl => ?_)
          refine lv_goto (tgt := 9) hx hb dX12_goOn_96 rfl ?_
          exact ih_5 (100 - y_57.toInt : Int).toNat ((by first | (clear b_2 c_26 b_29; omega) | omega)) _ _ _ ⟨G_56, y_57, (Int.toNat_of_nonneg ((by first | (clear b_2 hn_10 c_26 b_29; omega) | omega))), ⟨(by first | (clear b_2 hn_10 c_26 b_29; omega) | omega), (by first | (clear b_2 hn_10 c_26 b_29; omega) | omega)⟩, (hX_8.st (St_n_goOn_1_mk ⟨x_7, G_3, y_57, G_56, rfl, rfl, f_9, hB_G_3, ⟨y_11, ty_11, ⟨w_16, G_18, hX_21, f_22, hB_G_18, hq_20, ⟨c_23, ⟨y_24, ty_24, ⟨y_25, ey_25, (Or.inr ⟨c_26, ⟨y_27, ty_27, ⟨y_28, ty_28, ⟨w_34, G_36, hX_39, f_40, hB_G_36, hq_38, ⟨r_41, G_42, hX_45, ⟨y_47, ty_47, ⟨y_48, ey_48, ⟨y_49, ey_49, ⟨y_50, ey_50, ⟨r_51, G_52, hX_55, ⟨y_57, ty_57, ⟨rfl, (Fr.putl (rs := [102]) (fs := []) Fr.rf eG_56 (Or.inl (by decide))), rl_ast eG_56⟩⟩⟩⟩⟩⟩⟩⟩⟩⟩⟩⟩)⟩⟩⟩⟩⟩⟩)), hW, hB_G_56, hF, (Fr.putl (rs := [102]) (fs := []) (Fr.call9 (rs := [102]) (fs := []) (Fr.call9 (rs := [102]) (fs := []) (Fr.call9 (rs := [102]) (fs := []) (Fr.call9 (rs := [102]) (fs := []) (Fr.call9 (rs := [102]) (fs := []) Fr.rf hq_4 rfl rfl) hq_20 rfl rfl) hq_38 rfl rfl) hq_43 rfl rfl) hq_53 rfl rfl) eG_56 (Or.inl (by decide))), hS, lv_sub hl [0, 2, 3, 4] rfl⟩
        refine lv_icmp_le (tgt := 62) hx hb dX12_goOn_55 rfl (fun c_58 => ?_) (fun c_58 => ?_)
        · have c_58 : x_7.toInt ≤ (G.1 66 62).toInt := xI_le rfl rfl c_58
          refine ic_0 hx hb dX12_goOn_62 ?_
          have qc_59 : (0 : Int32).toInt = 0 := rfl
          exact hJ_37 0 _ _ _ ⟨G_18, ⟨(by first | (clear ha_p0 ty_1 b_2 hn_10 f_9 ty_11 f_22 c_23 ty_24 c_26 ty_27 ty_28 b_29 c_58; omega) | omega), (by first | (clear ha_p0 ty_1 b_2 hn_10 f_9 ty_11 f_22 c_23 ty_24 c_26 ty_27 ty_28 b_29 c_58; omega) | omega)⟩, (Jn_n_goOn_3_mk (Or.inl ⟨c_58, ⟨rfl, rfl⟩⟩)), hW, hB_G_18, hF, (Fr.rf (rs := []) (fs := [])), hS, lv_sub hl [0, 1, 2, 3] rfl⟩
        · have c_58 : (G.1 66 62).toInt < x_7.toInt := xI_nle rfl rfl c_58
          refine ic_1 hx hb dX12_goOn_58 ?_
          refine lv_goto (tgt := 63) hx hb dX12_goOn_59 rfl ?_
          have qc_60 : (1 : Int32).toInt = 1 := rfl
          exact hJ_37 1 _ _ _ ⟨G_18, ⟨(by first | (clear ha_p0 ty_1 b_2 hn_10 f_9 ty_11 f_22 c_23 ty_24 c_26 ty_27 ty_28 b_29 c_58; omega) | omega), (by first | (clear ha_p0 ty_1 b_2 hn_10 f_9 ty_11 f_22 c_23 ty_24 c_26 ty_27 ty_28 b_29 c_58; omega) | omega)⟩, (Jn_n_goOn_3_mk (Or.inr ⟨c_58, ⟨rfl, rfl⟩⟩)), hW, hB_G_18, hF, (Fr.rf (rs := []) (fs := [])), hS, lv_sub hl [0, 1, 2, 3] rfl⟩
      · have c_26 : y_25.toInt = 0 := xI_eq rfl rfl c_26
        refine lv_goto (tgt := 93) hx hb dX12_goOn_42 rfl ?_
        obtain ⟨y_61, ey_61⟩ : ∃ q, q = x_7 + 1 := ⟨_, rfl⟩
        have ty_61 : y_61.toInt = x_7.toInt + 1 := xI_add rfl rfl ey_61 ((by first | (clear b_2 hn_10 c_26; omega) | omega)) ((by first | (clear b_2 hn_10 c_26; omega) | omega))
        refine lv_iinc (v := y_61) (lv' := [(3, .int y_61), (2, .int y_1), (0, .ref (a 66)), (1, .int p0)]) hx hb dX12_goOn_93 hl (k := 0) rfl (by rw [ey_61]; rfl) (lt_b rfl) rfl (fun ls hl => ?_)
        refine lv_goto (tgt := 9) hx hb dX12_goOn_96 rfl ?_
        exact ih_5 (100 - y_61.toInt : Int).toNat (by omega) _ _ _ ⟨G_18, y_61, (Int.toNat_of_nonneg ((by first | (clear b_2 hn_10 c_26; omega) | omega))), ⟨(by first | (clear b_2 hn_10 c_26; omega) | omega), (by first | (clear b_2 hn_10 c_26; omega) | omega)⟩, (hX_8.st (St_n_goOn_1_mk ⟨x_7, G_3, y_61, G_18, rfl, rfl, f_9, hB_G_3, ⟨y_11, ty_11, ⟨w_16, G_18, hX_21, f_22, hB_G_18, hq_20, ⟨c_23, ⟨y_24, ty_24, ⟨y_25, ey_25, (Or.inl ⟨c_26, ⟨y_61, ty_61, ⟨rfl, rfl⟩⟩⟩)⟩⟩⟩⟩⟩⟩)), hW, hB_G_18, hF, (Fr.call9 (rs := [102]) (fs := []) (Fr.call9 (rs := [102]) (fs := []) Fr.rf hq_4 rfl rfl) hq_20 rfl rfl), hS, lv_sub hl [0, 1, 2, 3] rfl⟩
  refine lv_icmp_ne (tgt := 24) hx hb dX12_goOn_14 rfl (fun c_62 => ?_) (fun c_62 => ?_)
  · have c_62 : y_11.toInt ≠ 1 := xI_ne rfl rfl c_62
    refine lv_aload_n hx hb dX12_goOn_24 rfl (lv_at hl 2 rfl) ?_
    have b_63 : 0 ≤ (G.1 66 63).toInt ∧ (G.1 66 63).toInt ≤ 99 := bd_66_63 hB_G
    refine S_getI (v := (G.1 66 63)) (C := RX12) (T := TX12) (N := 89) hx hb hg iX12 hown hK hW kd_66 rfl 63 (lt_b rfl) (hg (Cond.fieldLink RX12 481 "SlabWalkModel" "leap" "I") m1377) (fun _ h9 => h9) rfl (hq_4.i9 66 63 rfl rfl) dX12_goOn_25 ?_
    exact hJ_19 (G.1 66 63) _ _ _ ⟨G_3, ⟨(by first | (clear ha_p0 ty_1 b_2 hn_10 f_9 ty_11 c_62; omega) | omega), (by first | (clear ha_p0 ty_1 b_2 hn_10 f_9 ty_11 c_62; omega) | omega)⟩, (Jn_n_goOn_2_mk (Or.inr ⟨c_62, ⟨rfl, rfl⟩⟩)), hW, hB_G_3, hF, (Fr.rf (rs := []) (fs := [])), hS, lv_sub hl [0, 1, 2, 3] rfl⟩
  · have c_62 : y_11.toInt = 1 := xI_eq rfl rfl c_62
    refine lv_aload_n hx hb dX12_goOn_17 rfl (lv_at hl 2 rfl) ?_
    have b_64 : 0 ≤ (G.1 66 62).toInt ∧ (G.1 66 62).toInt ≤ 60 := bd_66_62 hB_G
    refine S_getI (v := (G.1 66 62)) (C := RX12) (T := TX12) (N := 89) hx hb hg iX12 hown hK hW kd_66 rfl 62 (lt_b rfl) (hg (Cond.fieldLink RX12 478 "SlabWalkModel" "most" "I") m1376) (fun _ h9 => h9) rfl (hq_4.i9 66 62 rfl rfl) dX12_goOn_18 ?_
    refine lv_goto (tgt := 28) hx hb dX12_goOn_21 rfl ?_
    exact hJ_19 (G.1 66 62) _ _ _ ⟨G_3, ⟨(by first | (clear ha_p0 ty_1 b_2 hn_10 f_9 ty_11 c_62; omega) | omega), (by first | (clear ha_p0 ty_1 b_2 hn_10 f_9 ty_11 c_62; omega) | omega)⟩, (Jn_n_goOn_2_mk (Or.inl ⟨c_62, ⟨rfl, rfl⟩⟩)), hW, hB_G_3, hF, (Fr.rf (rs := []) (fs := [])), hS, lv_sub hl [0, 1, 2, 3] rfl⟩
