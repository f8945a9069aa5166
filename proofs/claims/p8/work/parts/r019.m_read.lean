theorem m55 : Cond.selects RX12 yX12_newName yX12_newName ∈ gd := gds_4 7 rfl
theorem m60 : Cond.selects RX12 yX12_told yX12_told ∈ gd := gds_4 12 rfl
theorem m63 : Cond.selects RX12 yX12_readSlab yX12_readSlab ∈ gd := gds_4 15 rfl
theorem m67 : Cond.selects RX12 yX12_takes yX12_takes ∈ gd := gds_5 3 rfl
theorem m1344 : Cond.fieldLink RX12 60 "SlabWalkModel" "nFoot" "[I" ∈ gd := gdc_6_1 12 rfl gw_fieldLink
theorem m1345 : Cond.fieldLink RX12 63 "SlabWalkModel" "nLeast" "[I" ∈ gd := gdc_6_1 13 rfl gw_fieldLink
theorem m1346 : Cond.fieldLink RX12 66 "SlabWalkModel" "nMost" "[I" ∈ gd := gdc_6_1 14 rfl gw_fieldLink
theorem m1347 : Cond.fieldLink RX12 69 "SlabWalkModel" "nLeap" "[I" ∈ gd := gdc_6_1 15 rfl gw_fieldLink
theorem m1360 : Cond.fieldLink RX12 379 "SlabWalkModel" "nWalkers" "I" ∈ gd := gdc_6_2 12 rfl gw_fieldLink
theorem m1632 : Cond.methodLink RX12 369 yX12_newName ∈ gd := gdc_7_4 12 rfl gw_methodLink
theorem m1634 : Cond.instanceMethod yX12_newName ∈ gd := gdc_7_4 14 rfl gw_instanceMethod
theorem m1635 : Cond.code yX12_newName cX12_newName 4 none ∈ gd := gdc_7_4 15 rfl gw_code
theorem m1674 : Cond.methodLink RX12 372 yX12_told ∈ gd := gdc_7_7 6 rfl gw_methodLink
theorem m1676 : Cond.instanceMethod yX12_told ∈ gd := gdc_7_7 8 rfl gw_instanceMethod
theorem m1677 : Cond.code yX12_told cX12_told 5 (some .int) ∈ gd := gdc_7_7 9 rfl gw_code
theorem m1686 : Cond.methodLink RX12 376 yX12_readSlab ∈ gd := gdc_7_8 2 rfl gw_methodLink
theorem m1688 : Cond.instanceMethod yX12_readSlab ∈ gd := gdc_7_8 4 rfl gw_instanceMethod
theorem m1689 : Cond.code yX12_readSlab cX12_readSlab 8 none ∈ gd := gdc_7_8 5 rfl gw_code
theorem m1702 : Cond.methodLink RX12 382 yX12_takes ∈ gd := gdc_7_9 2 rfl gw_methodLink
theorem m1704 : Cond.instanceMethod yX12_takes ∈ gd := gdc_7_9 4 rfl gw_instanceMethod
theorem m1705 : Cond.code yX12_takes cX12_takes 4 (some .boolean) ∈ gd := gdc_7_9 5 rfl gw_code
def rbX12_readStreet_0 : List (Nat × List Nat) := [(0, [42]), (1, [3]), (2, [42]), (3, [180, 1, 103]), (6, [182, 1, 113]), (9, [42]), (10, [20, 0, 223]), (13, [3]), (14, [16, 9]), (16, [182, 1, 116]), (19, [60]), (20, [42]), (21, [180, 0, 218]), (24, [158, 0, 4]), (27, [177]), (28, [42]), (29, [180, 0, 57]), (32, [42]), (33, [180, 1, 103]), (36, [3]), (37, [79]), (38, [3]), (39, [61]), (40, [42])]
theorem rcX12_readStreet_0 : dgo (lb cX12_readStreet) 0 rbX12_readStreet_0 = true := by decide +kernel
theorem dX12_readStreet_0 : decode cX12_readStreet 0 = .ok (.aload_n 0, 1) := dk_42 (dw rcX12_readStreet_0 0 rfl)
theorem dX12_readStreet_1 : decode cX12_readStreet 1 = .ok (.iconst 0, 1) := dk_3 (dw rcX12_readStreet_0 1 rfl)
theorem dX12_readStreet_2 : decode cX12_readStreet 2 = .ok (.aload_n 0, 1) := dk_42 (dw rcX12_readStreet_0 2 rfl)
theorem dX12_readStreet_3 : decode cX12_readStreet 3 = .ok (.getfield 359, 3) := dk_180 (dw rcX12_readStreet_0 3 rfl) rfl
theorem dX12_readStreet_6 : decode cX12_readStreet 6 = .ok (.invokevirtual 369, 3) := dk_182 (dw rcX12_readStreet_0 4 rfl) rfl
theorem dX12_readStreet_9 : decode cX12_readStreet 9 = .ok (.aload_n 0, 1) := dk_42 (dw rcX12_readStreet_0 5 rfl)
theorem dX12_readStreet_10 : decode cX12_readStreet 10 = .ok (.ldc2_w 223, 3) := dk_20 (dw rcX12_readStreet_0 6 rfl) rfl
theorem dX12_readStreet_13 : decode cX12_readStreet 13 = .ok (.iconst 0, 1) := dk_3 (dw rcX12_readStreet_0 7 rfl)
theorem dX12_readStreet_14 : decode cX12_readStreet 14 = .ok (.bipush 9, 2) := dk_16 (dw rcX12_readStreet_0 8 rfl) rfl
theorem dX12_readStreet_16 : decode cX12_readStreet 16 = .ok (.invokevirtual 372, 3) := dk_182 (dw rcX12_readStreet_0 9 rfl) rfl
theorem dX12_readStreet_19 : decode cX12_readStreet 19 = .ok (.istore_n 1, 1) := dk_60 (dw rcX12_readStreet_0 10 rfl)
theorem dX12_readStreet_20 : decode cX12_readStreet 20 = .ok (.aload_n 0, 1) := dk_42 (dw rcX12_readStreet_0 11 rfl)
theorem dX12_readStreet_21 : decode cX12_readStreet 21 = .ok (.getfield 218, 3) := dk_180 (dw rcX12_readStreet_0 12 rfl) rfl
theorem dX12_readStreet_24 : decode cX12_readStreet 24 = .ok (.ifCond .le 4, 3) := dk_158 (dw rcX12_readStreet_0 13 rfl) rfl
theorem dX12_readStreet_27 : decode cX12_readStreet 27 = .ok (.return_, 1) := dk_177 (dw rcX12_readStreet_0 14 rfl)
theorem dX12_readStreet_28 : decode cX12_readStreet 28 = .ok (.aload_n 0, 1) := dk_42 (dw rcX12_readStreet_0 15 rfl)
theorem dX12_readStreet_29 : decode cX12_readStreet 29 = .ok (.getfield 57, 3) := dk_180 (dw rcX12_readStreet_0 16 rfl) rfl
theorem dX12_readStreet_32 : decode cX12_readStreet 32 = .ok (.aload_n 0, 1) := dk_42 (dw rcX12_readStreet_0 17 rfl)
theorem dX12_readStreet_33 : decode cX12_readStreet 33 = .ok (.getfield 359, 3) := dk_180 (dw rcX12_readStreet_0 18 rfl) rfl
theorem dX12_readStreet_36 : decode cX12_readStreet 36 = .ok (.iconst 0, 1) := dk_3 (dw rcX12_readStreet_0 19 rfl)
theorem dX12_readStreet_37 : decode cX12_readStreet 37 = .ok (.iastore, 1) := dk_79 (dw rcX12_readStreet_0 20 rfl)
theorem dX12_readStreet_38 : decode cX12_readStreet 38 = .ok (.iconst 0, 1) := dk_3 (dw rcX12_readStreet_0 21 rfl)
theorem dX12_readStreet_39 : decode cX12_readStreet 39 = .ok (.istore_n 2, 1) := dk_61 (dw rcX12_readStreet_0 22 rfl)
theorem dX12_readStreet_40 : decode cX12_readStreet 40 = .ok (.aload_n 0, 1) := dk_42 (dw rcX12_readStreet_0 23 rfl)
def rbX12_readStreet_41 : List (Nat × List Nat) := [(41, [180, 0, 218]), (44, [154, 0, 27]), (47, [28]), (48, [153, 0, 11]), (51, [42]), (52, [180, 0, 205]), (55, [5]), (56, [160, 0, 15]), (59, [42]), (60, [27]), (61, [28]), (62, [182, 1, 120]), (65, [132, 2, 1]), (68, [167, 255, 228]), (71, [42]), (72, [180, 0, 218]), (75, [154, 0, 13]), (78, [42]), (79, [89]), (80, [180, 1, 103]), (83, [4]), (84, [96]), (85, [181, 1, 103]), (88, [177])]
theorem rcX12_readStreet_41 : dgo (lb cX12_readStreet) 0 rbX12_readStreet_41 = true := by decide +kernel
theorem dX12_readStreet_41 : decode cX12_readStreet 41 = .ok (.getfield 218, 3) := dk_180 (dw rcX12_readStreet_41 0 rfl) rfl
theorem dX12_readStreet_44 : decode cX12_readStreet 44 = .ok (.ifCond .ne 27, 3) := dk_154 (dw rcX12_readStreet_41 1 rfl) rfl
theorem dX12_readStreet_47 : decode cX12_readStreet 47 = .ok (.iload_n 2, 1) := dk_28 (dw rcX12_readStreet_41 2 rfl)
theorem dX12_readStreet_48 : decode cX12_readStreet 48 = .ok (.ifCond .eq 11, 3) := dk_153 (dw rcX12_readStreet_41 3 rfl) rfl
theorem dX12_readStreet_51 : decode cX12_readStreet 51 = .ok (.aload_n 0, 1) := dk_42 (dw rcX12_readStreet_41 4 rfl)
theorem dX12_readStreet_52 : decode cX12_readStreet 52 = .ok (.getfield 205, 3) := dk_180 (dw rcX12_readStreet_41 5 rfl) rfl
theorem dX12_readStreet_55 : decode cX12_readStreet 55 = .ok (.iconst 2, 1) := dk_5 (dw rcX12_readStreet_41 6 rfl)
theorem dX12_readStreet_56 : decode cX12_readStreet 56 = .ok (.if_icmp .ne 15, 3) := dk_160 (dw rcX12_readStreet_41 7 rfl) rfl
theorem dX12_readStreet_59 : decode cX12_readStreet 59 = .ok (.aload_n 0, 1) := dk_42 (dw rcX12_readStreet_41 8 rfl)
theorem dX12_readStreet_60 : decode cX12_readStreet 60 = .ok (.iload_n 1, 1) := dk_27 (dw rcX12_readStreet_41 9 rfl)
theorem dX12_readStreet_61 : decode cX12_readStreet 61 = .ok (.iload_n 2, 1) := dk_28 (dw rcX12_readStreet_41 10 rfl)
theorem dX12_readStreet_62 : decode cX12_readStreet 62 = .ok (.invokevirtual 376, 3) := dk_182 (dw rcX12_readStreet_41 11 rfl) rfl
theorem dX12_readStreet_65 : decode cX12_readStreet 65 = .ok (.iinc 2 1, 3) := dk_132 (dw rcX12_readStreet_41 12 rfl) rfl
theorem dX12_readStreet_68 : decode cX12_readStreet 68 = .ok (.goto (-28), 3) := dk_167 (dw rcX12_readStreet_41 13 rfl) rfl
theorem dX12_readStreet_71 : decode cX12_readStreet 71 = .ok (.aload_n 0, 1) := dk_42 (dw rcX12_readStreet_41 14 rfl)
theorem dX12_readStreet_72 : decode cX12_readStreet 72 = .ok (.getfield 218, 3) := dk_180 (dw rcX12_readStreet_41 15 rfl) rfl
theorem dX12_readStreet_75 : decode cX12_readStreet 75 = .ok (.ifCond .ne 13, 3) := dk_154 (dw rcX12_readStreet_41 16 rfl) rfl
theorem dX12_readStreet_78 : decode cX12_readStreet 78 = .ok (.aload_n 0, 1) := dk_42 (dw rcX12_readStreet_41 17 rfl)
theorem dX12_readStreet_79 : decode cX12_readStreet 79 = .ok (.dup, 1) := dk_89 (dw rcX12_readStreet_41 18 rfl)
theorem dX12_readStreet_80 : decode cX12_readStreet 80 = .ok (.getfield 359, 3) := dk_180 (dw rcX12_readStreet_41 19 rfl) rfl
theorem dX12_readStreet_83 : decode cX12_readStreet 83 = .ok (.iconst 1, 1) := dk_4 (dw rcX12_readStreet_41 20 rfl)
theorem dX12_readStreet_84 : decode cX12_readStreet 84 = .ok (.iadd, 1) := dk_96 (dw rcX12_readStreet_41 21 rfl)
theorem dX12_readStreet_85 : decode cX12_readStreet 85 = .ok (.putfield 359, 3) := dk_181 (dw rcX12_readStreet_41 22 rfl) rfl
theorem dX12_readStreet_88 : decode cX12_readStreet 88 = .ok (.return_, 1) := dk_177 (dw rcX12_readStreet_41 23 rfl)
def rbX12_readWalker_0 : List (Nat × List Nat) := [(0, [42]), (1, [6]), (2, [42]), (3, [180, 1, 123]), (6, [182, 1, 113]), (9, [42]), (10, [180, 1, 123]), (13, [60]), (14, [42]), (15, [180, 0, 60]), (18, [27]), (19, [42]), (20, [20, 0, 227]), (23, [4]), (24, [16, 12]), (26, [182, 1, 116]), (29, [79]), (30, [42]), (31, [180, 0, 63]), (34, [27]), (35, [42]), (36, [20, 0, 229]), (39, [4]), (40, [16, 60])]
theorem rcX12_readWalker_0 : dgo (lb cX12_readWalker) 0 rbX12_readWalker_0 = true := by decide +kernel
theorem dX12_readWalker_0 : decode cX12_readWalker 0 = .ok (.aload_n 0, 1) := dk_42 (dw rcX12_readWalker_0 0 rfl)
theorem dX12_readWalker_1 : decode cX12_readWalker 1 = .ok (.iconst 3, 1) := dk_6 (dw rcX12_readWalker_0 1 rfl)
theorem dX12_readWalker_2 : decode cX12_readWalker 2 = .ok (.aload_n 0, 1) := dk_42 (dw rcX12_readWalker_0 2 rfl)
theorem dX12_readWalker_3 : decode cX12_readWalker 3 = .ok (.getfield 379, 3) := dk_180 (dw rcX12_readWalker_0 3 rfl) rfl
theorem dX12_readWalker_6 : decode cX12_readWalker 6 = .ok (.invokevirtual 369, 3) := dk_182 (dw rcX12_readWalker_0 4 rfl) rfl
theorem dX12_readWalker_9 : decode cX12_readWalker 9 = .ok (.aload_n 0, 1) := dk_42 (dw rcX12_readWalker_0 5 rfl)
theorem dX12_readWalker_10 : decode cX12_readWalker 10 = .ok (.getfield 379, 3) := dk_180 (dw rcX12_readWalker_0 6 rfl) rfl
theorem dX12_readWalker_13 : decode cX12_readWalker 13 = .ok (.istore_n 1, 1) := dk_60 (dw rcX12_readWalker_0 7 rfl)
theorem dX12_readWalker_14 : decode cX12_readWalker 14 = .ok (.aload_n 0, 1) := dk_42 (dw rcX12_readWalker_0 8 rfl)
theorem dX12_readWalker_15 : decode cX12_readWalker 15 = .ok (.getfield 60, 3) := dk_180 (dw rcX12_readWalker_0 9 rfl) rfl
theorem dX12_readWalker_18 : decode cX12_readWalker 18 = .ok (.iload_n 1, 1) := dk_27 (dw rcX12_readWalker_0 10 rfl)
theorem dX12_readWalker_19 : decode cX12_readWalker 19 = .ok (.aload_n 0, 1) := dk_42 (dw rcX12_readWalker_0 11 rfl)
theorem dX12_readWalker_20 : decode cX12_readWalker 20 = .ok (.ldc2_w 227, 3) := dk_20 (dw rcX12_readWalker_0 12 rfl) rfl
theorem dX12_readWalker_23 : decode cX12_readWalker 23 = .ok (.iconst 1, 1) := dk_4 (dw rcX12_readWalker_0 13 rfl)
theorem dX12_readWalker_24 : decode cX12_readWalker 24 = .ok (.bipush 12, 2) := dk_16 (dw rcX12_readWalker_0 14 rfl) rfl
theorem dX12_readWalker_26 : decode cX12_readWalker 26 = .ok (.invokevirtual 372, 3) := dk_182 (dw rcX12_readWalker_0 15 rfl) rfl
theorem dX12_readWalker_29 : decode cX12_readWalker 29 = .ok (.iastore, 1) := dk_79 (dw rcX12_readWalker_0 16 rfl)
theorem dX12_readWalker_30 : decode cX12_readWalker 30 = .ok (.aload_n 0, 1) := dk_42 (dw rcX12_readWalker_0 17 rfl)
theorem dX12_readWalker_31 : decode cX12_readWalker 31 = .ok (.getfield 63, 3) := dk_180 (dw rcX12_readWalker_0 18 rfl) rfl
theorem dX12_readWalker_34 : decode cX12_readWalker 34 = .ok (.iload_n 1, 1) := dk_27 (dw rcX12_readWalker_0 19 rfl)
theorem dX12_readWalker_35 : decode cX12_readWalker 35 = .ok (.aload_n 0, 1) := dk_42 (dw rcX12_readWalker_0 20 rfl)
theorem dX12_readWalker_36 : decode cX12_readWalker 36 = .ok (.ldc2_w 229, 3) := dk_20 (dw rcX12_readWalker_0 21 rfl) rfl
theorem dX12_readWalker_39 : decode cX12_readWalker 39 = .ok (.iconst 1, 1) := dk_4 (dw rcX12_readWalker_0 22 rfl)
theorem dX12_readWalker_40 : decode cX12_readWalker 40 = .ok (.bipush 60, 2) := dk_16 (dw rcX12_readWalker_0 23 rfl) rfl
def rbX12_readWalker_42 : List (Nat × List Nat) := [(42, [182, 1, 116]), (45, [79]), (46, [42]), (47, [180, 0, 66]), (50, [27]), (51, [42]), (52, [20, 0, 231]), (55, [42]), (56, [180, 0, 63]), (59, [27]), (60, [46]), (61, [16, 60]), (63, [182, 1, 116]), (66, [79]), (67, [42]), (68, [180, 0, 69]), (71, [27]), (72, [42]), (73, [180, 0, 66]), (76, [27]), (77, [46]), (78, [79]), (79, [42]), (80, [20, 0, 233])]
theorem rcX12_readWalker_42 : dgo (lb cX12_readWalker) 0 rbX12_readWalker_42 = true := by decide +kernel
theorem dX12_readWalker_42 : decode cX12_readWalker 42 = .ok (.invokevirtual 372, 3) := dk_182 (dw rcX12_readWalker_42 0 rfl) rfl
theorem dX12_readWalker_45 : decode cX12_readWalker 45 = .ok (.iastore, 1) := dk_79 (dw rcX12_readWalker_42 1 rfl)
theorem dX12_readWalker_46 : decode cX12_readWalker 46 = .ok (.aload_n 0, 1) := dk_42 (dw rcX12_readWalker_42 2 rfl)
theorem dX12_readWalker_47 : decode cX12_readWalker 47 = .ok (.getfield 66, 3) := dk_180 (dw rcX12_readWalker_42 3 rfl) rfl
theorem dX12_readWalker_50 : decode cX12_readWalker 50 = .ok (.iload_n 1, 1) := dk_27 (dw rcX12_readWalker_42 4 rfl)
theorem dX12_readWalker_51 : decode cX12_readWalker 51 = .ok (.aload_n 0, 1) := dk_42 (dw rcX12_readWalker_42 5 rfl)
theorem dX12_readWalker_52 : decode cX12_readWalker 52 = .ok (.ldc2_w 231, 3) := dk_20 (dw rcX12_readWalker_42 6 rfl) rfl
theorem dX12_readWalker_55 : decode cX12_readWalker 55 = .ok (.aload_n 0, 1) := dk_42 (dw rcX12_readWalker_42 7 rfl)
theorem dX12_readWalker_56 : decode cX12_readWalker 56 = .ok (.getfield 63, 3) := dk_180 (dw rcX12_readWalker_42 8 rfl) rfl
theorem dX12_readWalker_59 : decode cX12_readWalker 59 = .ok (.iload_n 1, 1) := dk_27 (dw rcX12_readWalker_42 9 rfl)
theorem dX12_readWalker_60 : decode cX12_readWalker 60 = .ok (.iaload, 1) := dk_46 (dw rcX12_readWalker_42 10 rfl)
theorem dX12_readWalker_61 : decode cX12_readWalker 61 = .ok (.bipush 60, 2) := dk_16 (dw rcX12_readWalker_42 11 rfl) rfl
theorem dX12_readWalker_63 : decode cX12_readWalker 63 = .ok (.invokevirtual 372, 3) := dk_182 (dw rcX12_readWalker_42 12 rfl) rfl
theorem dX12_readWalker_66 : decode cX12_readWalker 66 = .ok (.iastore, 1) := dk_79 (dw rcX12_readWalker_42 13 rfl)
theorem dX12_readWalker_67 : decode cX12_readWalker 67 = .ok (.aload_n 0, 1) := dk_42 (dw rcX12_readWalker_42 14 rfl)
theorem dX12_readWalker_68 : decode cX12_readWalker 68 = .ok (.getfield 69, 3) := dk_180 (dw rcX12_readWalker_42 15 rfl) rfl
theorem dX12_readWalker_71 : decode cX12_readWalker 71 = .ok (.iload_n 1, 1) := dk_27 (dw rcX12_readWalker_42 16 rfl)
theorem dX12_readWalker_72 : decode cX12_readWalker 72 = .ok (.aload_n 0, 1) := dk_42 (dw rcX12_readWalker_42 17 rfl)
theorem dX12_readWalker_73 : decode cX12_readWalker 73 = .ok (.getfield 66, 3) := dk_180 (dw rcX12_readWalker_42 18 rfl) rfl
theorem dX12_readWalker_76 : decode cX12_readWalker 76 = .ok (.iload_n 1, 1) := dk_27 (dw rcX12_readWalker_42 19 rfl)
theorem dX12_readWalker_77 : decode cX12_readWalker 77 = .ok (.iaload, 1) := dk_46 (dw rcX12_readWalker_42 20 rfl)
theorem dX12_readWalker_78 : decode cX12_readWalker 78 = .ok (.iastore, 1) := dk_79 (dw rcX12_readWalker_42 21 rfl)
theorem dX12_readWalker_79 : decode cX12_readWalker 79 = .ok (.aload_n 0, 1) := dk_42 (dw rcX12_readWalker_42 22 rfl)
theorem dX12_readWalker_80 : decode cX12_readWalker 80 = .ok (.ldc2_w 233, 3) := dk_20 (dw rcX12_readWalker_42 23 rfl) rfl
def rbX12_readWalker_83 : List (Nat × List Nat) := [(83, [182, 1, 126]), (86, [153, 0, 23]), (89, [42]), (90, [180, 0, 69]), (93, [27]), (94, [42]), (95, [42]), (96, [180, 0, 66]), (99, [27]), (100, [46]), (101, [4]), (102, [96]), (103, [16, 99]), (105, [182, 1, 33]), (108, [79]), (109, [42]), (110, [180, 0, 218]), (113, [154, 0, 13]), (116, [42]), (117, [89]), (118, [180, 1, 123]), (121, [4]), (122, [96]), (123, [181, 1, 123])]
theorem rcX12_readWalker_83 : dgo (lb cX12_readWalker) 0 rbX12_readWalker_83 = true := by decide +kernel
theorem dX12_readWalker_83 : decode cX12_readWalker 83 = .ok (.invokevirtual 382, 3) := dk_182 (dw rcX12_readWalker_83 0 rfl) rfl
theorem dX12_readWalker_86 : decode cX12_readWalker 86 = .ok (.ifCond .eq 23, 3) := dk_153 (dw rcX12_readWalker_83 1 rfl) rfl
theorem dX12_readWalker_89 : decode cX12_readWalker 89 = .ok (.aload_n 0, 1) := dk_42 (dw rcX12_readWalker_83 2 rfl)
theorem dX12_readWalker_90 : decode cX12_readWalker 90 = .ok (.getfield 69, 3) := dk_180 (dw rcX12_readWalker_83 3 rfl) rfl
theorem dX12_readWalker_93 : decode cX12_readWalker 93 = .ok (.iload_n 1, 1) := dk_27 (dw rcX12_readWalker_83 4 rfl)
theorem dX12_readWalker_94 : decode cX12_readWalker 94 = .ok (.aload_n 0, 1) := dk_42 (dw rcX12_readWalker_83 5 rfl)
theorem dX12_readWalker_95 : decode cX12_readWalker 95 = .ok (.aload_n 0, 1) := dk_42 (dw rcX12_readWalker_83 6 rfl)
theorem dX12_readWalker_96 : decode cX12_readWalker 96 = .ok (.getfield 66, 3) := dk_180 (dw rcX12_readWalker_83 7 rfl) rfl
theorem dX12_readWalker_99 : decode cX12_readWalker 99 = .ok (.iload_n 1, 1) := dk_27 (dw rcX12_readWalker_83 8 rfl)
theorem dX12_readWalker_100 : decode cX12_readWalker 100 = .ok (.iaload, 1) := dk_46 (dw rcX12_readWalker_83 9 rfl)
theorem dX12_readWalker_101 : decode cX12_readWalker 101 = .ok (.iconst 1, 1) := dk_4 (dw rcX12_readWalker_83 10 rfl)
theorem dX12_readWalker_102 : decode cX12_readWalker 102 = .ok (.iadd, 1) := dk_96 (dw rcX12_readWalker_83 11 rfl)
theorem dX12_readWalker_103 : decode cX12_readWalker 103 = .ok (.bipush 99, 2) := dk_16 (dw rcX12_readWalker_83 12 rfl) rfl
theorem dX12_readWalker_105 : decode cX12_readWalker 105 = .ok (.invokevirtual 289, 3) := dk_182 (dw rcX12_readWalker_83 13 rfl) rfl
theorem dX12_readWalker_108 : decode cX12_readWalker 108 = .ok (.iastore, 1) := dk_79 (dw rcX12_readWalker_83 14 rfl)
theorem dX12_readWalker_109 : decode cX12_readWalker 109 = .ok (.aload_n 0, 1) := dk_42 (dw rcX12_readWalker_83 15 rfl)
theorem dX12_readWalker_110 : decode cX12_readWalker 110 = .ok (.getfield 218, 3) := dk_180 (dw rcX12_readWalker_83 16 rfl) rfl
theorem dX12_readWalker_113 : decode cX12_readWalker 113 = .ok (.ifCond .ne 13, 3) := dk_154 (dw rcX12_readWalker_83 17 rfl) rfl
theorem dX12_readWalker_116 : decode cX12_readWalker 116 = .ok (.aload_n 0, 1) := dk_42 (dw rcX12_readWalker_83 18 rfl)
theorem dX12_readWalker_117 : decode cX12_readWalker 117 = .ok (.dup, 1) := dk_89 (dw rcX12_readWalker_83 19 rfl)
theorem dX12_readWalker_118 : decode cX12_readWalker 118 = .ok (.getfield 379, 3) := dk_180 (dw rcX12_readWalker_83 20 rfl) rfl
theorem dX12_readWalker_121 : decode cX12_readWalker 121 = .ok (.iconst 1, 1) := dk_4 (dw rcX12_readWalker_83 21 rfl)
theorem dX12_readWalker_122 : decode cX12_readWalker 122 = .ok (.iadd, 1) := dk_96 (dw rcX12_readWalker_83 22 rfl)
theorem dX12_readWalker_123 : decode cX12_readWalker 123 = .ok (.putfield 379, 3) := dk_181 (dw rcX12_readWalker_83 23 rfl) rfl
theorem dX12_readWalker_126 : decode cX12_readWalker 126 = .ok (.return_, 1) := dq_of (by decide +kernel)
set_option maxHeartbeats 4000000 in
set_option maxRecDepth 100000 in
theorem n_readStreet (l : Launch) (D : va_G) (k : KT) (A : Nat → Prop) (a : Nat → Nat) (z : SK) (G : GS)  (hnf : (G.1 66 2).toInt = 0) (hs : (G.1 66 45).toInt < 3) : Met l yX12_readStreet (WS yX12_readStreet cX12_readStreet 3 none) ({ frames := 4, cells := 0, slots := 0, locals := 93 }) (va_Pc [.ref (a 66)] (cW D k A a z G)) (va_Qv (fun (G1 : GS) => Q_readStreet G G1) (fun (G1 : GS) t => Wd D k A a G1 t.heap) A) 0 0 A := by
  refine Met.ofW (cc := cX12_readStreet) (maxL := 3) (ret := none) (by decide) rfl ?_
  intro p e s m args below meth c s₁ B hml hv
  obtain ⟨rfl, hW, hB_G, hK, hZ⟩ := hv
  have hx := B.exec
  have hb := B.bytes
  have hr := B.returns
  have hts := atoms_spec (ws := WS yX12_readStreet cX12_readStreet 3 none) B.pre
  have hgd : ∀ w ∈ gd, w ∈ WS yX12_readStreet cX12_readStreet 3 none := fun w h => List.mem_cons_of_mem _ h
  have hg : ∀ w ∈ gd, w.before _ s = true := fun w h => hts w (hgd w h)
  have hown : s.vm.findClass RX12 = some m.cls := findClass_of_methodNamed B.named
  have hS : va_S A s.heap s.heap [] := va_S.rf
  have hF : Fr [68, 77, 78, 79, 80, 81] [(66, 2), (66, 3), (66, 4), (66, 6), (66, 7), (66, 8), (66, 9), (66, 45)] G G := Fr.rf
  have hl := lv_entry ([.ref (a 66)]) (n := 3) (Nat.le_of_ble_eq_true rfl)
  rw [lg_entry_eq]
  generalize (lg_sl ([.ref (a 66)]) ++ List.replicate (3 - (lg_sl ([.ref (a 66)])).length) Slot.unset).toArray = ls at hl ⊢
  have hl : lv_has ls 3 [(0, .ref (a 66))] := hl
  refine lv_aload_n hx hb dX12_readStreet_0 rfl (lv_at hl 0 rfl) ?_
  refine ic_0 hx hb dX12_readStreet_1 ?_
  refine lv_aload_n hx hb dX12_readStreet_2 rfl (lv_at hl 0 rfl) ?_
  have b_1 : 0 ≤ (G.1 66 45).toInt ∧ (G.1 66 45).toInt ≤ 3 := bd_66_45 hB_G
  refine S_getI (v := (G.1 66 45)) (C := RX12) (T := TX12) (N := 89) hx hb hg iX12 hown hK hW kd_66 rfl 45 (lt_b rfl) (hg (Cond.fieldLink RX12 359 "SlabWalkModel" "nStreets" "I") m1359) (fun _ h9 => h9) rfl rfl dX12_readStreet_3 ?_
  have qc_2 : (0 : Int32).toInt = 0 := rfl
  refine S_callv (va_runV (As := [.int 0, .int (G.1 66 45)]) (rest := []) ⟨hx, hb, hml, hown, hts⟩ (n_newName l D k A a z G 0 (G.1 66 45) ⟨by decide, by decide⟩ ⟨by omega, by omega⟩) (cwV 2 hts (gd_V hgd m1632 m1634 m55 m131 m1635) rfl rfl rfl hd_X12_newName ⟨Nat.le_of_ble_eq_true rfl, Nat.le_of_ble_eq_true rfl⟩) (pre_W hW hB_G hK hZ hS kd_66 rfl) rfl rfl hl.1 rfl (lv_room (Nat.le_of_ble_eq_true rfl)) dX12_readStreet_6 ⟨Nat.le_of_ble_eq_true rfl, Nat.le_of_ble_eq_true rfl⟩) hS (fun G_4 H locs hpo hW hS => ?_)
  have hX_7 : Q_newName 0 (G.1 66 45) G G_4 := hpo
  obtain ⟨hB_G_4, hq_5, ⟨d_1, d_2, d_3⟩, -⟩ := hpo
  have hF := hF.call9 hq_5 rfl rfl
  refine lv_aload_n hx hb dX12_readStreet_9 rfl (lv_at hl 0 rfl) ?_
  refine lv_ldc2 (v := 457135713908) hx hb hown (hg (Cond.constantLong RX12 223 457135713908) m1644) dX12_readStreet_10 ?_
  refine ic_0 hx hb dX12_readStreet_13 ?_
  refine lv_bipush (v := 9) hx hb dX12_readStreet_14 (by decide) ?_
  have qc_8 : (0 : Int32).toInt = 0 := rfl
  have qc_9 : (9 : Int32).toInt = 9 := rfl
  have b_10 : 0 ≤ (G_4.1 66 2).toInt ∧ (G_4.1 66 2).toInt ≤ 4 := bd_66_2 hB_G_4
  have b_11 : 0 ≤ (G_4.1 66 4).toInt ∧ (G_4.1 66 4).toInt ≤ 1600 := bd_66_4 hB_G_4
  refine S_calli (va_runV (As := [.long 457135713908, .int 0, .int 9]) (rest := []) ⟨hx, hb, hml, hown, hts⟩ (n_told2 l D k A a z G_4 457135713908 0 9 ) (cwV 3 hts (gd_V hgd m1674 m1676 m60 m131 m1677) rfl rfl rfl hd_X12_told ⟨Nat.le_of_ble_eq_true rfl, Nat.le_of_ble_eq_true rfl⟩) (pre_W hW hB_G_4 hK hZ hS kd_66 rfl) rfl rfl hl.1 rfl (lv_room (Nat.le_of_ble_eq_true rfl)) dX12_readStreet_16 ⟨Nat.le_of_ble_eq_true rfl, Nat.le_of_ble_eq_true rfl⟩) hS (fun r_12 G_13 H locs hpo hW hS => ?_)
  have hX_16 : Q_told2 457135713908 0 9 G_4 r_12 G_13 := hpo
  obtain ⟨hB_G_13, hq_14, ⟨d_4, d_5, d_6, d_7⟩, -⟩ := hpo
  have hF := hF.call9 hq_14 rfl rfl
  refine lv_istore_n (lv' := [(1, .int r_12), (0, .ref (a 66))]) hx hb dX12_readStreet_19 rfl hl (lt_b rfl) rfl (fun ls hl => ?_)
  refine lv_aload_n hx hb dX12_readStreet_20 rfl (lv_at hl 1 rfl) ?_
  have b_17 : 0 ≤ (G_13.1 66 2).toInt ∧ (G_13.1 66 2).toInt ≤ 4 := bd_66_2 hB_G_13
  refine S_getI (v := (G_13.1 66 2)) (C := RX12) (T := TX12) (N := 89) hx hb hg iX12 hown hK hW kd_66 rfl 2 (lt_b rfl) (hg (Cond.fieldLink RX12 218 "SlabWalkModel" "fault" "I") m1316) (fun _ h9 => h9) rfl rfl dX12_readStreet_21 ?_
  refine lv_if_le (tgt := 28) hx hb dX12_readStreet_24 rfl (fun c_18 => ?_) (fun c_18 => ?_)
  · have c_18 : (G_13.1 66 2).toInt ≤ 0 := xI_le rfl rfl c_18
    refine lv_aload_n hx hb dX12_readStreet_28 rfl (lv_at hl 1 rfl) ?_
    refine S_getR (n := 81) (C := RX12) (T := TX12) (N := 89) hx hb hg iX12 hown hK hW kd_66 rfl 29 (lt_b rfl) (hg (Cond.fieldLink RX12 57 "SlabWalkModel" "nLength" "[I") m1343) (fun _ h9 => h9) rfl dX12_readStreet_29 ?_
    refine lv_aload_n hx hb dX12_readStreet_32 rfl (lv_at hl 1 rfl) ?_
    refine S_getI (v := (G.1 66 45)) (C := RX12) (T := TX12) (N := 89) hx hb hg iX12 hown hK hW kd_66 rfl 45 (lt_b rfl) (hg (Cond.fieldLink RX12 359 "SlabWalkModel" "nStreets" "I") m1359) (fun _ h9 => h9) rfl ((hq_14.i9 66 45 rfl rfl).trans ((hq_5.i9 66 45 rfl rfl).trans (rfl))) dX12_readStreet_33 ?_
    refine ic_0 hx hb dX12_readStreet_36 ?_
    refine S_iast hx hb hK hW hS kd_81 (vin ((by first | (clear hnf d_1 d_2 d_3 b_10 b_11 d_4 d_5 d_6 d_7 b_17 c_18; omega) | omega)) ((by first | (clear hnf d_1 d_2 d_3 b_10 b_11 d_4 d_5 d_6 d_7 b_17 c_18; omega) | omega))) dX12_readStreet_37 (fun G_19 H locs eG_19 hW hS => ?_)
    have hB_G_19 : Bd G_19 := hB_G_13.put (V := 0) (lo := 0) (hi := 400) eG_19 rfl rfl rfl (by decide) (by decide) (hB_G_13.2.put eG_19 rfl)
    have hF := hF.put eG_19 (Or.inl (by decide))
    refine ic_0 hx hb dX12_readStreet_38 ?_
    refine lv_istore_n (lv' := [(2, .int 0), (1, .int r_12), (0, .ref (a 66))]) hx hb dX12_readStreet_39 rfl hl (lt_b rfl) rfl (fun ls hl => ?_)
    have g_26 : (G_19.1 81 (G.1 66 45).toNatClampNeg).toInt = 0 := by rw [show G_19.1 81 (G.1 66 45).toNatClampNeg = 0 from (gp_eq eG_19)]; rfl
    have g_27 : (G_19.1 66 2).toInt = (G_13.1 66 2).toInt := (congrArg Int32.toInt (show G_19.1 66 2 = (G_13.1 66 2) from ((gp_ne eG_19 (fun q => absurd q.1 (Nat.ne_of_beq_eq_false rfl))).trans (rfl))))
    have b_28 : 0 ≤ (G_13.1 66 4).toInt ∧ (G_13.1 66 4).toInt ≤ 1600 := bd_66_4 hB_G_13
    have g_29 : (G_19.1 66 4).toInt = (G_13.1 66 4).toInt := (congrArg Int32.toInt (show G_19.1 66 4 = (G_13.1 66 4) from (gp_ne eG_19 (fun q => absurd q.1 (Nat.ne_of_beq_eq_false rfl)))))
    have g_30 : (G_19.1 66 6).toInt = (G_13.1 66 6).toInt := (congrArg Int32.toInt (show G_19.1 66 6 = (G_13.1 66 6) from (gp_ne eG_19 (fun q => absurd q.1 (Nat.ne_of_beq_eq_false rfl)))))
    have g_31 : (G_19.1 81 (G.1 66 45).toNatClampNeg).toInt = 0 := by rw [show G_19.1 81 (G.1 66 45).toNatClampNeg = 0 from (gp_eq eG_19)]; rfl
    have qc_32 : (0 : Int32).toInt = 0 := rfl
    refine loop_N (Inv := fun n H locs ls => ∃ (G_20 : GS) (x_24 : Int32), (n : Int) = 5 * (400 - (G_20.1 81 (G.1 66 45).toNatClampNeg).toInt) + (4 - (G_20.1 66 2).toInt) ∧ ((G.1 66 4).toInt ≤ (G_20.1 66 4).toInt ∧ ((G_20.1 66 4).toInt = (G.1 66 4).toInt → (G_20.1 66 6).toInt = (G.1 66 6).toInt ∨ (G_20.1 66 6).toInt ≤ 3)) ∧ (0 ≤ (G_20.1 81 (G.1 66 45).toNatClampNeg).toInt ∧ (G_20.1 81 (G.1 66 45).toNatClampNeg).toInt ≤ 400) ∧ Rc (St_n_readStreet_1 r_12 G) (0, G_19) (x_24, G_20) ∧ Wd D k A a G_20 H ∧ Bd G_20 ∧ Fr [68, 77, 78, 79, 80, 81] [(66, 2), (66, 3), (66, 4), (66, 6), (66, 7), (66, 8), (66, 9), (66, 45)] G G_20 ∧ Fr [77, 78, 79, 80, 81] [(66, 2), (66, 3), (66, 4), (66, 6), (66, 7), (66, 8), (66, 9)] G_19 G_20 ∧ va_S A s.heap H locs ∧ lv_has ls 3 [(2, .int x_24), (1, .int r_12), (0, .ref (a 66))]) (fun n_23 H locs ls ih_22 hI => ?_) (5 * (400 - (G_19.1 81 (G.1 66 45).toNatClampNeg).toInt) + (4 - (G_19.1 66 2).toInt) : Int).toNat ⟨G_19, 0, (Int.toNat_of_nonneg ((by first | (clear d_1 d_2 b_11 d_4 d_5 b_28 g_29 g_30; omega) | omega))), ((by first | exact ⟨((by first | (clear hnf hs b_1 d_3 b_10 d_6 d_7 b_17 c_18 g_26 g_27 g_31; omega) | omega)), (fun h9 => by have q0_ := d_2 (by (clear hnf hs b_1 d_2 d_3 b_10 d_5 d_6 d_7 b_17 c_18 g_26 g_27 g_30 g_31; omega)); have q1_ := d_5 (by (clear hnf hs b_1 d_2 d_3 b_10 d_5 d_6 d_7 b_17 c_18 g_26 g_27 g_30 g_31; omega)); (clear hnf hs b_1 d_1 d_2 d_3 b_10 b_11 d_4 d_5 d_6 d_7 b_17 c_18 g_26 g_27 b_28 g_29 g_31; omega))⟩ | omega)), ((by first | exact ⟨((by first | (clear hnf d_1 d_2 d_3 b_10 b_11 d_4 d_5 d_6 d_7 b_17 c_18 g_27 b_28 g_29 g_30; omega) | omega)), ((by first | (clear hnf d_1 d_2 d_3 b_10 b_11 d_4 d_5 d_6 d_7 b_17 c_18 g_27 b_28 g_29 g_30; omega) | omega))⟩ | omega)), Rc.rf, hW, hB_G_19, hF, Fr.rf, hS, lv_sub hl [0, 1, 2] rfl⟩
    obtain ⟨G_20, x_24, hn_35, f_33, f_34, hX_25, hW, hB_G_20, hF, hq_21, hS, hl⟩ := hI
    have d_8 := f_33.1
    have d_9 := f_33.2
    have b_36 : 0 ≤ (G_20.1 66 4).toInt ∧ (G_20.1 66 4).toInt ≤ 1600 := bd_66_4 hB_G_20
    refine lv_aload_n hx hb dX12_readStreet_40 rfl (lv_at hl 2 rfl) ?_
    have b_37 : 0 ≤ (G_20.1 66 2).toInt ∧ (G_20.1 66 2).toInt ≤ 4 := bd_66_2 hB_G_20
    refine S_getI (v := (G_20.1 66 2)) (C := RX12) (T := TX12) (N := 89) hx hb hg iX12 hown hK hW kd_66 rfl 2 (lt_b rfl) (hg (Cond.fieldLink RX12 218 "SlabWalkModel" "fault" "I") m1316) (fun _ h9 => h9) rfl rfl dX12_readStreet_41 ?_
    refine lv_if_ne (tgt := 71) hx hb dX12_readStreet_44 rfl (fun c_38 => ?_) (fun c_38 => ?_)
    · have c_38 : (G_20.1 66 2).toInt ≠ 0 := xI_ne rfl rfl c_38
      refine lv_aload_n hx hb dX12_readStreet_71 rfl (lv_at hl 2 rfl) ?_
      refine S_getI (v := (G_20.1 66 2)) (C := RX12) (T := TX12) (N := 89) hx hb hg iX12 hown hK hW kd_66 rfl 2 (lt_b rfl) (hg (Cond.fieldLink RX12 218 "SlabWalkModel" "fault" "I") m1316) (fun _ h9 => h9) rfl rfl dX12_readStreet_72 ?_
      refine lv_if_ne (tgt := 88) hx hb dX12_readStreet_75 rfl (fun c_39 => ?_) (fun c_39 => ?_)
      · have c_39 : (G_20.1 66 2).toInt ≠ 0 := xI_ne rfl rfl c_39
        exact W.vret hx hb hr (fun t ht _ => ⟨⟨G_20, rfl, (Q_readStreet_mk ⟨hB_G_20, hF, ((by first | exact ⟨((by first | (clear hnf hs b_1 d_3 b_10 d_6 d_7 b_17 c_18 g_26 g_27 b_28 g_31 hn_35 f_33 f_34 b_37 c_38 c_39; omega) | omega)), (fun h9 => by have q0_ := d_9 (by (clear hnf hs b_1 d_2 d_3 b_10 d_5 d_6 d_7 b_17 c_18 g_26 g_27 b_28 g_30 g_31 hn_35 f_33 f_34 d_9 b_37 c_38 c_39; omega)); (clear hnf hs b_1 d_1 d_2 d_3 b_10 b_11 d_4 d_5 d_6 d_7 b_17 c_18 g_26 g_27 b_28 g_29 g_30 g_31 hn_35 f_33 f_34 d_8 d_9 b_36 b_37 c_38 c_39; omega))⟩ | omega)), ⟨G_4, hX_7, ⟨r_12, G_13, hX_16, (Or.inl ⟨c_18, ⟨G_19, hB_G_19, (Fr.put (rs := [81]) (fs := []) Fr.rf eG_19 (Or.inl (by decide))), rw_ast eG_19, ⟨x_24, G_20, hX_25, f_33, f_34, hB_G_20, hq_21, (Or.inr ⟨c_38, rfl⟩)⟩⟩⟩)⟩⟩⟩), wd_t ht hW⟩, hS.F ht⟩) hS.2.2 dX12_readStreet_88
      · have c_39 : (G_20.1 66 2).toInt = 0 := xI_eq rfl rfl c_39
        exfalso; first | (clear hnf hs b_1 d_1 d_2 d_3 b_10 b_11 d_4 d_5 d_6 d_7 b_17 c_18 g_26 g_27 b_28 g_29 g_30 g_31 hn_35 f_33 f_34 d_8 d_9 b_36; omega) | omega
    · have c_38 : (G_20.1 66 2).toInt = 0 := xI_eq rfl rfl c_38
      refine lv_iload_n hx hb dX12_readStreet_47 rfl (lv_at hl 0 rfl) ?_
      refine lv_if_eq (tgt := 59) hx hb dX12_readStreet_48 rfl (fun c_40 => ?_) (fun c_40 => ?_)
      · have c_40 : x_24.toInt = 0 := xI_eq rfl rfl c_40
        refine lv_aload_n hx hb dX12_readStreet_59 rfl (lv_at hl 2 rfl) ?_
        refine lv_iload_n hx hb dX12_readStreet_60 rfl (lv_at hl 1 rfl) ?_
        refine lv_iload_n hx hb dX12_readStreet_61 rfl (lv_at hl 0 rfl) ?_
        have g_41 : (G_20.1 66 45).toInt = (G.1 66 45).toInt := (congrArg Int32.toInt (show G_20.1 66 45 = (G.1 66 45) from ((hq_21.i9 66 45 rfl rfl).trans ((gp_ne eG_19 (fun q => absurd q.1 (Nat.ne_of_beq_eq_false rfl))).trans ((hq_14.i9 66 45 rfl rfl).trans ((hq_5.i9 66 45 rfl rfl).trans (rfl)))))))
        refine S_callv (va_runV (As := [.int r_12, .int x_24]) (rest := []) ⟨hx, hb, hml, hown, hts⟩ (n_readSlab l D k A a z G_20 r_12 x_24 ((G.1 66 45).toNatClampNeg) (show (G_20.1 66 45).toNatClampNeg = (G.1 66 45).toNatClampNeg from congrArg Int32.toNatClampNeg (((hq_21.i9 66 45 rfl rfl).trans ((gp_ne eG_19 (fun q => absurd q.1 (Nat.ne_of_beq_eq_false rfl))).trans ((hq_14.i9 66 45 rfl rfl).trans ((hq_5.i9 66 45 rfl rfl).trans (rfl))))))) ⟨(by first | (clear hnf hs b_1 d_1 d_2 d_3 b_10 b_11 d_4 d_5 g_26 b_28 g_29 g_30 g_31 hn_35 f_33 f_34 d_8 d_9 b_36 b_37 c_38 c_40 g_41; omega) | omega), (by first | (clear hnf hs b_1 d_1 d_2 d_3 b_10 b_11 d_4 d_5 g_26 b_28 g_29 g_30 g_31 hn_35 f_33 f_34 d_8 d_9 b_36 b_37 c_38 c_40 g_41; omega) | omega)⟩ ((by first | (clear hnf hs b_1 d_1 d_2 d_3 b_10 b_11 d_4 d_5 d_6 d_7 b_17 c_18 g_26 g_27 b_28 g_29 g_30 g_31 hn_35 f_33 f_34 d_8 d_9 b_36 c_40 g_41; omega) | omega)) ((by first | (clear hnf d_1 d_2 d_3 b_10 b_11 d_4 d_5 d_6 d_7 b_17 c_18 g_27 b_28 g_29 g_30 hn_35 f_33 d_8 d_9 b_36 b_37 c_38 c_40; omega) | omega))) (cwV 2 hts (gd_V hgd m1686 m1688 m63 m131 m1689) rfl rfl rfl hd_X12_readSlab ⟨Nat.le_of_ble_eq_true rfl, Nat.le_of_ble_eq_true rfl⟩) (pre_W hW hB_G_20 hK hZ hS kd_66 rfl) rfl rfl hl.1 rfl (lv_room (Nat.le_of_ble_eq_true rfl)) dX12_readStreet_62 ⟨Nat.le_of_ble_eq_true rfl, Nat.le_of_ble_eq_true rfl⟩) hS (fun G_43 H locs hpo hW hS => ?_)
        have hX_46 : Q_readSlab r_12 x_24 ((G.1 66 45).toNatClampNeg) G_20 G_43 := hpo
        obtain ⟨hB_G_43, hq_44, ⟨d_10, d_11, d_12, d_13, d_14⟩, -⟩ := hpo
        have hF := hF.call9 hq_44 rfl rfl
        obtain ⟨y_47, ey_47⟩ : ∃ q, q = x_24 + 1 := ⟨_, rfl⟩
        have ty_47 : y_47.toInt = x_24.toInt + 1 := xI_add rfl rfl ey_47 ((by first | (clear hnf hs b_1 d_1 d_2 d_3 b_10 b_11 d_4 d_5 d_6 d_7 b_17 c_18 g_26 g_27 b_28 g_29 g_30 g_31 hn_35 f_33 f_34 d_8 d_9 b_36 b_37 c_38 g_41 d_10 d_11 d_12 d_13 d_14; omega) | omega)) ((by first | (clear hnf hs b_1 d_1 d_2 d_3 b_10 b_11 d_4 d_5 d_6 d_7 b_17 c_18 g_26 g_27 b_28 g_29 g_30 g_31 hn_35 f_33 f_34 d_8 d_9 b_36 b_37 c_38 g_41 d_10 d_11 d_12 d_13 d_14; omega) | omega))
        refine lv_iinc (v := y_47) (lv' := [(2, .int y_47), (1, .int r_12), (0, .ref (a 66))]) hx hb dX12_readStreet_65 hl (k := 0) rfl (by rw [ey_47]; rfl) (lt_b rfl) rfl (fun ls hl => ?_)
        refine lv_goto (tgt := 40) hx hb dX12_readStreet_68 rfl ?_
        have b_48 : 0 ≤ (G_43.1 66 2).toInt ∧ (G_43.1 66 2).toInt ≤ 4 := bd_66_2 hB_G_43
        have b_49 : 0 ≤ (G_43.1 66 4).toInt ∧ (G_43.1 66 4).toInt ≤ 1600 := bd_66_4 hB_G_43
        exact ih_22 (5 * (400 - (G_43.1 81 (G.1 66 45).toNatClampNeg).toInt) + (4 - (G_43.1 66 2).toInt) : Int).toNat ((by first | (clear hnf d_1 d_2 d_3 b_10 b_11 d_4 d_5 d_6 d_7 b_17 c_18 g_27 b_28 g_29 g_30 f_33 d_8 d_9 b_36 c_40 d_10 d_11 ty_47 b_49; omega) | omega)) _ _ _ ⟨G_43, y_47, (Int.toNat_of_nonneg ((by first | (clear hnf d_1 d_2 d_3 b_10 b_11 d_4 d_5 d_6 d_7 b_17 c_18 g_27 b_28 g_29 g_30 hn_35 f_33 d_8 d_9 b_36 b_37 c_38 c_40 d_10 d_11 ty_47 b_49; omega) | omega))), ((by first | exact ⟨((by first | (clear hnf hs b_1 d_3 b_10 d_6 d_7 b_17 c_18 g_26 g_27 b_28 g_31 hn_35 f_33 f_34 b_37 c_38 c_40 g_41 d_12 d_13 d_14 ty_47 b_48; omega) | omega)), (fun h9 => by have q0_ := d_9 (by (clear hnf hs b_1 d_2 d_3 b_10 d_5 d_6 d_7 b_17 c_18 g_26 g_27 b_28 g_30 g_31 hn_35 f_33 f_34 d_9 b_37 c_38 c_40 g_41 d_11 d_12 d_13 d_14 ty_47 b_48; omega)); have q1_ := d_11 (by (clear hnf hs b_1 d_2 d_3 b_10 d_5 d_6 d_7 b_17 c_18 g_26 g_27 b_28 g_30 g_31 hn_35 f_33 f_34 d_9 b_37 c_38 c_40 g_41 d_11 d_12 d_13 d_14 ty_47 b_48; omega)); (clear hnf hs b_1 d_1 d_2 d_3 b_10 b_11 d_4 d_5 d_6 d_7 b_17 c_18 g_26 g_27 b_28 g_29 g_30 g_31 hn_35 f_33 f_34 d_8 d_9 b_36 b_37 c_38 c_40 g_41 d_10 d_11 d_12 d_13 d_14 ty_47 b_48 b_49; omega))⟩ | omega)), ((by first | exact ⟨((by first | (clear hnf d_1 d_2 d_3 b_10 b_11 d_4 d_5 d_6 d_7 b_17 c_18 g_27 b_28 g_29 g_30 hn_35 f_33 d_8 d_9 b_36 b_37 c_38 c_40 d_10 d_11 ty_47 b_49; omega) | omega)), ((by first | (clear hnf d_1 d_2 d_3 b_10 b_11 d_4 d_5 d_6 d_7 b_17 c_18 g_27 b_28 g_29 g_30 hn_35 f_33 d_8 d_9 b_36 b_37 c_38 c_40 d_10 d_11 ty_47 b_49; omega) | omega))⟩ | omega)), (hX_25.st (St_n_readStreet_1_mk ⟨x_24, G_20, y_47, G_43, rfl, rfl, f_33, f_34, hB_G_20, ⟨c_38, (Or.inl ⟨c_40, ⟨G_43, hX_46, ⟨y_47, ty_47, ⟨rfl, rfl⟩⟩⟩⟩)⟩⟩)), hW, hB_G_43, hF, (Fr.call9 (rs := [77, 78, 79, 80, 81]) (fs := [(66, 2), (66, 3), (66, 4), (66, 6), (66, 7), (66, 8), (66, 9)]) (Fr.call9 (rs := [77, 78, 79, 80, 81]) (fs := [(66, 2), (66, 3), (66, 4), (66, 6), (66, 7), (66, 8), (66, 9)]) Fr.rf hq_21 rfl rfl) hq_44 rfl rfl), hS, lv_sub hl [0, 1, 2] rfl⟩
      · have c_40 : x_24.toInt ≠ 0 := xI_ne rfl rfl c_40
        refine lv_aload_n hx hb dX12_readStreet_51 rfl (lv_at hl 2 rfl) ?_
        refine S_getI (v := (G_20.1 66 6)) (C := RX12) (T := TX12) (N := 89) hx hb hg iX12 hown hK hW kd_66 rfl 6 (lt_b rfl) (hg (Cond.fieldLink RX12 205 "SlabWalkModel" "sort" "I") m1320) (fun _ h9 => h9) rfl rfl dX12_readStreet_52 ?_
        refine ic_2 hx hb dX12_readStreet_55 ?_
        refine lv_icmp_ne (tgt := 71) hx hb dX12_readStreet_56 rfl (fun c_50 => ?_) (fun c_50 => ?_)
        · have c_50 : (G_20.1 66 6).toInt ≠ 2 := xI_ne rfl rfl c_50
          refine lv_aload_n hx hb dX12_readStreet_71 rfl (lv_at hl 2 rfl) ?_
          refine S_getI (v := (G_20.1 66 2)) (C := RX12) (T := TX12) (N := 89) hx hb hg iX12 hown hK hW kd_66 rfl 2 (lt_b rfl) (hg (Cond.fieldLink RX12 218 "SlabWalkModel" "fault" "I") m1316) (fun _ h9 => h9) rfl rfl dX12_readStreet_72 ?_
          refine lv_if_ne (tgt := 88) hx hb dX12_readStreet_75 rfl (fun c_51 => ?_) (fun c_51 => ?_)
          · have c_51 : (G_20.1 66 2).toInt ≠ 0 := xI_ne rfl rfl c_51
            exfalso; first | (clear hnf hs b_1 d_1 d_2 d_3 b_10 b_11 d_4 d_5 d_6 d_7 b_17 c_18 g_26 g_27 b_28 g_29 g_30 g_31 hn_35 f_33 f_34 d_8 d_9 b_36 c_40 c_50; omega) | omega
          · have c_51 : (G_20.1 66 2).toInt = 0 := xI_eq rfl rfl c_51
            refine lv_aload_n hx hb dX12_readStreet_78 rfl (lv_at hl 2 rfl) ?_
            refine lv_dup hx hb dX12_readStreet_79 rfl ?_
            refine S_getI (v := (G.1 66 45)) (C := RX12) (T := TX12) (N := 89) hx hb hg iX12 hown hK hW kd_66 rfl 45 (lt_b rfl) (hg (Cond.fieldLink RX12 359 "SlabWalkModel" "nStreets" "I") m1359) (fun _ h9 => h9) rfl ((hq_21.i9 66 45 rfl rfl).trans ((gp_ne eG_19 (fun q => absurd q.1 (Nat.ne_of_beq_eq_false rfl))).trans ((hq_14.i9 66 45 rfl rfl).trans ((hq_5.i9 66 45 rfl rfl).trans (rfl))))) dX12_readStreet_80 ?_
            refine ic_1 hx hb dX12_readStreet_83 ?_
            refine lv_iadd hx hb dX12_readStreet_84 ?_
            refine lv_topi (fun y_52 ey_52 => ?_)
            have ty_52 : y_52.toInt = (G.1 66 45).toInt + 1 := xI_add rfl rfl ey_52 ((by first | (clear hnf d_1 d_2 d_3 b_10 b_11 d_4 d_5 d_6 d_7 b_17 c_18 g_27 b_28 g_29 g_30 hn_35 f_33 d_8 d_9 b_36 b_37 c_38 c_40 c_50 c_51; omega) | omega)) ((by first | (clear hnf d_1 d_2 d_3 b_10 b_11 d_4 d_5 d_6 d_7 b_17 c_18 g_27 b_28 g_29 g_30 hn_35 f_33 d_8 d_9 b_36 b_37 c_38 c_40 c_50 c_51; omega) | omega))
            refine S_putI (ty := .int) (C := RX12) (T := TX12) (N := 89) hx hb hg iX12 tyX12 tyX12_ok nmX12 hown hK hW hS kd_66 rfl 45 (lt_b rfl) (hg (Cond.fieldLink RX12 359 "SlabWalkModel" "nStreets" "I") m1359) (fun _ h9 => h9) rfl (by decide +kernel) rfl rfl rfl dX12_readStreet_85 (fun G_53 H locs eG_53 hW hS => ?_)
            have hB_G_53 : Bd G_53 := hB_G_20.put (V := y_52.toInt) (lo := 0) (hi := 3) eG_53 rfl rfl rfl ((by first | (clear hnf d_1 d_2 d_3 b_10 b_11 d_4 d_5 d_6 d_7 b_17 c_18 g_27 b_28 g_29 g_30 hn_35 f_33 d_8 d_9 b_36 b_37 c_38 c_40 c_50 c_51; omega) | omega)) ((by first | (clear hnf d_1 d_2 d_3 b_10 b_11 d_4 d_5 d_6 d_7 b_17 c_18 g_27 b_28 g_29 g_30 hn_35 f_33 d_8 d_9 b_36 b_37 c_38 c_40 c_50 c_51; omega) | omega)) (hB_G_20.2.put eG_53 rfl)
            have hF := hF.put eG_53 (Or.inr (by decide))
            have g_54 : (G_53.1 66 4).toInt = (G_20.1 66 4).toInt := (congrArg Int32.toInt (show G_53.1 66 4 = (G_20.1 66 4) from ((gp_ne eG_53 (by decide)).trans (rfl))))
            have g_55 : (G_53.1 66 6).toInt = (G_20.1 66 6).toInt := (congrArg Int32.toInt (show G_53.1 66 6 = (G_20.1 66 6) from ((gp_ne eG_53 (by decide)).trans (rfl))))
            exact W.vret hx hb hr (fun t ht _ => ⟨⟨G_53, rfl, (Q_readStreet_mk ⟨hB_G_53, hF, ((by first | exact ⟨((by first | (clear hnf hs b_1 d_3 b_10 d_6 d_7 b_17 c_18 g_26 g_27 b_28 g_31 hn_35 f_33 f_34 b_37 c_38 c_40 c_51 ty_52; omega) | omega)), (fun h9 => by have q0_ := d_9 (by (clear hnf hs b_1 d_2 d_3 b_10 d_5 d_6 d_7 b_17 c_18 g_26 g_27 b_28 g_30 g_31 hn_35 f_33 f_34 d_9 b_37 c_38 c_40 c_50 c_51 ty_52 g_55; omega)); (clear hnf hs b_1 d_1 d_2 d_3 b_10 b_11 d_4 d_5 d_6 d_7 b_17 c_18 g_26 g_27 b_28 g_29 g_30 g_31 hn_35 f_33 f_34 d_8 d_9 b_36 b_37 c_38 c_40 c_50 c_51 ty_52 g_54; omega))⟩ | omega)), ⟨G_4, hX_7, ⟨r_12, G_13, hX_16, (Or.inl ⟨c_18, ⟨G_19, hB_G_19, (Fr.put (rs := [81]) (fs := []) Fr.rf eG_19 (Or.inl (by decide))), rw_ast eG_19, ⟨x_24, G_20, hX_25, f_33, f_34, hB_G_20, hq_21, (Or.inl ⟨c_38, ⟨c_40, ⟨c_50, ⟨y_52, ty_52, ⟨(Fr.put (rs := []) (fs := [(66, 45)]) Fr.rf eG_53 (Or.inr (by decide))), (gp_eq eG_53)⟩⟩⟩⟩⟩)⟩⟩⟩)⟩⟩⟩), wd_t ht hW⟩, hS.F ht⟩) hS.2.2 dX12_readStreet_88
        · have c_50 : (G_20.1 66 6).toInt = 2 := xI_eq rfl rfl c_50
          refine lv_aload_n hx hb dX12_readStreet_59 rfl (lv_at hl 2 rfl) ?_
          refine lv_iload_n hx hb dX12_readStreet_60 rfl (lv_at hl 1 rfl) ?_
          refine lv_iload_n hx hb dX12_readStreet_61 rfl (lv_at hl 0 rfl) ?_
          have g_56 : (G_20.1 66 45).toInt = (G.1 66 45).toInt := (congrArg Int32.toInt (show G_20.1 66 45 = (G.1 66 45) from ((hq_21.i9 66 45 rfl rfl).trans ((gp_ne eG_19 (fun q => absurd q.1 (Nat.ne_of_beq_eq_false rfl))).trans ((hq_14.i9 66 45 rfl rfl).trans ((hq_5.i9 66 45 rfl rfl).trans (rfl)))))))
          refine S_callv (va_runV (As := [.int r_12, .int x_24]) (rest := []) ⟨hx, hb, hml, hown, hts⟩ (n_readSlab l D k A a z G_20 r_12 x_24 ((G.1 66 45).toNatClampNeg) (show (G_20.1 66 45).toNatClampNeg = (G.1 66 45).toNatClampNeg from congrArg Int32.toNatClampNeg (((hq_21.i9 66 45 rfl rfl).trans ((gp_ne eG_19 (fun q => absurd q.1 (Nat.ne_of_beq_eq_false rfl))).trans ((hq_14.i9 66 45 rfl rfl).trans ((hq_5.i9 66 45 rfl rfl).trans (rfl))))))) ⟨(by first | (clear hnf hs b_1 d_1 d_2 d_3 b_10 b_11 d_4 d_5 g_26 b_28 g_29 g_30 g_31 hn_35 f_33 f_34 d_8 d_9 b_36 b_37 c_38 c_40 c_50 g_56; omega) | omega), (by first | (clear hnf hs b_1 d_1 d_2 d_3 b_10 b_11 d_4 d_5 g_26 b_28 g_29 g_30 g_31 hn_35 f_33 f_34 d_8 d_9 b_36 b_37 c_38 c_40 c_50 g_56; omega) | omega)⟩ ((by first | (clear hnf hs b_1 d_1 d_2 d_3 b_10 b_11 d_4 d_5 d_6 d_7 b_17 c_18 g_26 g_27 b_28 g_29 g_30 g_31 hn_35 f_33 f_34 d_8 d_9 b_36 c_40 c_50 g_56; omega) | omega)) ((by first | (clear hnf d_1 d_2 d_3 b_10 b_11 d_4 d_5 d_6 d_7 b_17 c_18 g_27 b_28 g_29 g_30 hn_35 f_33 d_8 d_9 b_36 b_37 c_38 c_40 c_50; omega) | omega))) (cwV 2 hts (gd_V hgd m1686 m1688 m63 m131 m1689) rfl rfl rfl hd_X12_readSlab ⟨Nat.le_of_ble_eq_true rfl, Nat.le_of_ble_eq_true rfl⟩) (pre_W hW hB_G_20 hK hZ hS kd_66 rfl) rfl rfl hl.1 rfl (lv_room (Nat.le_of_ble_eq_true rfl)) dX12_readStreet_62 ⟨Nat.le_of_ble_eq_true rfl, Nat.le_of_ble_eq_true rfl⟩) hS (fun G_58 H locs hpo hW hS => ?_)
          have hX_61 : Q_readSlab r_12 x_24 ((G.1 66 45).toNatClampNeg) G_20 G_58 := hpo
          obtain ⟨hB_G_58, hq_59, ⟨d_15, d_16, d_17, d_18, d_19⟩, -⟩ := hpo
          have hF := hF.call9 hq_59 rfl rfl
          obtain ⟨y_62, ey_62⟩ : ∃ q, q = x_24 + 1 := ⟨_, rfl⟩
          refine lv_iinc (v := y_62) (lv' := [(2, .int y_62), (1, .int r_12), (0, .ref (a 66))]) hx hb dX12_readStreet_65 hl (k := 0) rfl (by rw [ey_62]; rfl) (lt_b rfl) rfl (fun ls hl => ?_)
          refine lv_goto (tgt := 40) hx hb dX12_readStreet_68 rfl ?_
          have b_63 : 0 ≤ (G_58.1 66 2).toInt ∧ (G_58.1 66 2).toInt ≤ 4 := bd_66_2 hB_G_58
          have b_64 : 0 ≤ (G_58.1 66 4).toInt ∧ (G_58.1 66 4).toInt ≤ 1600 := bd_66_4 hB_G_58
          exact ih_22 (5 * (400 - (G_58.1 81 (G.1 66 45).toNatClampNeg).toInt) + (4 - (G_58.1 66 2).toInt) : Int).toNat ((by first | (clear hnf d_1 d_2 d_3 b_10 b_11 d_4 d_5 d_6 d_7 b_17 c_18 g_27 b_28 g_29 g_30 f_33 d_8 d_9 b_36 c_40 c_50 d_15 d_16 b_64; omega) | omega)) _ _ _ ⟨G_58, y_62, (Int.toNat_of_nonneg ((by first | (clear hnf d_1 d_2 d_3 b_10 b_11 d_4 d_5 d_6 d_7 b_17 c_18 g_27 b_28 g_29 g_30 hn_35 f_33 d_8 d_9 b_36 b_37 c_38 c_40 c_50 d_15 d_16 b_64; omega) | omega))), ((by first | exact ⟨((by first | (clear hnf hs b_1 d_3 b_10 d_6 d_7 b_17 c_18 g_26 g_27 b_28 g_31 hn_35 f_33 f_34 b_37 c_38 c_40 g_56 d_17 d_18 d_19 b_63; omega) | omega)), (fun h9 => by have q0_ := d_9 (by (clear hnf hs b_1 d_2 d_3 b_10 d_5 d_6 d_7 b_17 c_18 g_26 g_27 b_28 g_30 g_31 hn_35 f_33 f_34 d_9 b_37 c_38 c_40 c_50 g_56 d_16 d_17 d_18 d_19 b_63; omega)); have q1_ := d_16 (by (clear hnf hs b_1 d_2 d_3 b_10 d_5 d_6 d_7 b_17 c_18 g_26 g_27 b_28 g_30 g_31 hn_35 f_33 f_34 d_9 b_37 c_38 c_40 c_50 g_56 d_16 d_17 d_18 d_19 b_63; omega)); (clear hnf hs b_1 d_1 d_2 d_3 b_10 b_11 d_4 d_5 d_6 d_7 b_17 c_18 g_26 g_27 b_28 g_29 g_30 g_31 hn_35 f_33 f_34 d_8 d_9 b_36 b_37 c_38 c_40 g_56 d_15 d_16 d_17 d_18 d_19 b_63 b_64; omega))⟩ | omega)), ((by first | exact ⟨((by first | (clear hnf d_1 d_2 d_3 b_10 b_11 d_4 d_5 d_6 d_7 b_17 c_18 g_27 b_28 g_29 g_30 hn_35 f_33 d_8 d_9 b_36 b_37 c_38 c_40 c_50 d_15 d_16 b_64; omega) | omega)), ((by first | (clear hnf d_1 d_2 d_3 b_10 b_11 d_4 d_5 d_6 d_7 b_17 c_18 g_27 b_28 g_29 g_30 hn_35 f_33 d_8 d_9 b_36 b_37 c_38 c_40 c_50 d_15 d_16 b_64; omega) | omega))⟩ | omega)), (hX_25.st (St_n_readStreet_1_mk ⟨x_24, G_20, y_62, G_58, rfl, rfl, f_33, f_34, hB_G_20, ⟨c_38, (Or.inr ⟨c_40, ⟨c_50, ⟨G_58, hX_61, ⟨y_62, ey_62, ⟨rfl, rfl⟩⟩⟩⟩⟩)⟩⟩)), hW, hB_G_58, hF, (Fr.call9 (rs := [77, 78, 79, 80, 81]) (fs := [(66, 2), (66, 3), (66, 4), (66, 6), (66, 7), (66, 8), (66, 9)]) (Fr.call9 (rs := [77, 78, 79, 80, 81]) (fs := [(66, 2), (66, 3), (66, 4), (66, 6), (66, 7), (66, 8), (66, 9)]) Fr.rf hq_21 rfl rfl) hq_59 rfl rfl), hS, lv_sub hl [0, 1, 2] rfl⟩
  · have c_18 : 0 < (G_13.1 66 2).toInt := xI_nle rfl rfl c_18
    have b_65 : 0 ≤ (G_13.1 66 4).toInt ∧ (G_13.1 66 4).toInt ≤ 1600 := bd_66_4 hB_G_13
    exact W.vret hx hb hr (fun t ht _ => ⟨⟨G_13, rfl, (Q_readStreet_mk ⟨hB_G_13, hF, ((by first | exact ⟨((by first | (clear hnf hs b_1 d_3 b_10 d_6 d_7 b_17 c_18; omega) | omega)), (fun h9 => by have q0_ := d_2 (by (clear hnf hs b_1 d_2 d_3 b_10 d_5 d_6 d_7 b_17 c_18; omega)); have q1_ := d_5 (by (clear hnf hs b_1 d_2 d_3 b_10 d_5 d_6 d_7 b_17 c_18; omega)); (clear hnf hs b_1 d_1 d_2 d_3 b_10 b_11 d_4 d_5 d_6 d_7 b_17 c_18 b_65; omega))⟩ | omega)), ⟨G_4, hX_7, ⟨r_12, G_13, hX_16, (Or.inr ⟨c_18, rfl⟩)⟩⟩⟩), wd_t ht hW⟩, hS.F ht⟩) hS.2.2 dX12_readStreet_27

set_option maxHeartbeats 4000000 in
set_option maxRecDepth 100000 in
theorem n_readWalker (l : Launch) (D : va_G) (k : KT) (A : Nat → Prop) (a : Nat → Nat) (z : SK) (G : GS)  (hnf : (G.1 66 2).toInt = 0) (hw4 : (G.1 66 46).toInt < 4) (hN9 : gN G = 1) : Met l yX12_readWalker (WS yX12_readWalker cX12_readWalker 2 none) ({ frames := 4, cells := 0, slots := 0, locals := 90 }) (va_Pc [.ref (a 66)] (cW D k A a z G)) (va_Qv (fun (G1 : GS) => Q_readWalker G G1) (fun (G1 : GS) t => Wd D k A a G1 t.heap) A) 0 0 A := by
  refine Met.ofW (cc := cX12_readWalker) (maxL := 2) (ret := none) (by decide) rfl ?_
  intro p e s m args below meth c s₁ B hml hv
  obtain ⟨rfl, hW, hB_G, hK, hZ⟩ := hv
  have hx := B.exec
  have hb := B.bytes
  have hr := B.returns
  have hts := atoms_spec (ws := WS yX12_readWalker cX12_readWalker 2 none) B.pre
  have hgd : ∀ w ∈ gd, w ∈ WS yX12_readWalker cX12_readWalker 2 none := fun w h => List.mem_cons_of_mem _ h
  have hg : ∀ w ∈ gd, w.before _ s = true := fun w h => hts w (hgd w h)
  have hown : s.vm.findClass RX12 = some m.cls := findClass_of_methodNamed B.named
  have hS : va_S A s.heap s.heap [] := va_S.rf
  have hF : Fr [68, 82, 83, 84, 85] [(66, 2), (66, 3), (66, 4), (66, 6), (66, 7), (66, 8), (66, 9), (66, 46)] G G := Fr.rf
  have hl := lv_entry ([.ref (a 66)]) (n := 2) (Nat.le_of_ble_eq_true rfl)
  rw [lg_entry_eq]
  generalize (lg_sl ([.ref (a 66)]) ++ List.replicate (2 - (lg_sl ([.ref (a 66)])).length) Slot.unset).toArray = ls at hl ⊢
  have hl : lv_has ls 2 [(0, .ref (a 66))] := hl
  refine lv_aload_n hx hb dX12_readWalker_0 rfl (lv_at hl 0 rfl) ?_
  refine ic_3 hx hb dX12_readWalker_1 ?_
  refine lv_aload_n hx hb dX12_readWalker_2 rfl (lv_at hl 0 rfl) ?_
  have b_1 : 0 ≤ (G.1 66 46).toInt ∧ (G.1 66 46).toInt ≤ 4 := bd_66_46 hB_G
  refine S_getI (v := (G.1 66 46)) (C := RX12) (T := TX12) (N := 89) hx hb hg iX12 hown hK hW kd_66 rfl 46 (lt_b rfl) (hg (Cond.fieldLink RX12 379 "SlabWalkModel" "nWalkers" "I") m1360) (fun _ h9 => h9) rfl rfl dX12_readWalker_3 ?_
  have qc_2 : (3 : Int32).toInt = 3 := rfl
  refine S_callv (va_runV (As := [.int 3, .int (G.1 66 46)]) (rest := []) ⟨hx, hb, hml, hown, hts⟩ (n_newName l D k A a z G 3 (G.1 66 46) ⟨by decide, by decide⟩ ⟨by omega, by omega⟩) (cwV 2 hts (gd_V hgd m1632 m1634 m55 m131 m1635) rfl rfl rfl hd_X12_newName ⟨Nat.le_of_ble_eq_true rfl, Nat.le_of_ble_eq_true rfl⟩) (pre_W hW hB_G hK hZ hS kd_66 rfl) rfl rfl hl.1 rfl (lv_room (Nat.le_of_ble_eq_true rfl)) dX12_readWalker_6 ⟨Nat.le_of_ble_eq_true rfl, Nat.le_of_ble_eq_true rfl⟩) hS (fun G_4 H locs hpo hW hS => ?_)
  have hX_7 : Q_newName 3 (G.1 66 46) G G_4 := hpo
  obtain ⟨hB_G_4, hq_5, ⟨d_1, d_2, d_3⟩, -⟩ := hpo
  have hF := hF.call9 hq_5 rfl rfl
  refine lv_aload_n hx hb dX12_readWalker_9 rfl (lv_at hl 0 rfl) ?_
  refine S_getI (v := (G.1 66 46)) (C := RX12) (T := TX12) (N := 89) hx hb hg iX12 hown hK hW kd_66 rfl 46 (lt_b rfl) (hg (Cond.fieldLink RX12 379 "SlabWalkModel" "nWalkers" "I") m1360) (fun _ h9 => h9) rfl ((hq_5.i9 66 46 rfl rfl).trans (rfl)) dX12_readWalker_10 ?_
  refine lv_istore_n (lv' := [(1, .int (G.1 66 46)), (0, .ref (a 66))]) hx hb dX12_readWalker_13 rfl hl (lt_b rfl) rfl (fun ls hl => ?_)
  refine lv_aload_n hx hb dX12_readWalker_14 rfl (lv_at hl 1 rfl) ?_
  refine S_getR (n := 82) (C := RX12) (T := TX12) (N := 89) hx hb hg iX12 hown hK hW kd_66 rfl 30 (lt_b rfl) (hg (Cond.fieldLink RX12 60 "SlabWalkModel" "nFoot" "[I") m1344) (fun _ h9 => h9) rfl dX12_readWalker_15 ?_
  refine lv_iload_n hx hb dX12_readWalker_18 rfl (lv_at hl 0 rfl) ?_
  refine lv_aload_n hx hb dX12_readWalker_19 rfl (lv_at hl 1 rfl) ?_
  refine lv_ldc2 (v := 1718579060) hx hb hown (hg (Cond.constantLong RX12 227 1718579060) m1646) dX12_readWalker_20 ?_
  refine ic_1 hx hb dX12_readWalker_23 ?_
  refine lv_bipush (v := 12) hx hb dX12_readWalker_24 (by decide) ?_
  have qc_8 : (1 : Int32).toInt = 1 := rfl
  have qc_9 : (12 : Int32).toInt = 12 := rfl
  have b_10 : 0 ≤ (G_4.1 66 2).toInt ∧ (G_4.1 66 2).toInt ≤ 4 := bd_66_2 hB_G_4
  have b_11 : 0 ≤ (G_4.1 66 4).toInt ∧ (G_4.1 66 4).toInt ≤ 1600 := bd_66_4 hB_G_4
  refine S_calli (va_runV (As := [.long 1718579060, .int 1, .int 12]) (rest := [.int (G.1 66 46), .ref (a 82)]) ⟨hx, hb, hml, hown, hts⟩ (n_told2 l D k A a z G_4 1718579060 1 12 ) (cwV 3 hts (gd_V hgd m1674 m1676 m60 m131 m1677) rfl rfl rfl hd_X12_told ⟨Nat.le_of_ble_eq_true rfl, Nat.le_of_ble_eq_true rfl⟩) (pre_W hW hB_G_4 hK hZ hS kd_66 rfl) rfl rfl hl.1 rfl (lv_room (Nat.le_of_ble_eq_true rfl)) dX12_readWalker_26 ⟨Nat.le_of_ble_eq_true rfl, Nat.le_of_ble_eq_true rfl⟩) hS (fun r_12 G_13 H locs hpo hW hS => ?_)
  have hX_16 : Q_told2 1718579060 1 12 G_4 r_12 G_13 := hpo
  obtain ⟨hB_G_13, hq_14, ⟨d_4, d_5, d_6, d_7⟩, -⟩ := hpo
  have hF := hF.call9 hq_14 rfl rfl
  refine S_iast hx hb hK hW hS kd_82 (vin ((by first | (clear hnf hN9 d_1 d_2 d_3 b_10 b_11 d_4 d_5 d_6 d_7; omega) | omega)) ((by first | (clear hnf hN9 d_1 d_2 d_3 b_10 b_11 d_4 d_5 d_6 d_7; omega) | omega))) dX12_readWalker_29 (fun G_17 H locs eG_17 hW hS => ?_)
  have hB_G_17 : Bd G_17 := hB_G_13.put (lo := (-2147483648)) (hi := 2147483647) eG_17 rfl rfl rfl (tI_rng _).1 (tI_rng _).2 (hB_G_13.2.put eG_17 rfl)
  have hF := hF.put eG_17 (Or.inl (by decide))
  refine lv_aload_n hx hb dX12_readWalker_30 rfl (lv_at hl 1 rfl) ?_
  refine S_getR (n := 83) (C := RX12) (T := TX12) (N := 89) hx hb hg iX12 hown hK hW kd_66 rfl 31 (lt_b rfl) (hg (Cond.fieldLink RX12 63 "SlabWalkModel" "nLeast" "[I") m1345) (fun _ h9 => h9) rfl dX12_readWalker_31 ?_
  refine lv_iload_n hx hb dX12_readWalker_34 rfl (lv_at hl 0 rfl) ?_
  refine lv_aload_n hx hb dX12_readWalker_35 rfl (lv_at hl 1 rfl) ?_
  refine lv_ldc2 (v := 1937007984) hx hb hown (hg (Cond.constantLong RX12 229 1937007984) m1647) dX12_readWalker_36 ?_
  refine ic_1 hx hb dX12_readWalker_39 ?_
  refine lv_bipush (v := 60) hx hb dX12_readWalker_40 (by decide) ?_
  have qc_18 : (1 : Int32).toInt = 1 := rfl
  have qc_19 : (60 : Int32).toInt = 60 := rfl
  have b_20 : 0 ≤ (G_13.1 66 2).toInt ∧ (G_13.1 66 2).toInt ≤ 4 := bd_66_2 hB_G_13
  have g_21 : (G_17.1 66 2).toInt = (G_13.1 66 2).toInt := (congrArg Int32.toInt (show G_17.1 66 2 = (G_13.1 66 2) from (gp_ne eG_17 (fun q => absurd q.1 (Nat.ne_of_beq_eq_false rfl)))))
  have b_22 : 0 ≤ (G_13.1 66 4).toInt ∧ (G_13.1 66 4).toInt ≤ 1600 := bd_66_4 hB_G_13
  have g_23 : (G_17.1 66 4).toInt = (G_13.1 66 4).toInt := (congrArg Int32.toInt (show G_17.1 66 4 = (G_13.1 66 4) from (gp_ne eG_17 (fun q => absurd q.1 (Nat.ne_of_beq_eq_false rfl)))))
  have g_24 : (G_17.1 66 6).toInt = (G_13.1 66 6).toInt := (congrArg Int32.toInt (show G_17.1 66 6 = (G_13.1 66 6) from (gp_ne eG_17 (fun q => absurd q.1 (Nat.ne_of_beq_eq_false rfl)))))
  refine S_calli (va_runV (As := [.long 1937007984, .int 1, .int 60]) (rest := [.int (G.1 66 46), .ref (a 83)]) ⟨hx, hb, hml, hown, hts⟩ (n_told2 l D k A a z G_17 1937007984 1 60 ) (cwV 3 hts (gd_V hgd m1674 m1676 m60 m131 m1677) rfl rfl rfl hd_X12_told ⟨Nat.le_of_ble_eq_true rfl, Nat.le_of_ble_eq_true rfl⟩) (pre_W hW hB_G_17 hK hZ hS kd_66 rfl) rfl rfl hl.1 rfl (lv_room (Nat.le_of_ble_eq_true rfl)) dX12_readWalker_42 ⟨Nat.le_of_ble_eq_true rfl, Nat.le_of_ble_eq_true rfl⟩) hS (fun r_25 G_26 H locs hpo hW hS => ?_)
  have hX_29 : Q_told2 1937007984 1 60 G_17 r_25 G_26 := hpo
  obtain ⟨hB_G_26, hq_27, ⟨d_8, d_9, d_10, d_11⟩, -⟩ := hpo
  have hF := hF.call9 hq_27 rfl rfl
  refine S_iast hx hb hK hW hS kd_83 (vin ((by first | (clear hnf hN9 d_1 d_2 d_3 b_10 b_11 d_4 d_5 d_6 d_7 b_20 g_21 b_22 g_23 g_24 d_8 d_9 d_10 d_11; omega) | omega)) ((by first | (clear hnf hN9 d_1 d_2 d_3 b_10 b_11 d_4 d_5 d_6 d_7 b_20 g_21 b_22 g_23 g_24 d_8 d_9 d_10 d_11; omega) | omega))) dX12_readWalker_45 (fun G_30 H locs eG_30 hW hS => ?_)
  have hB_G_30 : Bd G_30 := hB_G_26.put (lo := (-2147483648)) (hi := 2147483647) eG_30 rfl rfl rfl (tI_rng _).1 (tI_rng _).2 (hB_G_26.2.put eG_30 rfl)
  have hF := hF.put eG_30 (Or.inl (by decide))
  refine lv_aload_n hx hb dX12_readWalker_46 rfl (lv_at hl 1 rfl) ?_
  refine S_getR (n := 84) (C := RX12) (T := TX12) (N := 89) hx hb hg iX12 hown hK hW kd_66 rfl 32 (lt_b rfl) (hg (Cond.fieldLink RX12 66 "SlabWalkModel" "nMost" "[I") m1346) (fun _ h9 => h9) rfl dX12_readWalker_47 ?_
  refine lv_iload_n hx hb dX12_readWalker_50 rfl (lv_at hl 0 rfl) ?_
  refine lv_aload_n hx hb dX12_readWalker_51 rfl (lv_at hl 1 rfl) ?_
  refine lv_ldc2 (v := 29807) hx hb hown (hg (Cond.constantLong RX12 231 29807) m1648) dX12_readWalker_52 ?_
  refine lv_aload_n hx hb dX12_readWalker_55 rfl (lv_at hl 1 rfl) ?_
  refine S_getR (n := 83) (C := RX12) (T := TX12) (N := 89) hx hb hg iX12 hown hK hW kd_66 rfl 31 (lt_b rfl) (hg (Cond.fieldLink RX12 63 "SlabWalkModel" "nLeast" "[I") m1345) (fun _ h9 => h9) rfl dX12_readWalker_56 ?_
  refine lv_iload_n hx hb dX12_readWalker_59 rfl (lv_at hl 0 rfl) ?_
  refine S_iald hx hb hK hW kd_83 (vin ((by first | (clear hnf hN9 d_1 d_2 d_3 b_10 b_11 d_4 d_5 d_6 d_7 b_20 g_21 b_22 g_23 g_24 d_8 d_9 d_10 d_11; omega) | omega)) ((by first | (clear hnf hN9 d_1 d_2 d_3 b_10 b_11 d_4 d_5 d_6 d_7 b_20 g_21 b_22 g_23 g_24 d_8 d_9 d_10 d_11; omega) | omega))) dX12_readWalker_60 (fun y_31 ey_31 => ?_)
  have u_32 : y_31.toInt = r_25.toInt := congrArg Int32.toInt (ey_31.trans ((gp_eq eG_30)))
  refine lv_bipush (v := 60) hx hb dX12_readWalker_61 (by decide) ?_
  have qc_33 : (60 : Int32).toInt = 60 := rfl
  have b_34 : 0 ≤ (G_26.1 66 2).toInt ∧ (G_26.1 66 2).toInt ≤ 4 := bd_66_2 hB_G_26
  have g_35 : (G_30.1 66 2).toInt = (G_26.1 66 2).toInt := (congrArg Int32.toInt (show G_30.1 66 2 = (G_26.1 66 2) from (gp_ne eG_30 (fun q => absurd q.1 (Nat.ne_of_beq_eq_false rfl)))))
  have b_36 : 0 ≤ (G_26.1 66 4).toInt ∧ (G_26.1 66 4).toInt ≤ 1600 := bd_66_4 hB_G_26
  have g_37 : (G_30.1 66 4).toInt = (G_26.1 66 4).toInt := (congrArg Int32.toInt (show G_30.1 66 4 = (G_26.1 66 4) from (gp_ne eG_30 (fun q => absurd q.1 (Nat.ne_of_beq_eq_false rfl)))))
  have g_38 : (G_30.1 66 6).toInt = (G_26.1 66 6).toInt := (congrArg Int32.toInt (show G_30.1 66 6 = (G_26.1 66 6) from (gp_ne eG_30 (fun q => absurd q.1 (Nat.ne_of_beq_eq_false rfl)))))
  refine S_calli (va_runV (As := [.long 29807, .int y_31, .int 60]) (rest := [.int (G.1 66 46), .ref (a 84)]) ⟨hx, hb, hml, hown, hts⟩ (n_told2 l D k A a z G_30 29807 y_31 60 ) (cwV 3 hts (gd_V hgd m1674 m1676 m60 m131 m1677) rfl rfl rfl hd_X12_told ⟨Nat.le_of_ble_eq_true rfl, Nat.le_of_ble_eq_true rfl⟩) (pre_W hW hB_G_30 hK hZ hS kd_66 rfl) rfl rfl hl.1 rfl (lv_room (Nat.le_of_ble_eq_true rfl)) dX12_readWalker_63 ⟨Nat.le_of_ble_eq_true rfl, Nat.le_of_ble_eq_true rfl⟩) hS (fun r_39 G_40 H locs hpo hW hS => ?_)
  have hX_43 : Q_told2 29807 y_31 60 G_30 r_39 G_40 := hpo
  obtain ⟨hB_G_40, hq_41, ⟨d_12, d_13, d_14, d_15⟩, -⟩ := hpo
  have hF := hF.call9 hq_41 rfl rfl
  refine S_iast hx hb hK hW hS kd_84 (vin ((by first | (clear hnf hN9 d_1 d_2 d_3 b_10 b_11 d_4 d_5 d_6 d_7 b_20 g_21 b_22 g_23 g_24 d_8 d_9 d_10 d_11 u_32 b_34 g_35 b_36 g_37 g_38 d_12 d_13 d_14 d_15; omega) | omega)) ((by first | (clear hnf hN9 d_1 d_2 d_3 b_10 b_11 d_4 d_5 d_6 d_7 b_20 g_21 b_22 g_23 g_24 d_8 d_9 d_10 d_11 u_32 b_34 g_35 b_36 g_37 g_38 d_12 d_13 d_14 d_15; omega) | omega))) dX12_readWalker_66 (fun G_44 H locs eG_44 hW hS => ?_)
  have hB_G_44 : Bd G_44 := hB_G_40.put (lo := (-2147483648)) (hi := 2147483647) eG_44 rfl rfl rfl (tI_rng _).1 (tI_rng _).2 (hB_G_40.2.put eG_44 rfl)
  have hF := hF.put eG_44 (Or.inl (by decide))
  refine lv_aload_n hx hb dX12_readWalker_67 rfl (lv_at hl 1 rfl) ?_
  refine S_getR (n := 85) (C := RX12) (T := TX12) (N := 89) hx hb hg iX12 hown hK hW kd_66 rfl 33 (lt_b rfl) (hg (Cond.fieldLink RX12 69 "SlabWalkModel" "nLeap" "[I") m1347) (fun _ h9 => h9) rfl dX12_readWalker_68 ?_
  refine lv_iload_n hx hb dX12_readWalker_71 rfl (lv_at hl 0 rfl) ?_
  refine lv_aload_n hx hb dX12_readWalker_72 rfl (lv_at hl 1 rfl) ?_
  refine S_getR (n := 84) (C := RX12) (T := TX12) (N := 89) hx hb hg iX12 hown hK hW kd_66 rfl 32 (lt_b rfl) (hg (Cond.fieldLink RX12 66 "SlabWalkModel" "nMost" "[I") m1346) (fun _ h9 => h9) rfl dX12_readWalker_73 ?_
  refine lv_iload_n hx hb dX12_readWalker_76 rfl (lv_at hl 0 rfl) ?_
  refine S_iald hx hb hK hW kd_84 (vin ((by first | (clear hnf hN9 d_1 d_2 d_3 b_10 b_11 d_4 d_5 d_6 d_7 b_20 g_21 b_22 g_23 g_24 d_8 d_9 d_10 d_11 u_32 b_34 g_35 b_36 g_37 g_38 d_12 d_13 d_14 d_15; omega) | omega)) ((by first | (clear hnf hN9 d_1 d_2 d_3 b_10 b_11 d_4 d_5 d_6 d_7 b_20 g_21 b_22 g_23 g_24 d_8 d_9 d_10 d_11 u_32 b_34 g_35 b_36 g_37 g_38 d_12 d_13 d_14 d_15; omega) | omega))) dX12_readWalker_77 (fun y_45 ey_45 => ?_)
  have u_46 : y_45.toInt = r_39.toInt := congrArg Int32.toInt (ey_45.trans ((gp_eq eG_44)))
  refine S_iast hx hb hK hW hS kd_85 (vin ((by first | (clear hnf hN9 d_1 d_2 d_3 b_10 b_11 d_4 d_5 d_6 d_7 b_20 g_21 b_22 g_23 g_24 d_8 d_9 d_10 d_11 u_32 b_34 g_35 b_36 g_37 g_38 d_12 d_13 d_14 d_15 u_46; omega) | omega)) ((by first | (clear hnf hN9 d_1 d_2 d_3 b_10 b_11 d_4 d_5 d_6 d_7 b_20 g_21 b_22 g_23 g_24 d_8 d_9 d_10 d_11 u_32 b_34 g_35 b_36 g_37 g_38 d_12 d_13 d_14 d_15 u_46; omega) | omega))) dX12_readWalker_78 (fun G_47 H locs eG_47 hW hS => ?_)
  have hB_G_47 : Bd G_47 := hB_G_44.put (lo := (-2147483648)) (hi := 2147483647) eG_47 rfl rfl rfl (tI_rng _).1 (tI_rng _).2 (hB_G_44.2.put eG_47 rfl)
  have hF := hF.put eG_47 (Or.inl (by decide))
  refine lv_aload_n hx hb dX12_readWalker_79 rfl (lv_at hl 1 rfl) ?_
  refine lv_ldc2 (v := 1818583408) hx hb hown (hg (Cond.constantLong RX12 233 1818583408) m1649) dX12_readWalker_80 ?_
  have b_48 : 0 ≤ (G_40.1 66 4).toInt ∧ (G_40.1 66 4).toInt ≤ 1600 := bd_66_4 hB_G_40
  have g_49 : (G_47.1 66 4).toInt = (G_40.1 66 4).toInt := (congrArg Int32.toInt (show G_47.1 66 4 = (G_40.1 66 4) from ((gp_ne eG_47 (fun q => absurd q.1 (Nat.ne_of_beq_eq_false rfl))).trans (gp_ne eG_44 (fun q => absurd q.1 (Nat.ne_of_beq_eq_false rfl))))))
  have g_50 : (G_47.1 66 6).toInt = (G_40.1 66 6).toInt := (congrArg Int32.toInt (show G_47.1 66 6 = (G_40.1 66 6) from ((gp_ne eG_47 (fun q => absurd q.1 (Nat.ne_of_beq_eq_false rfl))).trans (gp_ne eG_44 (fun q => absurd q.1 (Nat.ne_of_beq_eq_false rfl))))))
  refine S_calli (va_runV (As := [.long 1818583408]) (rest := []) ⟨hx, hb, hml, hown, hts⟩ (n_takes l D k A a z G_47 1818583408 ) (cwV 1 hts (gd_V hgd m1702 m1704 m67 m131 m1705) rfl rfl rfl hd_X12_takes ⟨Nat.le_of_ble_eq_true rfl, Nat.le_of_ble_eq_true rfl⟩) (pre_W hW hB_G_47 hK hZ hS kd_66 rfl) rfl rfl hl.1 rfl (lv_room (Nat.le_of_ble_eq_true rfl)) dX12_readWalker_83 ⟨Nat.le_of_ble_eq_true rfl, Nat.le_of_ble_eq_true rfl⟩) hS (fun r_51 G_52 H locs hpo hW hS => ?_)
  have hX_55 : Q_takes 1818583408 G_47 r_51 G_52 := hpo
  obtain ⟨hB_G_52, hq_53, f_56, ⟨d_16, d_17⟩, -⟩ := hpo
  have hF := hF.call9 hq_53 rfl rfl
  refine lv_if_eq (tgt := 109) hx hb dX12_readWalker_86 rfl (fun c_57 => ?_) (fun c_57 => ?_)
  · have c_57 : r_51.toInt = 0 := xI_eq rfl rfl c_57
    refine lv_aload_n hx hb dX12_readWalker_109 rfl (lv_at hl 1 rfl) ?_
    have b_58 : 0 ≤ (G_40.1 66 2).toInt ∧ (G_40.1 66 2).toInt ≤ 4 := bd_66_2 hB_G_40
    refine S_getI (v := (G_40.1 66 2)) (C := RX12) (T := TX12) (N := 89) hx hb hg iX12 hown hK hW kd_66 rfl 2 (lt_b rfl) (hg (Cond.fieldLink RX12 218 "SlabWalkModel" "fault" "I") m1316) (fun _ h9 => h9) rfl ((hq_53.i9 66 2 rfl rfl).trans ((gp_ne eG_47 (fun q => absurd q.1 (Nat.ne_of_beq_eq_false rfl))).trans (gp_ne eG_44 (fun q => absurd q.1 (Nat.ne_of_beq_eq_false rfl))))) dX12_readWalker_110 ?_
    refine lv_if_ne (tgt := 126) hx hb dX12_readWalker_113 rfl (fun c_59 => ?_) (fun c_59 => ?_)
    · have c_59 : (G_40.1 66 2).toInt ≠ 0 := xI_ne rfl rfl c_59
      have fr_60 : Fr [] [(66, 4), (66, 6), (66, 7), (66, 8), (66, 9)] G_47 G_52 := (Fr.call9 (rs := []) (fs := [(66, 4), (66, 6), (66, 7), (66, 8), (66, 9)]) Fr.rf hq_53 rfl rfl)
      have g_61 : gN G_52 = gN G_47 := gN_fr fr_60 (gr_q rfl) (gf_q rfl)
      have g_62 : (G_52.1 66 2).toInt = (G_40.1 66 2).toInt := (congrArg Int32.toInt (show G_52.1 66 2 = (G_40.1 66 2) from ((hq_53.i9 66 2 rfl rfl).trans ((gp_ne eG_47 (fun q => absurd q.1 (Nat.ne_of_beq_eq_false rfl))).trans ((gp_ne eG_44 (fun q => absurd q.1 (Nat.ne_of_beq_eq_false rfl))).trans (rfl))))))
      have b_63 : 0 ≤ (G_52.1 66 4).toInt ∧ (G_52.1 66 4).toInt ≤ 1600 := bd_66_4 hB_G_52
      exact W.vret hx hb hr (fun t ht _ => ⟨⟨G_52, rfl, (Q_readWalker_mk ⟨hB_G_52, hF, ((by first | exact ⟨((by first | (clear hnf hw4 hN9 b_1 d_3 b_10 d_6 d_7 b_20 g_21 b_22 d_8 d_9 d_10 d_11 u_32 b_34 g_35 b_36 d_14 d_15 u_46 f_56 c_57 b_58 c_59 g_61 g_62; omega) | omega)), ⟨(fun h9 => by have q0_ := d_2 (by (clear hnf hw4 hN9 b_1 d_2 d_3 b_10 d_5 d_6 d_7 b_20 g_21 g_24 d_9 d_10 d_11 u_32 b_34 g_35 g_38 d_13 d_14 d_15 u_46 g_50 f_56 d_17 c_57 b_58 c_59 g_61 g_62; omega)); have q1_ := d_5 (by (clear hnf hw4 hN9 b_1 d_2 d_3 b_10 d_5 d_6 d_7 b_20 g_21 g_24 d_9 d_10 d_11 u_32 b_34 g_35 g_38 d_13 d_14 d_15 u_46 g_50 f_56 d_17 c_57 b_58 c_59 g_61 g_62; omega)); have q2_ := d_9 (by (clear hnf hw4 hN9 b_1 d_2 d_3 b_10 d_5 d_6 d_7 b_20 g_21 g_24 d_9 d_10 d_11 u_32 b_34 g_35 g_38 d_13 d_14 d_15 u_46 g_50 f_56 d_17 c_57 b_58 c_59 g_61 g_62; omega)); have r1_ : (G_13.1 66 6).toInt = (G.1 66 6).toInt ∨ (G_13.1 66 6).toInt ≤ 3 := (by (clear hnf hw4 hN9 b_1 d_1 d_2 d_3 b_10 b_11 d_4 d_5 d_6 d_7 b_20 g_21 b_22 g_23 d_8 d_9 d_10 d_11 u_32 b_34 g_35 b_36 g_37 d_12 d_13 d_14 d_15 u_46 b_48 g_49 f_56 d_16 d_17 c_57 b_58 c_59 g_61 g_62 b_63; omega)); clear q1_ q0_; have q3_ := d_13 (by (clear hnf hw4 hN9 b_1 d_2 d_3 b_10 d_5 d_6 d_7 b_20 g_21 g_24 d_9 d_10 d_11 u_32 b_34 g_35 g_38 d_13 d_14 d_15 u_46 g_50 f_56 d_17 c_57 b_58 c_59 g_61 g_62; omega)); have r2_ : (G_26.1 66 6).toInt = (G.1 66 6).toInt ∨ (G_26.1 66 6).toInt ≤ 3 := (by (clear hnf hw4 hN9 b_1 d_1 d_2 d_3 b_10 b_11 d_4 d_5 d_6 d_7 b_20 g_21 b_22 g_23 d_8 d_9 d_10 d_11 u_32 b_34 g_35 b_36 g_37 d_12 d_13 d_14 d_15 u_46 b_48 g_49 f_56 d_16 d_17 c_57 b_58 c_59 g_61 g_62 b_63; omega)); clear q2_ r1_; have q4_ := d_17 (by (clear hnf hw4 hN9 b_1 d_2 d_3 b_10 d_5 d_6 d_7 b_20 g_21 g_24 d_9 d_10 d_11 u_32 b_34 g_35 g_38 d_13 d_14 d_15 u_46 g_50 f_56 d_17 c_57 b_58 c_59 g_61 g_62; omega)); have r3_ : (G_40.1 66 6).toInt = (G.1 66 6).toInt ∨ (G_40.1 66 6).toInt ≤ 3 := (by (clear hnf hw4 hN9 b_1 d_1 d_2 d_3 b_10 b_11 d_4 d_5 d_6 d_7 b_20 g_21 b_22 g_23 d_8 d_9 d_10 d_11 u_32 b_34 g_35 b_36 g_37 d_12 d_13 d_14 d_15 u_46 b_48 g_49 f_56 d_16 d_17 c_57 b_58 c_59 g_61 g_62 b_63; omega)); clear q3_ r2_; (clear hnf hw4 hN9 b_1 d_1 d_2 d_3 b_10 b_11 d_4 d_5 d_6 d_7 b_20 g_21 b_22 g_23 d_8 d_9 d_10 d_11 u_32 b_34 g_35 b_36 g_37 d_12 d_13 d_14 d_15 u_46 b_48 g_49 f_56 d_16 d_17 c_57 b_58 c_59 g_61 g_62 b_63; omega)), (fun h9 => ((by first | (clear hnf hw4 hN9 b_1 d_1 d_2 d_3 b_10 b_11 d_4 d_5 d_6 d_7 b_20 b_22 g_23 g_24 d_8 d_9 b_36 g_37 g_38 d_12 d_13 d_15 b_48 g_49 g_50 f_56 d_16 d_17 c_57 b_63; omega) | omega)))⟩⟩ | omega)), ⟨G_4, hX_7, ⟨r_12, G_13, hX_16, ⟨G_17, hB_G_17, (Fr.put (rs := [82]) (fs := []) Fr.rf eG_17 (Or.inl (by decide))), rw_ast eG_17, ⟨r_25, G_26, hX_29, ⟨y_31, ey_31.trans (congrFun (rw_ast eG_30) _), ⟨G_30, hB_G_30, (Fr.put (rs := [83]) (fs := []) Fr.rf eG_30 (Or.inl (by decide))), rw_ast eG_30, ⟨r_39, G_40, hX_43, ⟨y_45, ey_45.trans (congrFun (rw_ast eG_44) _), ⟨G_47, hB_G_47, (Fr.put (rs := [84, 85]) (fs := []) (Fr.put (rs := [84, 85]) (fs := []) Fr.rf eG_44 (Or.inl (by decide))) eG_47 (Or.inl (by decide))), (rw_put eG_47 (by decide)).trans (rw_ast eG_44), (rw_ast eG_47).trans (congrArg (fun q => upd q ((G.1 66 46).toNatClampNeg) y_45) (rw_put eG_44 (by decide))), ⟨r_51, G_52, hX_55, (Or.inl ⟨c_57, (Or.inr ⟨c_59, rfl⟩)⟩)⟩⟩⟩⟩⟩⟩⟩⟩⟩⟩⟩), wd_t ht hW⟩, hS.F ht⟩) hS.2.2 dX12_readWalker_126
    · have c_59 : (G_40.1 66 2).toInt = 0 := xI_eq rfl rfl c_59
      have d_18 := d_15 c_59
      refine lv_aload_n hx hb dX12_readWalker_116 rfl (lv_at hl 1 rfl) ?_
      refine lv_dup hx hb dX12_readWalker_117 rfl ?_
      refine S_getI (v := (G.1 66 46)) (C := RX12) (T := TX12) (N := 89) hx hb hg iX12 hown hK hW kd_66 rfl 46 (lt_b rfl) (hg (Cond.fieldLink RX12 379 "SlabWalkModel" "nWalkers" "I") m1360) (fun _ h9 => h9) rfl ((hq_53.i9 66 46 rfl rfl).trans ((gp_ne eG_47 (fun q => absurd q.1 (Nat.ne_of_beq_eq_false rfl))).trans ((gp_ne eG_44 (fun q => absurd q.1 (Nat.ne_of_beq_eq_false rfl))).trans ((hq_41.i9 66 46 rfl rfl).trans ((gp_ne eG_30 (fun q => absurd q.1 (Nat.ne_of_beq_eq_false rfl))).trans ((hq_27.i9 66 46 rfl rfl).trans ((gp_ne eG_17 (fun q => absurd q.1 (Nat.ne_of_beq_eq_false rfl))).trans ((hq_14.i9 66 46 rfl rfl).trans ((hq_5.i9 66 46 rfl rfl).trans (rfl)))))))))) dX12_readWalker_118 ?_
      refine ic_1 hx hb dX12_readWalker_121 ?_
      refine lv_iadd hx hb dX12_readWalker_122 ?_
      refine lv_topi (fun y_64 ey_64 => ?_)
      have ty_64 : y_64.toInt = (G.1 66 46).toInt + 1 := xI_add rfl rfl ey_64 ((by first | (clear hnf hN9 d_1 d_2 d_3 b_10 b_11 d_4 d_5 d_6 d_7 b_20 g_21 b_22 g_23 g_24 d_8 d_9 d_10 d_11 u_32 b_34 g_35 b_36 g_37 g_38 d_12 d_13 d_14 d_15 u_46 b_48 g_49 g_50 f_56 d_16 d_17 c_57 b_58 c_59 d_18; omega) | omega)) ((by first | (clear hnf hN9 d_1 d_2 d_3 b_10 b_11 d_4 d_5 d_6 d_7 b_20 g_21 b_22 g_23 g_24 d_8 d_9 d_10 d_11 u_32 b_34 g_35 b_36 g_37 g_38 d_12 d_13 d_14 d_15 u_46 b_48 g_49 g_50 f_56 d_16 d_17 c_57 b_58 c_59 d_18; omega) | omega))
      refine S_putI (ty := .int) (C := RX12) (T := TX12) (N := 89) hx hb hg iX12 tyX12 tyX12_ok nmX12 hown hK hW hS kd_66 rfl 46 (lt_b rfl) (hg (Cond.fieldLink RX12 379 "SlabWalkModel" "nWalkers" "I") m1360) (fun _ h9 => h9) rfl (by decide +kernel) rfl rfl rfl dX12_readWalker_123 (fun G_65 H locs eG_65 hW hS => ?_)
      have hB_G_65 : Bd G_65 := hB_G_52.put (V := y_64.toInt) (lo := 0) (hi := 4) eG_65 rfl rfl rfl ((by first | (clear hnf hN9 d_1 d_2 d_3 b_10 b_11 d_4 d_5 d_6 d_7 b_20 g_21 b_22 g_23 g_24 d_8 d_9 d_10 d_11 u_32 b_34 g_35 b_36 g_37 g_38 d_12 d_13 d_14 d_15 u_46 b_48 g_49 g_50 f_56 d_16 d_17 c_57 b_58 c_59 d_18; omega) | omega)) ((by first | (clear hnf hN9 d_1 d_2 d_3 b_10 b_11 d_4 d_5 d_6 d_7 b_20 g_21 b_22 g_23 g_24 d_8 d_9 d_10 d_11 u_32 b_34 g_35 b_36 g_37 g_38 d_12 d_13 d_14 d_15 u_46 b_48 g_49 g_50 f_56 d_16 d_17 c_57 b_58 c_59 d_18; omega) | omega)) (hB_G_52.2.put eG_65 rfl)
      have hF := hF.put eG_65 (Or.inr (by decide))
      have u_66 : gN G_65 = 1 := walk_gh (G := G) (x := (G.1 66 46)) hN9 (by first | (clear d_15; omega) | omega) (by first | (clear d_15; omega) | omega) (gp_eq eG_65) (by first | (clear d_15; omega) | omega) (fun j hj => ((gp_ne eG_65 (fun q => absurd q.1 (Nat.ne_of_beq_eq_false rfl))).trans ((hq_53.ri9 82 rfl j).trans ((gp_ne eG_47 (fun q => absurd q.1 (Nat.ne_of_beq_eq_false rfl))).trans ((gp_ne eG_44 (fun q => absurd q.1 (Nat.ne_of_beq_eq_false rfl))).trans ((hq_41.ri9 82 rfl j).trans ((gp_ne eG_30 (fun q => absurd q.1 (Nat.ne_of_beq_eq_false rfl))).trans ((hq_27.ri9 82 rfl j).trans ((gp_ne eG_17 (fun q => hj q.2)).trans ((hq_14.ri9 82 rfl j).trans (hq_5.ri9 82 rfl j))))))))))) (fun j hj => ((gp_ne eG_65 (fun q => absurd q.1 (Nat.ne_of_beq_eq_false rfl))).trans ((hq_53.ri9 83 rfl j).trans ((gp_ne eG_47 (fun q => absurd q.1 (Nat.ne_of_beq_eq_false rfl))).trans ((gp_ne eG_44 (fun q => absurd q.1 (Nat.ne_of_beq_eq_false rfl))).trans ((hq_41.ri9 83 rfl j).trans ((gp_ne eG_30 (fun q => hj q.2)).trans ((hq_27.ri9 83 rfl j).trans ((gp_ne eG_17 (fun q => absurd q.1 (Nat.ne_of_beq_eq_false rfl))).trans ((hq_14.ri9 83 rfl j).trans (hq_5.ri9 83 rfl j))))))))))) (fun j hj => ((gp_ne eG_65 (fun q => absurd q.1 (Nat.ne_of_beq_eq_false rfl))).trans ((hq_53.ri9 84 rfl j).trans ((gp_ne eG_47 (fun q => absurd q.1 (Nat.ne_of_beq_eq_false rfl))).trans ((gp_ne eG_44 (fun q => hj q.2)).trans ((hq_41.ri9 84 rfl j).trans ((gp_ne eG_30 (fun q => absurd q.1 (Nat.ne_of_beq_eq_false rfl))).trans ((hq_27.ri9 84 rfl j).trans ((gp_ne eG_17 (fun q => absurd q.1 (Nat.ne_of_beq_eq_false rfl))).trans ((hq_14.ri9 84 rfl j).trans (hq_5.ri9 84 rfl j))))))))))) (fun j hj => ((gp_ne eG_65 (fun q => absurd q.1 (Nat.ne_of_beq_eq_false rfl))).trans ((hq_53.ri9 85 rfl j).trans ((gp_ne eG_47 (fun q => hj q.2)).trans ((gp_ne eG_44 (fun q => absurd q.1 (Nat.ne_of_beq_eq_false rfl))).trans ((hq_41.ri9 85 rfl j).trans ((gp_ne eG_30 (fun q => absurd q.1 (Nat.ne_of_beq_eq_false rfl))).trans ((hq_27.ri9 85 rfl j).trans ((gp_ne eG_17 (fun q => absurd q.1 (Nat.ne_of_beq_eq_false rfl))).trans ((hq_14.ri9 85 rfl j).trans (hq_5.ri9 85 rfl j))))))))))) ((gp_ne eG_65 (fun q => absurd q.1 (Nat.ne_of_beq_eq_false rfl))).trans ((hq_53.ri9 82 rfl ((G.1 66 46).toNatClampNeg)).trans ((gp_ne eG_47 (fun q => absurd q.1 (Nat.ne_of_beq_eq_false rfl))).trans ((gp_ne eG_44 (fun q => absurd q.1 (Nat.ne_of_beq_eq_false rfl))).trans ((hq_41.ri9 82 rfl ((G.1 66 46).toNatClampNeg)).trans ((gp_ne eG_30 (fun q => absurd q.1 (Nat.ne_of_beq_eq_false rfl))).trans ((hq_27.ri9 82 rfl ((G.1 66 46).toNatClampNeg)).trans (gp_eq eG_17)))))))) ((gp_ne eG_65 (fun q => absurd q.1 (Nat.ne_of_beq_eq_false rfl))).trans ((hq_53.ri9 83 rfl ((G.1 66 46).toNatClampNeg)).trans ((gp_ne eG_47 (fun q => absurd q.1 (Nat.ne_of_beq_eq_false rfl))).trans ((gp_ne eG_44 (fun q => absurd q.1 (Nat.ne_of_beq_eq_false rfl))).trans ((hq_41.ri9 83 rfl ((G.1 66 46).toNatClampNeg)).trans (ey_31.symm)))))) ((gp_ne eG_65 (fun q => absurd q.1 (Nat.ne_of_beq_eq_false rfl))).trans ((hq_53.ri9 84 rfl ((G.1 66 46).toNatClampNeg)).trans ((gp_ne eG_47 (fun q => absurd q.1 (Nat.ne_of_beq_eq_false rfl))).trans (ey_45.symm)))) ((gp_ne eG_65 (fun q => absurd q.1 (Nat.ne_of_beq_eq_false rfl))).trans ((hq_53.ri9 85 rfl ((G.1 66 46).toNatClampNeg)).trans (gp_eq eG_47))) (f := r_12) (l := y_31) (m := y_45) (p := y_45) ⟨by omega, by omega, by omega, by omega, by omega, by omega, by omega⟩
      have g_67 : (G_65.1 66 2).toInt = (G_40.1 66 2).toInt := (congrArg Int32.toInt (show G_65.1 66 2 = (G_40.1 66 2) from ((gp_ne eG_65 (by decide)).trans ((hq_53.i9 66 2 rfl rfl).trans ((gp_ne eG_47 (fun q => absurd q.1 (Nat.ne_of_beq_eq_false rfl))).trans ((gp_ne eG_44 (fun q => absurd q.1 (Nat.ne_of_beq_eq_false rfl))).trans (rfl)))))))
      have b_68 : 0 ≤ (G_52.1 66 4).toInt ∧ (G_52.1 66 4).toInt ≤ 1600 := bd_66_4 hB_G_52
      have g_69 : (G_65.1 66 4).toInt = (G_52.1 66 4).toInt := (congrArg Int32.toInt (show G_65.1 66 4 = (G_52.1 66 4) from (gp_ne eG_65 (by decide))))
      have g_70 : (G_65.1 66 6).toInt = (G_52.1 66 6).toInt := (congrArg Int32.toInt (show G_65.1 66 6 = (G_52.1 66 6) from (gp_ne eG_65 (by decide))))
      exact W.vret hx hb hr (fun t ht _ => ⟨⟨G_65, rfl, (Q_readWalker_mk ⟨hB_G_65, hF, ((by first | exact ⟨((by first | (clear hnf hw4 hN9 b_1 d_3 b_10 d_6 d_7 b_20 g_21 b_22 d_8 d_9 d_10 d_11 u_32 b_34 g_35 b_36 d_14 d_15 u_46 f_56 c_57 b_58 c_59 d_18 ty_64 u_66 g_67; omega) | omega)), ⟨(fun h9 => by have q0_ := d_2 (by (clear hnf hw4 hN9 b_1 d_2 d_3 b_10 d_5 d_6 d_7 b_20 g_21 g_24 d_9 d_10 d_11 u_32 b_34 g_35 g_38 d_13 d_14 d_15 u_46 g_50 f_56 d_17 c_57 b_58 c_59 d_18 ty_64 u_66 g_67 g_70; omega)); have q1_ := d_5 (by (clear hnf hw4 hN9 b_1 d_2 d_3 b_10 d_5 d_6 d_7 b_20 g_21 g_24 d_9 d_10 d_11 u_32 b_34 g_35 g_38 d_13 d_14 d_15 u_46 g_50 f_56 d_17 c_57 b_58 c_59 d_18 ty_64 u_66 g_67 g_70; omega)); have q2_ := d_9 (by (clear hnf hw4 hN9 b_1 d_2 d_3 b_10 d_5 d_6 d_7 b_20 g_21 g_24 d_9 d_10 d_11 u_32 b_34 g_35 g_38 d_13 d_14 d_15 u_46 g_50 f_56 d_17 c_57 b_58 c_59 d_18 ty_64 u_66 g_67 g_70; omega)); have r1_ : (G_13.1 66 6).toInt = (G.1 66 6).toInt ∨ (G_13.1 66 6).toInt ≤ 3 := (by (clear hnf hw4 hN9 b_1 d_1 d_2 d_3 b_10 b_11 d_4 d_5 d_6 d_7 b_20 g_21 b_22 g_23 d_8 d_9 d_10 d_11 u_32 b_34 g_35 b_36 g_37 d_12 d_13 d_14 d_15 u_46 b_48 g_49 f_56 d_16 d_17 c_57 b_58 c_59 d_18 ty_64 u_66 g_67 b_68 g_69; omega)); clear q1_ q0_; have q3_ := d_13 (by (clear hnf hw4 hN9 b_1 d_2 d_3 b_10 d_5 d_6 d_7 b_20 g_21 g_24 d_9 d_10 d_11 u_32 b_34 g_35 g_38 d_13 d_14 d_15 u_46 g_50 f_56 d_17 c_57 b_58 c_59 d_18 ty_64 u_66 g_67 g_70; omega)); have r2_ : (G_26.1 66 6).toInt = (G.1 66 6).toInt ∨ (G_26.1 66 6).toInt ≤ 3 := (by (clear hnf hw4 hN9 b_1 d_1 d_2 d_3 b_10 b_11 d_4 d_5 d_6 d_7 b_20 g_21 b_22 g_23 d_8 d_9 d_10 d_11 u_32 b_34 g_35 b_36 g_37 d_12 d_13 d_14 d_15 u_46 b_48 g_49 f_56 d_16 d_17 c_57 b_58 c_59 d_18 ty_64 u_66 g_67 b_68 g_69; omega)); clear q2_ r1_; have q4_ := d_17 (by (clear hnf hw4 hN9 b_1 d_2 d_3 b_10 d_5 d_6 d_7 b_20 g_21 g_24 d_9 d_10 d_11 u_32 b_34 g_35 g_38 d_13 d_14 d_15 u_46 g_50 f_56 d_17 c_57 b_58 c_59 d_18 ty_64 u_66 g_67 g_70; omega)); have r3_ : (G_40.1 66 6).toInt = (G.1 66 6).toInt ∨ (G_40.1 66 6).toInt ≤ 3 := (by (clear hnf hw4 hN9 b_1 d_1 d_2 d_3 b_10 b_11 d_4 d_5 d_6 d_7 b_20 g_21 b_22 g_23 d_8 d_9 d_10 d_11 u_32 b_34 g_35 b_36 g_37 d_12 d_13 d_14 d_15 u_46 b_48 g_49 f_56 d_16 d_17 c_57 b_58 c_59 d_18 ty_64 u_66 g_67 b_68 g_69; omega)); clear q3_ r2_; (clear hnf hw4 hN9 b_1 d_1 d_2 d_3 b_10 b_11 d_4 d_5 d_6 d_7 b_20 g_21 b_22 g_23 d_8 d_9 d_10 d_11 u_32 b_34 g_35 b_36 g_37 d_12 d_13 d_14 d_15 u_46 b_48 g_49 f_56 d_16 d_17 c_57 b_58 c_59 d_18 ty_64 u_66 g_67 b_68 g_69; omega)), (fun h9 => ((by first | (clear hnf hw4 hN9 b_1 d_1 d_2 d_3 b_10 b_11 d_4 d_5 d_6 d_7 b_20 b_22 g_23 g_24 d_8 d_9 b_36 g_37 g_38 d_12 d_13 d_15 b_48 g_49 g_50 f_56 d_16 d_17 c_57 ty_64 b_68 g_69 g_70; omega) | omega)))⟩⟩ | omega)), ⟨G_4, hX_7, ⟨r_12, G_13, hX_16, ⟨G_17, hB_G_17, (Fr.put (rs := [82]) (fs := []) Fr.rf eG_17 (Or.inl (by decide))), rw_ast eG_17, ⟨r_25, G_26, hX_29, ⟨y_31, ey_31.trans (congrFun (rw_ast eG_30) _), ⟨G_30, hB_G_30, (Fr.put (rs := [83]) (fs := []) Fr.rf eG_30 (Or.inl (by decide))), rw_ast eG_30, ⟨r_39, G_40, hX_43, ⟨y_45, ey_45.trans (congrFun (rw_ast eG_44) _), ⟨G_47, hB_G_47, (Fr.put (rs := [84, 85]) (fs := []) (Fr.put (rs := [84, 85]) (fs := []) Fr.rf eG_44 (Or.inl (by decide))) eG_47 (Or.inl (by decide))), (rw_put eG_47 (by decide)).trans (rw_ast eG_44), (rw_ast eG_47).trans (congrArg (fun q => upd q ((G.1 66 46).toNatClampNeg) y_45) (rw_put eG_44 (by decide))), ⟨r_51, G_52, hX_55, (Or.inl ⟨c_57, (Or.inl ⟨c_59, ⟨y_64, ty_64, ⟨(Fr.put (rs := []) (fs := [(66, 46)]) Fr.rf eG_65 (Or.inr (by decide))), (gp_eq eG_65)⟩⟩⟩)⟩)⟩⟩⟩⟩⟩⟩⟩⟩⟩⟩⟩), wd_t ht hW⟩, hS.F ht⟩) hS.2.2 dX12_readWalker_126
  · have c_57 : r_51.toInt ≠ 0 := xI_ne rfl rfl c_57
    refine lv_aload_n hx hb dX12_readWalker_89 rfl (lv_at hl 1 rfl) ?_
    refine S_getR (n := 85) (C := RX12) (T := TX12) (N := 89) hx hb hg iX12 hown hK hW kd_66 rfl 33 (lt_b rfl) (hg (Cond.fieldLink RX12 69 "SlabWalkModel" "nLeap" "[I") m1347) (fun _ h9 => h9) rfl dX12_readWalker_90 ?_
    refine lv_iload_n hx hb dX12_readWalker_93 rfl (lv_at hl 0 rfl) ?_
    refine lv_aload_n hx hb dX12_readWalker_94 rfl (lv_at hl 1 rfl) ?_
    refine lv_aload_n hx hb dX12_readWalker_95 rfl (lv_at hl 1 rfl) ?_
    refine S_getR (n := 84) (C := RX12) (T := TX12) (N := 89) hx hb hg iX12 hown hK hW kd_66 rfl 32 (lt_b rfl) (hg (Cond.fieldLink RX12 66 "SlabWalkModel" "nMost" "[I") m1346) (fun _ h9 => h9) rfl dX12_readWalker_96 ?_
    refine lv_iload_n hx hb dX12_readWalker_99 rfl (lv_at hl 0 rfl) ?_
    refine S_iald hx hb hK hW kd_84 (vin ((by first | (clear hnf hN9 d_1 d_2 d_3 b_10 b_11 d_4 d_5 d_6 d_7 b_20 g_21 b_22 g_23 g_24 d_8 d_9 d_10 d_11 u_32 b_34 g_35 b_36 g_37 g_38 d_12 d_13 d_14 d_15 u_46 b_48 g_49 g_50 f_56 d_16 d_17 c_57; omega) | omega)) ((by first | (clear hnf hN9 d_1 d_2 d_3 b_10 b_11 d_4 d_5 d_6 d_7 b_20 g_21 b_22 g_23 g_24 d_8 d_9 d_10 d_11 u_32 b_34 g_35 b_36 g_37 g_38 d_12 d_13 d_14 d_15 u_46 b_48 g_49 g_50 f_56 d_16 d_17 c_57; omega) | omega))) dX12_readWalker_100 (fun y_71 ey_71 => ?_)
    have u_72 : y_71.toInt = y_45.toInt := congrArg Int32.toInt (ey_71.trans (((hq_53.ri9 84 rfl ((G.1 66 46).toNatClampNeg)).trans ((gp_ne eG_47 (fun q => absurd q.1 (Nat.ne_of_beq_eq_false rfl))).trans (ey_45.symm)))))
    refine ic_1 hx hb dX12_readWalker_101 ?_
    refine lv_iadd hx hb dX12_readWalker_102 ?_
    refine lv_topi (fun y_73 ey_73 => ?_)
    have u_74 := xI_addC ey_73
    refine lv_bipush (v := 99) hx hb dX12_readWalker_103 (by decide) ?_
    have qc_75 : (99 : Int32).toInt = 99 := rfl
    have b_76 : 0 ≤ (G_40.1 66 2).toInt ∧ (G_40.1 66 2).toInt ≤ 4 := bd_66_2 hB_G_40
    have g_77 : (G_52.1 66 2).toInt = (G_40.1 66 2).toInt := (congrArg Int32.toInt (show G_52.1 66 2 = (G_40.1 66 2) from ((hq_53.i9 66 2 rfl rfl).trans ((gp_ne eG_47 (fun q => absurd q.1 (Nat.ne_of_beq_eq_false rfl))).trans (gp_ne eG_44 (fun q => absurd q.1 (Nat.ne_of_beq_eq_false rfl)))))))
    have b_78 : 0 ≤ (G_52.1 66 4).toInt ∧ (G_52.1 66 4).toInt ≤ 1600 := bd_66_4 hB_G_52
    refine S_calli (va_runV (As := [.int y_73, .int 99]) (rest := [.int (G.1 66 46), .ref (a 85)]) ⟨hx, hb, hml, hown, hts⟩ (n_told l D k A a z G_52 y_73 99 ) (cwV 2 hts (gd_V hgd m1682 m1684 m62 m131 m1685) rfl rfl rfl hd_X12_toldNumber ⟨Nat.le_of_ble_eq_true rfl, Nat.le_of_ble_eq_true rfl⟩) (pre_W hW hB_G_52 hK hZ hS kd_66 rfl) rfl rfl hl.1 rfl (lv_room (Nat.le_of_ble_eq_true rfl)) dX12_readWalker_105 ⟨Nat.le_of_ble_eq_true rfl, Nat.le_of_ble_eq_true rfl⟩) hS (fun r_79 G_80 H locs hpo hW hS => ?_)
    have hX_83 : Q_told y_73 99 G_52 r_79 G_80 := hpo
    obtain ⟨hB_G_80, hq_81, ⟨d_19, d_20, d_21, d_22⟩, -⟩ := hpo
    have hF := hF.call9 hq_81 rfl rfl
    refine S_iast hx hb hK hW hS kd_85 (vin ((by first | (clear hnf hN9 d_1 d_2 d_3 b_10 b_11 d_4 d_5 d_6 d_7 b_20 g_21 b_22 g_23 g_24 d_8 d_9 d_10 d_11 u_32 b_34 g_35 b_36 g_37 g_38 d_12 d_13 d_14 d_15 u_46 b_48 g_49 g_50 f_56 d_16 d_17 c_57 u_72 b_76 g_77 b_78 d_19 d_20 d_21 d_22; omega) | omega)) ((by first | (clear hnf hN9 d_1 d_2 d_3 b_10 b_11 d_4 d_5 d_6 d_7 b_20 g_21 b_22 g_23 g_24 d_8 d_9 d_10 d_11 u_32 b_34 g_35 b_36 g_37 g_38 d_12 d_13 d_14 d_15 u_46 b_48 g_49 g_50 f_56 d_16 d_17 c_57 u_72 b_76 g_77 b_78 d_19 d_20 d_21 d_22; omega) | omega))) dX12_readWalker_108 (fun G_84 H locs eG_84 hW hS => ?_)
    have hB_G_84 : Bd G_84 := hB_G_80.put (lo := (-2147483648)) (hi := 2147483647) eG_84 rfl rfl rfl (tI_rng _).1 (tI_rng _).2 (hB_G_80.2.put eG_84 rfl)
    have hF := hF.put eG_84 (Or.inl (by decide))
    refine lv_aload_n hx hb dX12_readWalker_109 rfl (lv_at hl 1 rfl) ?_
    have b_85 : 0 ≤ (G_80.1 66 2).toInt ∧ (G_80.1 66 2).toInt ≤ 4 := bd_66_2 hB_G_80
    refine S_getI (v := (G_80.1 66 2)) (C := RX12) (T := TX12) (N := 89) hx hb hg iX12 hown hK hW kd_66 rfl 2 (lt_b rfl) (hg (Cond.fieldLink RX12 218 "SlabWalkModel" "fault" "I") m1316) (fun _ h9 => h9) rfl (gp_ne eG_84 (fun q => absurd q.1 (Nat.ne_of_beq_eq_false rfl))) dX12_readWalker_110 ?_
    refine lv_if_ne (tgt := 126) hx hb dX12_readWalker_113 rfl (fun c_86 => ?_) (fun c_86 => ?_)
    · have c_86 : (G_80.1 66 2).toInt ≠ 0 := xI_ne rfl rfl c_86
      have g_87 : (G_84.1 66 2).toInt = (G_80.1 66 2).toInt := (congrArg Int32.toInt (show G_84.1 66 2 = (G_80.1 66 2) from ((gp_ne eG_84 (fun q => absurd q.1 (Nat.ne_of_beq_eq_false rfl))).trans (rfl))))
      have b_88 : 0 ≤ (G_80.1 66 4).toInt ∧ (G_80.1 66 4).toInt ≤ 1600 := bd_66_4 hB_G_80
      have g_89 : (G_84.1 66 4).toInt = (G_80.1 66 4).toInt := (congrArg Int32.toInt (show G_84.1 66 4 = (G_80.1 66 4) from (gp_ne eG_84 (fun q => absurd q.1 (Nat.ne_of_beq_eq_false rfl)))))
      have g_90 : (G_84.1 66 6).toInt = (G_80.1 66 6).toInt := (congrArg Int32.toInt (show G_84.1 66 6 = (G_80.1 66 6) from (gp_ne eG_84 (fun q => absurd q.1 (Nat.ne_of_beq_eq_false rfl)))))
      exact W.vret hx hb hr (fun t ht _ => ⟨⟨G_84, rfl, (Q_readWalker_mk ⟨hB_G_84, hF, ((by first | exact ⟨((by first | (clear hnf hw4 hN9 b_1 d_3 b_10 d_6 d_7 b_20 g_21 b_22 d_8 d_9 d_10 d_11 u_32 b_34 g_35 b_36 g_37 g_38 d_12 d_13 d_14 d_15 u_46 b_48 f_56 c_57 u_72 b_76 g_77 d_21 d_22 b_85 c_86 g_87; omega) | omega)), ⟨(fun h9 => by have q0_ := d_2 (by (clear hnf hw4 hN9 b_1 d_2 d_3 b_10 d_5 d_6 d_7 b_20 g_21 g_24 d_9 d_10 d_11 u_32 b_34 g_35 g_38 d_13 d_14 d_15 u_46 g_50 f_56 d_17 c_57 u_72 b_76 g_77 d_20 d_21 d_22 b_85 c_86 g_87 g_90; omega)); have q1_ := d_5 (by (clear hnf hw4 hN9 b_1 d_2 d_3 b_10 d_5 d_6 d_7 b_20 g_21 g_24 d_9 d_10 d_11 u_32 b_34 g_35 g_38 d_13 d_14 d_15 u_46 g_50 f_56 d_17 c_57 u_72 b_76 g_77 d_20 d_21 d_22 b_85 c_86 g_87 g_90; omega)); have q2_ := d_9 (by (clear hnf hw4 hN9 b_1 d_2 d_3 b_10 d_5 d_6 d_7 b_20 g_21 g_24 d_9 d_10 d_11 u_32 b_34 g_35 g_38 d_13 d_14 d_15 u_46 g_50 f_56 d_17 c_57 u_72 b_76 g_77 d_20 d_21 d_22 b_85 c_86 g_87 g_90; omega)); have r1_ : (G_13.1 66 6).toInt = (G.1 66 6).toInt ∨ (G_13.1 66 6).toInt ≤ 3 := (by (clear hnf hw4 hN9 b_1 d_1 d_2 d_3 b_10 b_11 d_4 d_5 d_6 d_7 b_20 g_21 b_22 g_23 d_8 d_9 d_10 d_11 u_32 b_34 g_35 b_36 g_37 d_12 d_13 d_14 d_15 u_46 b_48 g_49 f_56 d_16 d_17 c_57 u_72 b_76 g_77 b_78 d_19 d_20 d_21 d_22 b_85 c_86 g_87 b_88 g_89; omega)); clear q1_ q0_; have q3_ := d_13 (by (clear hnf hw4 hN9 b_1 d_2 d_3 b_10 d_5 d_6 d_7 b_20 g_21 g_24 d_9 d_10 d_11 u_32 b_34 g_35 g_38 d_13 d_14 d_15 u_46 g_50 f_56 d_17 c_57 u_72 b_76 g_77 d_20 d_21 d_22 b_85 c_86 g_87 g_90; omega)); have r2_ : (G_26.1 66 6).toInt = (G.1 66 6).toInt ∨ (G_26.1 66 6).toInt ≤ 3 := (by (clear hnf hw4 hN9 b_1 d_1 d_2 d_3 b_10 b_11 d_4 d_5 d_6 d_7 b_20 g_21 b_22 g_23 d_8 d_9 d_10 d_11 u_32 b_34 g_35 b_36 g_37 d_12 d_13 d_14 d_15 u_46 b_48 g_49 f_56 d_16 d_17 c_57 u_72 b_76 g_77 b_78 d_19 d_20 d_21 d_22 b_85 c_86 g_87 b_88 g_89; omega)); clear q2_ r1_; have q4_ := d_17 (by (clear hnf hw4 hN9 b_1 d_2 d_3 b_10 d_5 d_6 d_7 b_20 g_21 g_24 d_9 d_10 d_11 u_32 b_34 g_35 g_38 d_13 d_14 d_15 u_46 g_50 f_56 d_17 c_57 u_72 b_76 g_77 d_20 d_21 d_22 b_85 c_86 g_87 g_90; omega)); have r3_ : (G_40.1 66 6).toInt = (G.1 66 6).toInt ∨ (G_40.1 66 6).toInt ≤ 3 := (by (clear hnf hw4 hN9 b_1 d_1 d_2 d_3 b_10 b_11 d_4 d_5 d_6 d_7 b_20 g_21 b_22 g_23 d_8 d_9 d_10 d_11 u_32 b_34 g_35 b_36 g_37 d_12 d_13 d_14 d_15 u_46 b_48 g_49 f_56 d_16 d_17 c_57 u_72 b_76 g_77 b_78 d_19 d_20 d_21 d_22 b_85 c_86 g_87 b_88 g_89; omega)); clear q3_ r2_; have q5_ := d_20 (by (clear hnf hw4 hN9 b_1 d_2 d_3 b_10 d_5 d_6 d_7 b_20 g_21 g_24 d_9 d_10 d_11 u_32 b_34 g_35 g_38 d_13 d_14 d_15 u_46 g_50 f_56 d_17 c_57 u_72 b_76 g_77 d_20 d_21 d_22 b_85 c_86 g_87 g_90; omega)); have r4_ : (G_52.1 66 6).toInt = (G.1 66 6).toInt ∨ (G_52.1 66 6).toInt ≤ 3 := (by (clear hnf hw4 hN9 b_1 d_1 d_2 d_3 b_10 b_11 d_4 d_5 d_6 d_7 b_20 g_21 b_22 g_23 d_8 d_9 d_10 d_11 u_32 b_34 g_35 b_36 g_37 d_12 d_13 d_14 d_15 u_46 b_48 g_49 f_56 d_16 d_17 c_57 u_72 b_76 g_77 b_78 d_19 d_20 d_21 d_22 b_85 c_86 g_87 b_88 g_89; omega)); clear q4_ r3_; (clear hnf hw4 hN9 b_1 d_1 d_2 d_3 b_10 b_11 d_4 d_5 d_6 d_7 b_20 g_21 b_22 g_23 d_8 d_9 d_10 d_11 u_32 b_34 g_35 b_36 g_37 d_12 d_13 d_14 d_15 u_46 b_48 g_49 f_56 d_16 d_17 c_57 u_72 b_76 g_77 b_78 d_19 d_20 d_21 d_22 b_85 c_86 g_87 b_88 g_89; omega)), (fun h9 => ((by first | (clear hnf hw4 hN9 b_1 d_1 d_2 d_3 b_10 b_11 d_4 d_5 d_6 d_7 b_20 g_21 b_22 g_23 g_24 d_8 d_9 d_10 d_11 b_34 b_36 g_37 g_38 d_12 d_13 b_48 g_49 g_50 f_56 d_16 d_17 c_57 b_78 d_19 d_20 d_22 b_88 g_89 g_90; omega) | omega)))⟩⟩ | omega)), ⟨G_4, hX_7, ⟨r_12, G_13, hX_16, ⟨G_17, hB_G_17, (Fr.put (rs := [82]) (fs := []) Fr.rf eG_17 (Or.inl (by decide))), rw_ast eG_17, ⟨r_25, G_26, hX_29, ⟨y_31, ey_31.trans (congrFun (rw_ast eG_30) _), ⟨G_30, hB_G_30, (Fr.put (rs := [83]) (fs := []) Fr.rf eG_30 (Or.inl (by decide))), rw_ast eG_30, ⟨r_39, G_40, hX_43, ⟨y_45, ey_45.trans (congrFun (rw_ast eG_44) _), ⟨G_47, hB_G_47, (Fr.put (rs := [84, 85]) (fs := []) (Fr.put (rs := [84, 85]) (fs := []) Fr.rf eG_44 (Or.inl (by decide))) eG_47 (Or.inl (by decide))), (rw_put eG_47 (by decide)).trans (rw_ast eG_44), (rw_ast eG_47).trans (congrArg (fun q => upd q ((G.1 66 46).toNatClampNeg) y_45) (rw_put eG_44 (by decide))), ⟨r_51, G_52, hX_55, (Or.inr ⟨c_57, ⟨y_71, ey_71, ⟨y_73, ey_73, ⟨r_79, G_80, hX_83, (Or.inr ⟨c_86, ⟨(Fr.put (rs := [85]) (fs := []) Fr.rf eG_84 (Or.inl (by decide))), rw_ast eG_84⟩⟩)⟩⟩⟩⟩)⟩⟩⟩⟩⟩⟩⟩⟩⟩⟩⟩), wd_t ht hW⟩, hS.F ht⟩) hS.2.2 dX12_readWalker_126
    · have c_86 : (G_80.1 66 2).toInt = 0 := xI_eq rfl rfl c_86
      have d_23 := d_22 c_86
      refine lv_aload_n hx hb dX12_readWalker_116 rfl (lv_at hl 1 rfl) ?_
      refine lv_dup hx hb dX12_readWalker_117 rfl ?_
      refine S_getI (v := (G.1 66 46)) (C := RX12) (T := TX12) (N := 89) hx hb hg iX12 hown hK hW kd_66 rfl 46 (lt_b rfl) (hg (Cond.fieldLink RX12 379 "SlabWalkModel" "nWalkers" "I") m1360) (fun _ h9 => h9) rfl ((gp_ne eG_84 (fun q => absurd q.1 (Nat.ne_of_beq_eq_false rfl))).trans ((hq_81.i9 66 46 rfl rfl).trans ((hq_53.i9 66 46 rfl rfl).trans ((gp_ne eG_47 (fun q => absurd q.1 (Nat.ne_of_beq_eq_false rfl))).trans ((gp_ne eG_44 (fun q => absurd q.1 (Nat.ne_of_beq_eq_false rfl))).trans ((hq_41.i9 66 46 rfl rfl).trans ((gp_ne eG_30 (fun q => absurd q.1 (Nat.ne_of_beq_eq_false rfl))).trans ((hq_27.i9 66 46 rfl rfl).trans ((gp_ne eG_17 (fun q => absurd q.1 (Nat.ne_of_beq_eq_false rfl))).trans ((hq_14.i9 66 46 rfl rfl).trans ((hq_5.i9 66 46 rfl rfl).trans (rfl)))))))))))) dX12_readWalker_118 ?_
      refine ic_1 hx hb dX12_readWalker_121 ?_
      refine lv_iadd hx hb dX12_readWalker_122 ?_
      refine lv_topi (fun y_91 ey_91 => ?_)
      have ty_91 : y_91.toInt = (G.1 66 46).toInt + 1 := xI_add rfl rfl ey_91 ((by first | (clear hnf hN9 d_1 d_2 d_3 b_10 b_11 d_4 d_5 d_6 d_7 b_20 g_21 b_22 g_23 g_24 d_8 d_9 d_10 d_11 u_32 b_34 g_35 b_36 g_37 g_38 d_12 d_13 d_14 d_15 u_46 b_48 g_49 g_50 f_56 d_16 d_17 c_57 u_72 b_76 g_77 b_78 d_19 d_20 d_21 d_22 b_85 c_86 d_23; omega) | omega)) ((by first | (clear hnf hN9 d_1 d_2 d_3 b_10 b_11 d_4 d_5 d_6 d_7 b_20 g_21 b_22 g_23 g_24 d_8 d_9 d_10 d_11 u_32 b_34 g_35 b_36 g_37 g_38 d_12 d_13 d_14 d_15 u_46 b_48 g_49 g_50 f_56 d_16 d_17 c_57 u_72 b_76 g_77 b_78 d_19 d_20 d_21 d_22 b_85 c_86 d_23; omega) | omega))
      refine S_putI (ty := .int) (C := RX12) (T := TX12) (N := 89) hx hb hg iX12 tyX12 tyX12_ok nmX12 hown hK hW hS kd_66 rfl 46 (lt_b rfl) (hg (Cond.fieldLink RX12 379 "SlabWalkModel" "nWalkers" "I") m1360) (fun _ h9 => h9) rfl (by decide +kernel) rfl rfl rfl dX12_readWalker_123 (fun G_92 H locs eG_92 hW hS => ?_)
      have hB_G_92 : Bd G_92 := hB_G_84.put (V := y_91.toInt) (lo := 0) (hi := 4) eG_92 rfl rfl rfl ((by first | (clear hnf hN9 d_1 d_2 d_3 b_10 b_11 d_4 d_5 d_6 d_7 b_20 g_21 b_22 g_23 g_24 d_8 d_9 d_10 d_11 u_32 b_34 g_35 b_36 g_37 g_38 d_12 d_13 d_14 d_15 u_46 b_48 g_49 g_50 f_56 d_16 d_17 c_57 u_72 b_76 g_77 b_78 d_19 d_20 d_21 d_22 b_85 c_86 d_23; omega) | omega)) ((by first | (clear hnf hN9 d_1 d_2 d_3 b_10 b_11 d_4 d_5 d_6 d_7 b_20 g_21 b_22 g_23 g_24 d_8 d_9 d_10 d_11 u_32 b_34 g_35 b_36 g_37 g_38 d_12 d_13 d_14 d_15 u_46 b_48 g_49 g_50 f_56 d_16 d_17 c_57 u_72 b_76 g_77 b_78 d_19 d_20 d_21 d_22 b_85 c_86 d_23; omega) | omega)) (hB_G_84.2.put eG_92 rfl)
      have hF := hF.put eG_92 (Or.inr (by decide))
      have u_93 : gN G_92 = 1 := walk_gh (G := G) (x := (G.1 66 46)) hN9 (by first | (clear d_22; omega) | omega) (by first | (clear d_22; omega) | omega) (gp_eq eG_92) (by first | (clear d_22; omega) | omega) (fun j hj => ((gp_ne eG_92 (fun q => absurd q.1 (Nat.ne_of_beq_eq_false rfl))).trans ((gp_ne eG_84 (fun q => absurd q.1 (Nat.ne_of_beq_eq_false rfl))).trans ((hq_81.ri9 82 rfl j).trans ((hq_53.ri9 82 rfl j).trans ((gp_ne eG_47 (fun q => absurd q.1 (Nat.ne_of_beq_eq_false rfl))).trans ((gp_ne eG_44 (fun q => absurd q.1 (Nat.ne_of_beq_eq_false rfl))).trans ((hq_41.ri9 82 rfl j).trans ((gp_ne eG_30 (fun q => absurd q.1 (Nat.ne_of_beq_eq_false rfl))).trans ((hq_27.ri9 82 rfl j).trans ((gp_ne eG_17 (fun q => hj q.2)).trans ((hq_14.ri9 82 rfl j).trans (hq_5.ri9 82 rfl j))))))))))))) (fun j hj => ((gp_ne eG_92 (fun q => absurd q.1 (Nat.ne_of_beq_eq_false rfl))).trans ((gp_ne eG_84 (fun q => absurd q.1 (Nat.ne_of_beq_eq_false rfl))).trans ((hq_81.ri9 83 rfl j).trans ((hq_53.ri9 83 rfl j).trans ((gp_ne eG_47 (fun q => absurd q.1 (Nat.ne_of_beq_eq_false rfl))).trans ((gp_ne eG_44 (fun q => absurd q.1 (Nat.ne_of_beq_eq_false rfl))).trans ((hq_41.ri9 83 rfl j).trans ((gp_ne eG_30 (fun q => hj q.2)).trans ((hq_27.ri9 83 rfl j).trans ((gp_ne eG_17 (fun q => absurd q.1 (Nat.ne_of_beq_eq_false rfl))).trans ((hq_14.ri9 83 rfl j).trans (hq_5.ri9 83 rfl j))))))))))))) (fun j hj => ((gp_ne eG_92 (fun q => absurd q.1 (Nat.ne_of_beq_eq_false rfl))).trans ((gp_ne eG_84 (fun q => absurd q.1 (Nat.ne_of_beq_eq_false rfl))).trans ((hq_81.ri9 84 rfl j).trans ((hq_53.ri9 84 rfl j).trans ((gp_ne eG_47 (fun q => absurd q.1 (Nat.ne_of_beq_eq_false rfl))).trans ((gp_ne eG_44 (fun q => hj q.2)).trans ((hq_41.ri9 84 rfl j).trans ((gp_ne eG_30 (fun q => absurd q.1 (Nat.ne_of_beq_eq_false rfl))).trans ((hq_27.ri9 84 rfl j).trans ((gp_ne eG_17 (fun q => absurd q.1 (Nat.ne_of_beq_eq_false rfl))).trans ((hq_14.ri9 84 rfl j).trans (hq_5.ri9 84 rfl j))))))))))))) (fun j hj => ((gp_ne eG_92 (fun q => absurd q.1 (Nat.ne_of_beq_eq_false rfl))).trans ((gp_ne eG_84 (fun q => hj q.2)).trans ((hq_81.ri9 85 rfl j).trans ((hq_53.ri9 85 rfl j).trans ((gp_ne eG_47 (fun q => hj q.2)).trans ((gp_ne eG_44 (fun q => absurd q.1 (Nat.ne_of_beq_eq_false rfl))).trans ((hq_41.ri9 85 rfl j).trans ((gp_ne eG_30 (fun q => absurd q.1 (Nat.ne_of_beq_eq_false rfl))).trans ((hq_27.ri9 85 rfl j).trans ((gp_ne eG_17 (fun q => absurd q.1 (Nat.ne_of_beq_eq_false rfl))).trans ((hq_14.ri9 85 rfl j).trans (hq_5.ri9 85 rfl j))))))))))))) ((gp_ne eG_92 (fun q => absurd q.1 (Nat.ne_of_beq_eq_false rfl))).trans ((gp_ne eG_84 (fun q => absurd q.1 (Nat.ne_of_beq_eq_false rfl))).trans ((hq_81.ri9 82 rfl ((G.1 66 46).toNatClampNeg)).trans ((hq_53.ri9 82 rfl ((G.1 66 46).toNatClampNeg)).trans ((gp_ne eG_47 (fun q => absurd q.1 (Nat.ne_of_beq_eq_false rfl))).trans ((gp_ne eG_44 (fun q => absurd q.1 (Nat.ne_of_beq_eq_false rfl))).trans ((hq_41.ri9 82 rfl ((G.1 66 46).toNatClampNeg)).trans ((gp_ne eG_30 (fun q => absurd q.1 (Nat.ne_of_beq_eq_false rfl))).trans ((hq_27.ri9 82 rfl ((G.1 66 46).toNatClampNeg)).trans (gp_eq eG_17)))))))))) ((gp_ne eG_92 (fun q => absurd q.1 (Nat.ne_of_beq_eq_false rfl))).trans ((gp_ne eG_84 (fun q => absurd q.1 (Nat.ne_of_beq_eq_false rfl))).trans ((hq_81.ri9 83 rfl ((G.1 66 46).toNatClampNeg)).trans ((hq_53.ri9 83 rfl ((G.1 66 46).toNatClampNeg)).trans ((gp_ne eG_47 (fun q => absurd q.1 (Nat.ne_of_beq_eq_false rfl))).trans ((gp_ne eG_44 (fun q => absurd q.1 (Nat.ne_of_beq_eq_false rfl))).trans ((hq_41.ri9 83 rfl ((G.1 66 46).toNatClampNeg)).trans (ey_31.symm)))))))) ((gp_ne eG_92 (fun q => absurd q.1 (Nat.ne_of_beq_eq_false rfl))).trans ((gp_ne eG_84 (fun q => absurd q.1 (Nat.ne_of_beq_eq_false rfl))).trans ((hq_81.ri9 84 rfl ((G.1 66 46).toNatClampNeg)).trans (ey_71.symm)))) ((gp_ne eG_92 (fun q => absurd q.1 (Nat.ne_of_beq_eq_false rfl))).trans (gp_eq eG_84)) (f := r_12) (l := y_31) (m := y_71) (p := r_79) ⟨by omega, by omega, by omega, by omega, by omega, by omega, by omega⟩
      have g_94 : (G_92.1 66 2).toInt = (G_80.1 66 2).toInt := (congrArg Int32.toInt (show G_92.1 66 2 = (G_80.1 66 2) from ((gp_ne eG_92 (by decide)).trans ((gp_ne eG_84 (fun q => absurd q.1 (Nat.ne_of_beq_eq_false rfl))).trans (rfl)))))
      have b_95 : 0 ≤ (G_80.1 66 4).toInt ∧ (G_80.1 66 4).toInt ≤ 1600 := bd_66_4 hB_G_80
      have g_96 : (G_92.1 66 4).toInt = (G_80.1 66 4).toInt := (congrArg Int32.toInt (show G_92.1 66 4 = (G_80.1 66 4) from ((gp_ne eG_92 (by decide)).trans (gp_ne eG_84 (fun q => absurd q.1 (Nat.ne_of_beq_eq_false rfl))))))
      have g_97 : (G_92.1 66 6).toInt = (G_80.1 66 6).toInt := (congrArg Int32.toInt (show G_92.1 66 6 = (G_80.1 66 6) from ((gp_ne eG_92 (by decide)).trans (gp_ne eG_84 (fun q => absurd q.1 (Nat.ne_of_beq_eq_false rfl))))))
      exact W.vret hx hb hr (fun t ht _ => ⟨⟨G_92, rfl, (Q_readWalker_mk ⟨hB_G_92, hF, ((by first | exact ⟨((by first | (clear hnf hw4 hN9 b_1 d_3 b_10 d_6 d_7 b_20 g_21 b_22 d_8 d_9 d_10 d_11 u_32 b_34 g_35 b_36 g_37 g_38 d_12 d_13 d_14 d_15 u_46 b_48 f_56 c_57 u_72 b_76 g_77 d_21 d_22 b_85 c_86 d_23 ty_91 u_93 g_94; omega) | omega)), ⟨(fun h9 => by have q0_ := d_2 (by (clear hnf hw4 hN9 b_1 d_2 d_3 b_10 d_5 d_6 d_7 b_20 g_21 g_24 d_9 d_10 d_11 u_32 b_34 g_35 g_38 d_13 d_14 d_15 u_46 g_50 f_56 d_17 c_57 u_72 b_76 g_77 d_20 d_21 d_22 b_85 c_86 d_23 ty_91 u_93 g_94 g_97; omega)); have q1_ := d_5 (by (clear hnf hw4 hN9 b_1 d_2 d_3 b_10 d_5 d_6 d_7 b_20 g_21 g_24 d_9 d_10 d_11 u_32 b_34 g_35 g_38 d_13 d_14 d_15 u_46 g_50 f_56 d_17 c_57 u_72 b_76 g_77 d_20 d_21 d_22 b_85 c_86 d_23 ty_91 u_93 g_94 g_97; omega)); have q2_ := d_9 (by (clear hnf hw4 hN9 b_1 d_2 d_3 b_10 d_5 d_6 d_7 b_20 g_21 g_24 d_9 d_10 d_11 u_32 b_34 g_35 g_38 d_13 d_14 d_15 u_46 g_50 f_56 d_17 c_57 u_72 b_76 g_77 d_20 d_21 d_22 b_85 c_86 d_23 ty_91 u_93 g_94 g_97; omega)); have r1_ : (G_13.1 66 6).toInt = (G.1 66 6).toInt ∨ (G_13.1 66 6).toInt ≤ 3 := (by (clear hnf hw4 hN9 b_1 d_1 d_2 d_3 b_10 b_11 d_4 d_5 d_6 d_7 b_20 g_21 b_22 g_23 d_8 d_9 d_10 d_11 u_32 b_34 g_35 b_36 g_37 d_12 d_13 d_14 d_15 u_46 b_48 g_49 f_56 d_16 d_17 c_57 u_72 b_76 g_77 b_78 d_19 d_20 d_21 d_22 b_85 c_86 d_23 ty_91 u_93 g_94 b_95 g_96; omega)); clear q1_ q0_; have q3_ := d_13 (by (clear hnf hw4 hN9 b_1 d_2 d_3 b_10 d_5 d_6 d_7 b_20 g_21 g_24 d_9 d_10 d_11 u_32 b_34 g_35 g_38 d_13 d_14 d_15 u_46 g_50 f_56 d_17 c_57 u_72 b_76 g_77 d_20 d_21 d_22 b_85 c_86 d_23 ty_91 u_93 g_94 g_97; omega)); have r2_ : (G_26.1 66 6).toInt = (G.1 66 6).toInt ∨ (G_26.1 66 6).toInt ≤ 3 := (by (clear hnf hw4 hN9 b_1 d_1 d_2 d_3 b_10 b_11 d_4 d_5 d_6 d_7 b_20 g_21 b_22 g_23 d_8 d_9 d_10 d_11 u_32 b_34 g_35 b_36 g_37 d_12 d_13 d_14 d_15 u_46 b_48 g_49 f_56 d_16 d_17 c_57 u_72 b_76 g_77 b_78 d_19 d_20 d_21 d_22 b_85 c_86 d_23 ty_91 u_93 g_94 b_95 g_96; omega)); clear q2_ r1_; have q4_ := d_17 (by (clear hnf hw4 hN9 b_1 d_2 d_3 b_10 d_5 d_6 d_7 b_20 g_21 g_24 d_9 d_10 d_11 u_32 b_34 g_35 g_38 d_13 d_14 d_15 u_46 g_50 f_56 d_17 c_57 u_72 b_76 g_77 d_20 d_21 d_22 b_85 c_86 d_23 ty_91 u_93 g_94 g_97; omega)); have r3_ : (G_40.1 66 6).toInt = (G.1 66 6).toInt ∨ (G_40.1 66 6).toInt ≤ 3 := (by (clear hnf hw4 hN9 b_1 d_1 d_2 d_3 b_10 b_11 d_4 d_5 d_6 d_7 b_20 g_21 b_22 g_23 d_8 d_9 d_10 d_11 u_32 b_34 g_35 b_36 g_37 d_12 d_13 d_14 d_15 u_46 b_48 g_49 f_56 d_16 d_17 c_57 u_72 b_76 g_77 b_78 d_19 d_20 d_21 d_22 b_85 c_86 d_23 ty_91 u_93 g_94 b_95 g_96; omega)); clear q3_ r2_; have q5_ := d_20 (by (clear hnf hw4 hN9 b_1 d_2 d_3 b_10 d_5 d_6 d_7 b_20 g_21 g_24 d_9 d_10 d_11 u_32 b_34 g_35 g_38 d_13 d_14 d_15 u_46 g_50 f_56 d_17 c_57 u_72 b_76 g_77 d_20 d_21 d_22 b_85 c_86 d_23 ty_91 u_93 g_94 g_97; omega)); have r4_ : (G_52.1 66 6).toInt = (G.1 66 6).toInt ∨ (G_52.1 66 6).toInt ≤ 3 := (by (clear hnf hw4 hN9 b_1 d_1 d_2 d_3 b_10 b_11 d_4 d_5 d_6 d_7 b_20 g_21 b_22 g_23 d_8 d_9 d_10 d_11 u_32 b_34 g_35 b_36 g_37 d_12 d_13 d_14 d_15 u_46 b_48 g_49 f_56 d_16 d_17 c_57 u_72 b_76 g_77 b_78 d_19 d_20 d_21 d_22 b_85 c_86 d_23 ty_91 u_93 g_94 b_95 g_96; omega)); clear q4_ r3_; (clear hnf hw4 hN9 b_1 d_1 d_2 d_3 b_10 b_11 d_4 d_5 d_6 d_7 b_20 g_21 b_22 g_23 d_8 d_9 d_10 d_11 u_32 b_34 g_35 b_36 g_37 d_12 d_13 d_14 d_15 u_46 b_48 g_49 f_56 d_16 d_17 c_57 u_72 b_76 g_77 b_78 d_19 d_20 d_21 d_22 b_85 c_86 d_23 ty_91 u_93 g_94 b_95 g_96; omega)), (fun h9 => ((by first | (clear hnf hw4 hN9 b_1 d_1 d_2 d_3 b_10 b_11 d_4 d_5 d_6 d_7 b_20 g_21 b_22 g_23 g_24 d_8 d_9 d_10 d_11 b_34 b_36 g_37 g_38 d_12 d_13 b_48 g_49 g_50 f_56 d_16 d_17 c_57 b_78 d_19 d_20 d_22 ty_91 b_95 g_96 g_97; omega) | omega)))⟩⟩ | omega)), ⟨G_4, hX_7, ⟨r_12, G_13, hX_16, ⟨G_17, hB_G_17, (Fr.put (rs := [82]) (fs := []) Fr.rf eG_17 (Or.inl (by decide))), rw_ast eG_17, ⟨r_25, G_26, hX_29, ⟨y_31, ey_31.trans (congrFun (rw_ast eG_30) _), ⟨G_30, hB_G_30, (Fr.put (rs := [83]) (fs := []) Fr.rf eG_30 (Or.inl (by decide))), rw_ast eG_30, ⟨r_39, G_40, hX_43, ⟨y_45, ey_45.trans (congrFun (rw_ast eG_44) _), ⟨G_47, hB_G_47, (Fr.put (rs := [84, 85]) (fs := []) (Fr.put (rs := [84, 85]) (fs := []) Fr.rf eG_44 (Or.inl (by decide))) eG_47 (Or.inl (by decide))), (rw_put eG_47 (by decide)).trans (rw_ast eG_44), (rw_ast eG_47).trans (congrArg (fun q => upd q ((G.1 66 46).toNatClampNeg) y_45) (rw_put eG_44 (by decide))), ⟨r_51, G_52, hX_55, (Or.inr ⟨c_57, ⟨y_71, ey_71, ⟨y_73, ey_73, ⟨r_79, G_80, hX_83, (Or.inl ⟨c_86, ⟨y_91, ty_91, ⟨(Fr.put (rs := [85]) (fs := [(66, 46)]) (Fr.put (rs := [85]) (fs := [(66, 46)]) Fr.rf eG_84 (Or.inl (by decide))) eG_92 (Or.inr (by decide))), (gp_eq eG_92), (rw_put eG_92 (by decide)).trans (rw_ast eG_84)⟩⟩⟩)⟩⟩⟩⟩)⟩⟩⟩⟩⟩⟩⟩⟩⟩⟩⟩), wd_t ht hW⟩, hS.F ht⟩) hS.2.2 dX12_readWalker_126
