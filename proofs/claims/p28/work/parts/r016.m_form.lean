theorem m71 : Cond.selects RX12 yX12_mayNot yX12_mayNot ∈ gd := gds_5 7 rfl
theorem m72 : Cond.selects RX12 yX12_openUp yX12_openUp ∈ gd := gds_5 8 rfl
theorem m73 : Cond.selects RX12 yX12_isFull yX12_isFull ∈ gd := gds_5 9 rfl
theorem m74 : Cond.selects RX12 yX12_countUnit yX12_countUnit ∈ gd := gds_5 10 rfl
theorem m75 : Cond.selects RX12 yX12_asked yX12_asked ∈ gd := gds_5 11 rfl
theorem m1335 : Cond.fieldLink RX12 312 "SlabWalkModel" "nUnits" "I" ∈ gd := gdc_6_1 3 rfl gw_fieldLink
theorem m1337 : Cond.fieldLink RX12 315 "SlabWalkModel" "ownUnits" "I" ∈ gd := gdc_6_1 5 rfl gw_fieldLink
theorem m1718 : Cond.methodLink RX12 318 yX12_mayNot ∈ gd := gdc_7_10 2 rfl gw_methodLink
theorem m1720 : Cond.instanceMethod yX12_mayNot ∈ gd := gdc_7_10 4 rfl gw_instanceMethod
theorem m1721 : Cond.code yX12_mayNot cX12_mayNot 1 (some .boolean) ∈ gd := gdc_7_10 5 rfl gw_code
theorem m1725 : Cond.methodLink RX12 321 yX12_openUp ∈ gd := gdc_7_10 9 rfl gw_methodLink
theorem m1727 : Cond.instanceMethod yX12_openUp ∈ gd := gdc_7_10 11 rfl gw_instanceMethod
theorem m1728 : Cond.code yX12_openUp cX12_openUp 2 none ∈ gd := gdc_7_10 12 rfl gw_code
theorem m1729 : Cond.methodLink RX12 324 yX12_isFull ∈ gd := gdc_7_10 13 rfl gw_methodLink
theorem m1731 : Cond.instanceMethod yX12_isFull ∈ gd := gdc_7_10 15 rfl gw_instanceMethod
theorem m1732 : Cond.code yX12_isFull cX12_isFull 1 (some .boolean) ∈ gd := gdc_7_11 0 rfl gw_code
theorem m1733 : Cond.methodLink RX12 327 yX12_countUnit ∈ gd := gdc_7_11 1 rfl gw_methodLink
theorem m1735 : Cond.instanceMethod yX12_countUnit ∈ gd := gdc_7_11 3 rfl gw_instanceMethod
theorem m1736 : Cond.code yX12_countUnit cX12_countUnit 1 none ∈ gd := gdc_7_11 4 rfl gw_code
theorem m1737 : Cond.methodLink RX12 330 yX12_asked ∈ gd := gdc_7_11 5 rfl gw_methodLink
theorem m1739 : Cond.instanceMethod yX12_asked ∈ gd := gdc_7_11 7 rfl gw_instanceMethod
theorem m1740 : Cond.code yX12_asked cX12_asked 1 (some .int) ∈ gd := gdc_7_11 8 rfl gw_code
noncomputable def rbX12_asked_0 : List (Nat × List Nat) := [(0, [42]), (1, [180, 0, 205]), (4, [4]), (5, [159, 0, 5]), (8, [2]), (9, [172]), (10, [42]), (11, [180, 0, 198]), (14, [20, 0, 223]), (17, [148]), (18, [154, 0, 5]), (21, [3]), (22, [172]), (23, [42]), (24, [182, 0, 245]), (27, [158, 0, 33]), (30, [42]), (31, [182, 0, 245]), (34, [16, 8]), (36, [160, 0, 7]), (39, [7]), (40, [167, 0, 19]), (43, [42]), (44, [182, 0, 245])]
theorem rcX12_asked_0 : dgo (lb cX12_asked) 0 rbX12_asked_0 = true := by decide +kernel
theorem dX12_asked_0 : decode cX12_asked 0 = .ok (.aload_n 0, 1) := dk_42 (dw rcX12_asked_0 0 rfl)
theorem dX12_asked_1 : decode cX12_asked 1 = .ok (.getfield 205, 3) := dk_180 (dw rcX12_asked_0 1 rfl) rfl
theorem dX12_asked_4 : decode cX12_asked 4 = .ok (.iconst 1, 1) := dk_4 (dw rcX12_asked_0 2 rfl)
theorem dX12_asked_5 : decode cX12_asked 5 = .ok (.if_icmp .eq 5, 3) := dk_159 (dw rcX12_asked_0 3 rfl) rfl
theorem dX12_asked_8 : decode cX12_asked 8 = .ok (.iconst (-1), 1) := dk_2 (dw rcX12_asked_0 4 rfl)
theorem dX12_asked_9 : decode cX12_asked 9 = .ok (.ireturn, 1) := dk_172 (dw rcX12_asked_0 5 rfl)
theorem dX12_asked_10 : decode cX12_asked 10 = .ok (.aload_n 0, 1) := dk_42 (dw rcX12_asked_0 6 rfl)
theorem dX12_asked_11 : decode cX12_asked 11 = .ok (.getfield 198, 3) := dk_180 (dw rcX12_asked_0 7 rfl) rfl
theorem dX12_asked_14 : decode cX12_asked 14 = .ok (.ldc2_w 223, 3) := dk_20 (dw rcX12_asked_0 8 rfl) rfl
theorem dX12_asked_17 : decode cX12_asked 17 = .ok (.lcmp, 1) := dk_148 (dw rcX12_asked_0 9 rfl)
theorem dX12_asked_18 : decode cX12_asked 18 = .ok (.ifCond .ne 5, 3) := dk_154 (dw rcX12_asked_0 10 rfl) rfl
theorem dX12_asked_21 : decode cX12_asked 21 = .ok (.iconst 0, 1) := dk_3 (dw rcX12_asked_0 11 rfl)
theorem dX12_asked_22 : decode cX12_asked 22 = .ok (.ireturn, 1) := dk_172 (dw rcX12_asked_0 12 rfl)
theorem dX12_asked_23 : decode cX12_asked 23 = .ok (.aload_n 0, 1) := dk_42 (dw rcX12_asked_0 13 rfl)
theorem dX12_asked_24 : decode cX12_asked 24 = .ok (.invokevirtual 245, 3) := dk_182 (dw rcX12_asked_0 14 rfl) rfl
theorem dX12_asked_27 : decode cX12_asked 27 = .ok (.ifCond .le 33, 3) := dk_158 (dw rcX12_asked_0 15 rfl) rfl
theorem dX12_asked_30 : decode cX12_asked 30 = .ok (.aload_n 0, 1) := dk_42 (dw rcX12_asked_0 16 rfl)
theorem dX12_asked_31 : decode cX12_asked 31 = .ok (.invokevirtual 245, 3) := dk_182 (dw rcX12_asked_0 17 rfl) rfl
theorem dX12_asked_34 : decode cX12_asked 34 = .ok (.bipush 8, 2) := dk_16 (dw rcX12_asked_0 18 rfl) rfl
theorem dX12_asked_36 : decode cX12_asked 36 = .ok (.if_icmp .ne 7, 3) := dk_160 (dw rcX12_asked_0 19 rfl) rfl
theorem dX12_asked_39 : decode cX12_asked 39 = .ok (.iconst 4, 1) := dk_7 (dw rcX12_asked_0 20 rfl)
theorem dX12_asked_40 : decode cX12_asked 40 = .ok (.goto 19, 3) := dk_167 (dw rcX12_asked_0 21 rfl) rfl
theorem dX12_asked_43 : decode cX12_asked 43 = .ok (.aload_n 0, 1) := dk_42 (dw rcX12_asked_0 22 rfl)
theorem dX12_asked_44 : decode cX12_asked 44 = .ok (.invokevirtual 245, 3) := dk_182 (dw rcX12_asked_0 23 rfl) rfl
noncomputable def rbX12_asked_47 : List (Nat × List Nat) := [(47, [7]), (48, [160, 0, 7]), (51, [6]), (52, [167, 0, 7]), (55, [42]), (56, [182, 0, 245]), (59, [172]), (60, [42]), (61, [180, 0, 198]), (64, [20, 0, 249]), (67, [148]), (68, [154, 0, 5]), (71, [8]), (72, [172]), (73, [42]), (74, [180, 0, 198]), (77, [20, 0, 251]), (80, [148]), (81, [154, 0, 6]), (84, [16, 6]), (86, [172]), (87, [42]), (88, [180, 0, 198]), (91, [20, 0, 253])]
theorem rcX12_asked_47 : dgo (lb cX12_asked) 0 rbX12_asked_47 = true := by decide +kernel
theorem dX12_asked_47 : decode cX12_asked 47 = .ok (.iconst 4, 1) := dk_7 (dw rcX12_asked_47 0 rfl)
theorem dX12_asked_48 : decode cX12_asked 48 = .ok (.if_icmp .ne 7, 3) := dk_160 (dw rcX12_asked_47 1 rfl) rfl
theorem dX12_asked_51 : decode cX12_asked 51 = .ok (.iconst 3, 1) := dk_6 (dw rcX12_asked_47 2 rfl)
theorem dX12_asked_52 : decode cX12_asked 52 = .ok (.goto 7, 3) := dk_167 (dw rcX12_asked_47 3 rfl) rfl
theorem dX12_asked_55 : decode cX12_asked 55 = .ok (.aload_n 0, 1) := dk_42 (dw rcX12_asked_47 4 rfl)
theorem dX12_asked_56 : decode cX12_asked 56 = .ok (.invokevirtual 245, 3) := dk_182 (dw rcX12_asked_47 5 rfl) rfl
theorem dX12_asked_59 : decode cX12_asked 59 = .ok (.ireturn, 1) := dk_172 (dw rcX12_asked_47 6 rfl)
theorem dX12_asked_60 : decode cX12_asked 60 = .ok (.aload_n 0, 1) := dk_42 (dw rcX12_asked_47 7 rfl)
theorem dX12_asked_61 : decode cX12_asked 61 = .ok (.getfield 198, 3) := dk_180 (dw rcX12_asked_47 8 rfl) rfl
theorem dX12_asked_64 : decode cX12_asked 64 = .ok (.ldc2_w 249, 3) := dk_20 (dw rcX12_asked_47 9 rfl) rfl
theorem dX12_asked_67 : decode cX12_asked 67 = .ok (.lcmp, 1) := dk_148 (dw rcX12_asked_47 10 rfl)
theorem dX12_asked_68 : decode cX12_asked 68 = .ok (.ifCond .ne 5, 3) := dk_154 (dw rcX12_asked_47 11 rfl) rfl
theorem dX12_asked_71 : decode cX12_asked 71 = .ok (.iconst 5, 1) := dk_8 (dw rcX12_asked_47 12 rfl)
theorem dX12_asked_72 : decode cX12_asked 72 = .ok (.ireturn, 1) := dk_172 (dw rcX12_asked_47 13 rfl)
theorem dX12_asked_73 : decode cX12_asked 73 = .ok (.aload_n 0, 1) := dk_42 (dw rcX12_asked_47 14 rfl)
theorem dX12_asked_74 : decode cX12_asked 74 = .ok (.getfield 198, 3) := dk_180 (dw rcX12_asked_47 15 rfl) rfl
theorem dX12_asked_77 : decode cX12_asked 77 = .ok (.ldc2_w 251, 3) := dk_20 (dw rcX12_asked_47 16 rfl) rfl
theorem dX12_asked_80 : decode cX12_asked 80 = .ok (.lcmp, 1) := dk_148 (dw rcX12_asked_47 17 rfl)
theorem dX12_asked_81 : decode cX12_asked 81 = .ok (.ifCond .ne 6, 3) := dk_154 (dw rcX12_asked_47 18 rfl) rfl
theorem dX12_asked_84 : decode cX12_asked 84 = .ok (.bipush 6, 2) := dk_16 (dw rcX12_asked_47 19 rfl) rfl
theorem dX12_asked_86 : decode cX12_asked 86 = .ok (.ireturn, 1) := dk_172 (dw rcX12_asked_47 20 rfl)
theorem dX12_asked_87 : decode cX12_asked 87 = .ok (.aload_n 0, 1) := dk_42 (dw rcX12_asked_47 21 rfl)
theorem dX12_asked_88 : decode cX12_asked 88 = .ok (.getfield 198, 3) := dk_180 (dw rcX12_asked_47 22 rfl) rfl
theorem dX12_asked_91 : decode cX12_asked 91 = .ok (.ldc2_w 253, 3) := dk_20 (dw rcX12_asked_47 23 rfl) rfl
noncomputable def rbX12_asked_94 : List (Nat × List Nat) := [(94, [148]), (95, [154, 0, 6]), (98, [16, 7]), (100, [172]), (101, [42]), (102, [180, 0, 198]), (105, [20, 0, 255]), (108, [148]), (109, [154, 0, 8]), (112, [16, 8]), (114, [167, 0, 4]), (117, [2]), (118, [172])]
theorem rcX12_asked_94 : dgo (lb cX12_asked) 0 rbX12_asked_94 = true := by decide +kernel
theorem dX12_asked_94 : decode cX12_asked 94 = .ok (.lcmp, 1) := dk_148 (dw rcX12_asked_94 0 rfl)
theorem dX12_asked_95 : decode cX12_asked 95 = .ok (.ifCond .ne 6, 3) := dk_154 (dw rcX12_asked_94 1 rfl) rfl
theorem dX12_asked_98 : decode cX12_asked 98 = .ok (.bipush 7, 2) := dk_16 (dw rcX12_asked_94 2 rfl) rfl
theorem dX12_asked_100 : decode cX12_asked 100 = .ok (.ireturn, 1) := dk_172 (dw rcX12_asked_94 3 rfl)
theorem dX12_asked_101 : decode cX12_asked 101 = .ok (.aload_n 0, 1) := dk_42 (dw rcX12_asked_94 4 rfl)
theorem dX12_asked_102 : decode cX12_asked 102 = .ok (.getfield 198, 3) := dk_180 (dw rcX12_asked_94 5 rfl) rfl
theorem dX12_asked_105 : decode cX12_asked 105 = .ok (.ldc2_w 255, 3) := dk_20 (dw rcX12_asked_94 6 rfl) rfl
theorem dX12_asked_108 : decode cX12_asked 108 = .ok (.lcmp, 1) := dk_148 (dw rcX12_asked_94 7 rfl)
theorem dX12_asked_109 : decode cX12_asked 109 = .ok (.ifCond .ne 8, 3) := dk_154 (dw rcX12_asked_94 8 rfl) rfl
theorem dX12_asked_112 : decode cX12_asked 112 = .ok (.bipush 8, 2) := dk_16 (dw rcX12_asked_94 9 rfl) rfl
theorem dX12_asked_114 : decode cX12_asked 114 = .ok (.goto 4, 3) := dk_167 (dw rcX12_asked_94 10 rfl) rfl
theorem dX12_asked_117 : decode cX12_asked 117 = .ok (.iconst (-1), 1) := dk_2 (dw rcX12_asked_94 11 rfl)
theorem dX12_asked_118 : decode cX12_asked 118 = .ok (.ireturn, 1) := dk_172 (dw rcX12_asked_94 12 rfl)
noncomputable def rbX12_countUnit_0 : List (Nat × List Nat) := [(0, [42]), (1, [89]), (2, [180, 1, 56]), (5, [4]), (6, [96]), (7, [181, 1, 56]), (10, [42]), (11, [89]), (12, [180, 1, 59]), (15, [4]), (16, [96]), (17, [181, 1, 59]), (20, [177])]
theorem rcX12_countUnit_0 : dgo (lb cX12_countUnit) 0 rbX12_countUnit_0 = true := by decide +kernel
theorem dX12_countUnit_0 : decode cX12_countUnit 0 = .ok (.aload_n 0, 1) := dk_42 (dw rcX12_countUnit_0 0 rfl)
theorem dX12_countUnit_1 : decode cX12_countUnit 1 = .ok (.dup, 1) := dk_89 (dw rcX12_countUnit_0 1 rfl)
theorem dX12_countUnit_2 : decode cX12_countUnit 2 = .ok (.getfield 312, 3) := dk_180 (dw rcX12_countUnit_0 2 rfl) rfl
theorem dX12_countUnit_5 : decode cX12_countUnit 5 = .ok (.iconst 1, 1) := dk_4 (dw rcX12_countUnit_0 3 rfl)
theorem dX12_countUnit_6 : decode cX12_countUnit 6 = .ok (.iadd, 1) := dk_96 (dw rcX12_countUnit_0 4 rfl)
theorem dX12_countUnit_7 : decode cX12_countUnit 7 = .ok (.putfield 312, 3) := dk_181 (dw rcX12_countUnit_0 5 rfl) rfl
theorem dX12_countUnit_10 : decode cX12_countUnit 10 = .ok (.aload_n 0, 1) := dk_42 (dw rcX12_countUnit_0 6 rfl)
theorem dX12_countUnit_11 : decode cX12_countUnit 11 = .ok (.dup, 1) := dk_89 (dw rcX12_countUnit_0 7 rfl)
theorem dX12_countUnit_12 : decode cX12_countUnit 12 = .ok (.getfield 315, 3) := dk_180 (dw rcX12_countUnit_0 8 rfl) rfl
theorem dX12_countUnit_15 : decode cX12_countUnit 15 = .ok (.iconst 1, 1) := dk_4 (dw rcX12_countUnit_0 9 rfl)
theorem dX12_countUnit_16 : decode cX12_countUnit 16 = .ok (.iadd, 1) := dk_96 (dw rcX12_countUnit_0 10 rfl)
theorem dX12_countUnit_17 : decode cX12_countUnit 17 = .ok (.putfield 315, 3) := dk_181 (dw rcX12_countUnit_0 11 rfl) rfl
theorem dX12_countUnit_20 : decode cX12_countUnit 20 = .ok (.return_, 1) := dk_177 (dw rcX12_countUnit_0 12 rfl)
noncomputable def rbX12_isFull_0 : List (Nat × List Nat) := [(0, [42]), (1, [180, 1, 56]), (4, [16, 90]), (6, [159, 0, 12]), (9, [42]), (10, [180, 1, 59]), (13, [16, 30]), (15, [160, 0, 7]), (18, [4]), (19, [167, 0, 4]), (22, [3]), (23, [172])]
theorem rcX12_isFull_0 : dgo (lb cX12_isFull) 0 rbX12_isFull_0 = true := by decide +kernel
theorem dX12_isFull_0 : decode cX12_isFull 0 = .ok (.aload_n 0, 1) := dk_42 (dw rcX12_isFull_0 0 rfl)
theorem dX12_isFull_1 : decode cX12_isFull 1 = .ok (.getfield 312, 3) := dk_180 (dw rcX12_isFull_0 1 rfl) rfl
theorem dX12_isFull_4 : decode cX12_isFull 4 = .ok (.bipush 90, 2) := dk_16 (dw rcX12_isFull_0 2 rfl) rfl
theorem dX12_isFull_6 : decode cX12_isFull 6 = .ok (.if_icmp .eq 12, 3) := dk_159 (dw rcX12_isFull_0 3 rfl) rfl
theorem dX12_isFull_9 : decode cX12_isFull 9 = .ok (.aload_n 0, 1) := dk_42 (dw rcX12_isFull_0 4 rfl)
theorem dX12_isFull_10 : decode cX12_isFull 10 = .ok (.getfield 315, 3) := dk_180 (dw rcX12_isFull_0 5 rfl) rfl
theorem dX12_isFull_13 : decode cX12_isFull 13 = .ok (.bipush 30, 2) := dk_16 (dw rcX12_isFull_0 6 rfl) rfl
theorem dX12_isFull_15 : decode cX12_isFull 15 = .ok (.if_icmp .ne 7, 3) := dk_160 (dw rcX12_isFull_0 7 rfl) rfl
theorem dX12_isFull_18 : decode cX12_isFull 18 = .ok (.iconst 1, 1) := dk_4 (dw rcX12_isFull_0 8 rfl)
theorem dX12_isFull_19 : decode cX12_isFull 19 = .ok (.goto 4, 3) := dk_167 (dw rcX12_isFull_0 9 rfl) rfl
theorem dX12_isFull_22 : decode cX12_isFull 22 = .ok (.iconst 0, 1) := dk_3 (dw rcX12_isFull_0 10 rfl)
theorem dX12_isFull_23 : decode cX12_isFull 23 = .ok (.ireturn, 1) := dk_172 (dw rcX12_isFull_0 11 rfl)
noncomputable def rbX12_openUp_0 : List (Nat × List Nat) := [(0, [42]), (1, [180, 0, 39]), (4, [42]), (5, [180, 1, 43]), (8, [27]), (9, [79]), (10, [42]), (11, [89]), (12, [180, 1, 43]), (15, [4]), (16, [96]), (17, [181, 1, 43]), (20, [42]), (21, [89]), (22, [180, 1, 53]), (25, [4]), (26, [96]), (27, [181, 1, 53]), (30, [42]), (31, [180, 0, 218]), (34, [154, 0, 7]), (37, [42]), (38, [182, 1, 23]), (41, [177])]
theorem rcX12_openUp_0 : dgo (lb cX12_openUp) 0 rbX12_openUp_0 = true := by decide +kernel
theorem dX12_openUp_0 : decode cX12_openUp 0 = .ok (.aload_n 0, 1) := dk_42 (dw rcX12_openUp_0 0 rfl)
theorem dX12_openUp_1 : decode cX12_openUp 1 = .ok (.getfield 39, 3) := dk_180 (dw rcX12_openUp_0 1 rfl) rfl
theorem dX12_openUp_4 : decode cX12_openUp 4 = .ok (.aload_n 0, 1) := dk_42 (dw rcX12_openUp_0 2 rfl)
theorem dX12_openUp_5 : decode cX12_openUp 5 = .ok (.getfield 299, 3) := dk_180 (dw rcX12_openUp_0 3 rfl) rfl
theorem dX12_openUp_8 : decode cX12_openUp 8 = .ok (.iload_n 1, 1) := dk_27 (dw rcX12_openUp_0 4 rfl)
theorem dX12_openUp_9 : decode cX12_openUp 9 = .ok (.iastore, 1) := dk_79 (dw rcX12_openUp_0 5 rfl)
theorem dX12_openUp_10 : decode cX12_openUp 10 = .ok (.aload_n 0, 1) := dk_42 (dw rcX12_openUp_0 6 rfl)
theorem dX12_openUp_11 : decode cX12_openUp 11 = .ok (.dup, 1) := dk_89 (dw rcX12_openUp_0 7 rfl)
theorem dX12_openUp_12 : decode cX12_openUp 12 = .ok (.getfield 299, 3) := dk_180 (dw rcX12_openUp_0 8 rfl) rfl
theorem dX12_openUp_15 : decode cX12_openUp 15 = .ok (.iconst 1, 1) := dk_4 (dw rcX12_openUp_0 9 rfl)
theorem dX12_openUp_16 : decode cX12_openUp 16 = .ok (.iadd, 1) := dk_96 (dw rcX12_openUp_0 10 rfl)
theorem dX12_openUp_17 : decode cX12_openUp 17 = .ok (.putfield 299, 3) := dk_181 (dw rcX12_openUp_0 11 rfl) rfl
theorem dX12_openUp_20 : decode cX12_openUp 20 = .ok (.aload_n 0, 1) := dk_42 (dw rcX12_openUp_0 12 rfl)
theorem dX12_openUp_21 : decode cX12_openUp 21 = .ok (.dup, 1) := dk_89 (dw rcX12_openUp_0 13 rfl)
theorem dX12_openUp_22 : decode cX12_openUp 22 = .ok (.getfield 309, 3) := dk_180 (dw rcX12_openUp_0 14 rfl) rfl
theorem dX12_openUp_25 : decode cX12_openUp 25 = .ok (.iconst 1, 1) := dk_4 (dw rcX12_openUp_0 15 rfl)
theorem dX12_openUp_26 : decode cX12_openUp 26 = .ok (.iadd, 1) := dk_96 (dw rcX12_openUp_0 16 rfl)
theorem dX12_openUp_27 : decode cX12_openUp 27 = .ok (.putfield 309, 3) := dk_181 (dw rcX12_openUp_0 17 rfl) rfl
theorem dX12_openUp_30 : decode cX12_openUp 30 = .ok (.aload_n 0, 1) := dk_42 (dw rcX12_openUp_0 18 rfl)
theorem dX12_openUp_31 : decode cX12_openUp 31 = .ok (.getfield 218, 3) := dk_180 (dw rcX12_openUp_0 19 rfl) rfl
theorem dX12_openUp_34 : decode cX12_openUp 34 = .ok (.ifCond .ne 7, 3) := dk_154 (dw rcX12_openUp_0 20 rfl) rfl
theorem dX12_openUp_37 : decode cX12_openUp 37 = .ok (.aload_n 0, 1) := dk_42 (dw rcX12_openUp_0 21 rfl)
theorem dX12_openUp_38 : decode cX12_openUp 38 = .ok (.invokevirtual 279, 3) := dk_182 (dw rcX12_openUp_0 22 rfl) rfl
theorem dX12_openUp_41 : decode cX12_openUp 41 = .ok (.return_, 1) := dk_177 (dw rcX12_openUp_0 23 rfl)
noncomputable def rbX12_sign_0 : List (Nat × List Nat) := [(0, [42]), (1, [20, 1, 1]), (4, [182, 1, 19]), (7, [153, 0, 6]), (10, [16, 38]), (12, [172]), (13, [42]), (14, [20, 1, 3]), (17, [182, 1, 19]), (20, [153, 0, 6]), (23, [16, 124]), (25, [172]), (26, [42]), (27, [180, 0, 205]), (30, [16, 60]), (32, [159, 0, 66]), (35, [42]), (36, [180, 0, 205]), (39, [16, 62]), (41, [159, 0, 57]), (44, [42]), (45, [180, 0, 205]), (48, [16, 61]), (50, [159, 0, 48])]
theorem rcX12_sign_0 : dgo (lb cX12_sign) 0 rbX12_sign_0 = true := by decide +kernel
theorem dX12_sign_0 : decode cX12_sign 0 = .ok (.aload_n 0, 1) := dk_42 (dw rcX12_sign_0 0 rfl)
theorem dX12_sign_1 : decode cX12_sign 1 = .ok (.ldc2_w 257, 3) := dk_20 (dw rcX12_sign_0 1 rfl) rfl
theorem dX12_sign_4 : decode cX12_sign 4 = .ok (.invokevirtual 275, 3) := dk_182 (dw rcX12_sign_0 2 rfl) rfl
theorem dX12_sign_7 : decode cX12_sign 7 = .ok (.ifCond .eq 6, 3) := dk_153 (dw rcX12_sign_0 3 rfl) rfl
theorem dX12_sign_10 : decode cX12_sign 10 = .ok (.bipush 38, 2) := dk_16 (dw rcX12_sign_0 4 rfl) rfl
theorem dX12_sign_12 : decode cX12_sign 12 = .ok (.ireturn, 1) := dk_172 (dw rcX12_sign_0 5 rfl)
theorem dX12_sign_13 : decode cX12_sign 13 = .ok (.aload_n 0, 1) := dk_42 (dw rcX12_sign_0 6 rfl)
theorem dX12_sign_14 : decode cX12_sign 14 = .ok (.ldc2_w 259, 3) := dk_20 (dw rcX12_sign_0 7 rfl) rfl
theorem dX12_sign_17 : decode cX12_sign 17 = .ok (.invokevirtual 275, 3) := dk_182 (dw rcX12_sign_0 8 rfl) rfl
theorem dX12_sign_20 : decode cX12_sign 20 = .ok (.ifCond .eq 6, 3) := dk_153 (dw rcX12_sign_0 9 rfl) rfl
theorem dX12_sign_23 : decode cX12_sign 23 = .ok (.bipush 124, 2) := dk_16 (dw rcX12_sign_0 10 rfl) rfl
theorem dX12_sign_25 : decode cX12_sign 25 = .ok (.ireturn, 1) := dk_172 (dw rcX12_sign_0 11 rfl)
theorem dX12_sign_26 : decode cX12_sign 26 = .ok (.aload_n 0, 1) := dk_42 (dw rcX12_sign_0 12 rfl)
theorem dX12_sign_27 : decode cX12_sign 27 = .ok (.getfield 205, 3) := dk_180 (dw rcX12_sign_0 13 rfl) rfl
theorem dX12_sign_30 : decode cX12_sign 30 = .ok (.bipush 60, 2) := dk_16 (dw rcX12_sign_0 14 rfl) rfl
theorem dX12_sign_32 : decode cX12_sign 32 = .ok (.if_icmp .eq 66, 3) := dk_159 (dw rcX12_sign_0 15 rfl) rfl
theorem dX12_sign_35 : decode cX12_sign 35 = .ok (.aload_n 0, 1) := dk_42 (dw rcX12_sign_0 16 rfl)
theorem dX12_sign_36 : decode cX12_sign 36 = .ok (.getfield 205, 3) := dk_180 (dw rcX12_sign_0 17 rfl) rfl
theorem dX12_sign_39 : decode cX12_sign 39 = .ok (.bipush 62, 2) := dk_16 (dw rcX12_sign_0 18 rfl) rfl
theorem dX12_sign_41 : decode cX12_sign 41 = .ok (.if_icmp .eq 57, 3) := dk_159 (dw rcX12_sign_0 19 rfl) rfl
theorem dX12_sign_44 : decode cX12_sign 44 = .ok (.aload_n 0, 1) := dk_42 (dw rcX12_sign_0 20 rfl)
theorem dX12_sign_45 : decode cX12_sign 45 = .ok (.getfield 205, 3) := dk_180 (dw rcX12_sign_0 21 rfl) rfl
theorem dX12_sign_48 : decode cX12_sign 48 = .ok (.bipush 61, 2) := dk_16 (dw rcX12_sign_0 22 rfl) rfl
theorem dX12_sign_50 : decode cX12_sign 50 = .ok (.if_icmp .eq 48, 3) := dk_159 (dw rcX12_sign_0 23 rfl) rfl
noncomputable def rbX12_sign_53 : List (Nat × List Nat) := [(53, [42]), (54, [180, 0, 205]), (57, [16, 43]), (59, [159, 0, 39]), (62, [42]), (63, [180, 0, 205]), (66, [16, 45]), (68, [159, 0, 30]), (71, [42]), (72, [180, 0, 205]), (75, [16, 42]), (77, [159, 0, 21]), (80, [42]), (81, [180, 0, 205]), (84, [16, 47]), (86, [159, 0, 12]), (89, [42]), (90, [180, 0, 205]), (93, [16, 37]), (95, [160, 0, 10]), (98, [42]), (99, [180, 0, 205]), (102, [167, 0, 4]), (105, [3])]
theorem rcX12_sign_53 : dgo (lb cX12_sign) 0 rbX12_sign_53 = true := by decide +kernel
theorem dX12_sign_53 : decode cX12_sign 53 = .ok (.aload_n 0, 1) := dk_42 (dw rcX12_sign_53 0 rfl)
theorem dX12_sign_54 : decode cX12_sign 54 = .ok (.getfield 205, 3) := dk_180 (dw rcX12_sign_53 1 rfl) rfl
theorem dX12_sign_57 : decode cX12_sign 57 = .ok (.bipush 43, 2) := dk_16 (dw rcX12_sign_53 2 rfl) rfl
theorem dX12_sign_59 : decode cX12_sign 59 = .ok (.if_icmp .eq 39, 3) := dk_159 (dw rcX12_sign_53 3 rfl) rfl
theorem dX12_sign_62 : decode cX12_sign 62 = .ok (.aload_n 0, 1) := dk_42 (dw rcX12_sign_53 4 rfl)
theorem dX12_sign_63 : decode cX12_sign 63 = .ok (.getfield 205, 3) := dk_180 (dw rcX12_sign_53 5 rfl) rfl
theorem dX12_sign_66 : decode cX12_sign 66 = .ok (.bipush 45, 2) := dk_16 (dw rcX12_sign_53 6 rfl) rfl
theorem dX12_sign_68 : decode cX12_sign 68 = .ok (.if_icmp .eq 30, 3) := dk_159 (dw rcX12_sign_53 7 rfl) rfl
theorem dX12_sign_71 : decode cX12_sign 71 = .ok (.aload_n 0, 1) := dk_42 (dw rcX12_sign_53 8 rfl)
theorem dX12_sign_72 : decode cX12_sign 72 = .ok (.getfield 205, 3) := dk_180 (dw rcX12_sign_53 9 rfl) rfl
theorem dX12_sign_75 : decode cX12_sign 75 = .ok (.bipush 42, 2) := dk_16 (dw rcX12_sign_53 10 rfl) rfl
theorem dX12_sign_77 : decode cX12_sign 77 = .ok (.if_icmp .eq 21, 3) := dk_159 (dw rcX12_sign_53 11 rfl) rfl
theorem dX12_sign_80 : decode cX12_sign 80 = .ok (.aload_n 0, 1) := dk_42 (dw rcX12_sign_53 12 rfl)
theorem dX12_sign_81 : decode cX12_sign 81 = .ok (.getfield 205, 3) := dk_180 (dw rcX12_sign_53 13 rfl) rfl
theorem dX12_sign_84 : decode cX12_sign 84 = .ok (.bipush 47, 2) := dk_16 (dw rcX12_sign_53 14 rfl) rfl
theorem dX12_sign_86 : decode cX12_sign 86 = .ok (.if_icmp .eq 12, 3) := dk_159 (dw rcX12_sign_53 15 rfl) rfl
theorem dX12_sign_89 : decode cX12_sign 89 = .ok (.aload_n 0, 1) := dk_42 (dw rcX12_sign_53 16 rfl)
theorem dX12_sign_90 : decode cX12_sign 90 = .ok (.getfield 205, 3) := dk_180 (dw rcX12_sign_53 17 rfl) rfl
theorem dX12_sign_93 : decode cX12_sign 93 = .ok (.bipush 37, 2) := dk_16 (dw rcX12_sign_53 18 rfl) rfl
theorem dX12_sign_95 : decode cX12_sign 95 = .ok (.if_icmp .ne 10, 3) := dk_160 (dw rcX12_sign_53 19 rfl) rfl
theorem dX12_sign_98 : decode cX12_sign 98 = .ok (.aload_n 0, 1) := dk_42 (dw rcX12_sign_53 20 rfl)
theorem dX12_sign_99 : decode cX12_sign 99 = .ok (.getfield 205, 3) := dk_180 (dw rcX12_sign_53 21 rfl) rfl
theorem dX12_sign_102 : decode cX12_sign 102 = .ok (.goto 4, 3) := dk_167 (dw rcX12_sign_53 22 rfl) rfl
theorem dX12_sign_105 : decode cX12_sign 105 = .ok (.iconst 0, 1) := dk_3 (dw rcX12_sign_53 23 rfl)
theorem dX12_sign_106 : decode cX12_sign 106 = .ok (.ireturn, 1) := dq_of (by decide +kernel)
noncomputable def rbX12_unit_0 : List (Nat × List Nat) := [(0, [4]), (1, [60]), (2, [27]), (3, [153, 0, 98]), (6, [42]), (7, [180, 0, 218]), (10, [154, 0, 91]), (13, [42]), (14, [20, 1, 5]), (17, [182, 1, 19]), (20, [153, 0, 33]), (23, [42]), (24, [182, 1, 62]), (27, [153, 0, 26]), (30, [42]), (31, [180, 1, 53]), (34, [16, 6]), (36, [164, 0, 8]), (39, [42]), (40, [5]), (41, [182, 1, 26]), (44, [42]), (45, [16, 21]), (47, [182, 1, 65])]
theorem rcX12_unit_0 : dgo (lb cX12_unit) 0 rbX12_unit_0 = true := by decide +kernel
theorem dX12_unit_0 : decode cX12_unit 0 = .ok (.iconst 1, 1) := dk_4 (dw rcX12_unit_0 0 rfl)
theorem dX12_unit_1 : decode cX12_unit 1 = .ok (.istore_n 1, 1) := dk_60 (dw rcX12_unit_0 1 rfl)
theorem dX12_unit_2 : decode cX12_unit 2 = .ok (.iload_n 1, 1) := dk_27 (dw rcX12_unit_0 2 rfl)
theorem dX12_unit_3 : decode cX12_unit 3 = .ok (.ifCond .eq 98, 3) := dk_153 (dw rcX12_unit_0 3 rfl) rfl
theorem dX12_unit_6 : decode cX12_unit 6 = .ok (.aload_n 0, 1) := dk_42 (dw rcX12_unit_0 4 rfl)
theorem dX12_unit_7 : decode cX12_unit 7 = .ok (.getfield 218, 3) := dk_180 (dw rcX12_unit_0 5 rfl) rfl
theorem dX12_unit_10 : decode cX12_unit 10 = .ok (.ifCond .ne 91, 3) := dk_154 (dw rcX12_unit_0 6 rfl) rfl
theorem dX12_unit_13 : decode cX12_unit 13 = .ok (.aload_n 0, 1) := dk_42 (dw rcX12_unit_0 7 rfl)
theorem dX12_unit_14 : decode cX12_unit 14 = .ok (.ldc2_w 261, 3) := dk_20 (dw rcX12_unit_0 8 rfl) rfl
theorem dX12_unit_17 : decode cX12_unit 17 = .ok (.invokevirtual 275, 3) := dk_182 (dw rcX12_unit_0 9 rfl) rfl
theorem dX12_unit_20 : decode cX12_unit 20 = .ok (.ifCond .eq 33, 3) := dk_153 (dw rcX12_unit_0 10 rfl) rfl
theorem dX12_unit_23 : decode cX12_unit 23 = .ok (.aload_n 0, 1) := dk_42 (dw rcX12_unit_0 11 rfl)
theorem dX12_unit_24 : decode cX12_unit 24 = .ok (.invokevirtual 318, 3) := dk_182 (dw rcX12_unit_0 12 rfl) rfl
theorem dX12_unit_27 : decode cX12_unit 27 = .ok (.ifCond .eq 26, 3) := dk_153 (dw rcX12_unit_0 13 rfl) rfl
theorem dX12_unit_30 : decode cX12_unit 30 = .ok (.aload_n 0, 1) := dk_42 (dw rcX12_unit_0 14 rfl)
theorem dX12_unit_31 : decode cX12_unit 31 = .ok (.getfield 309, 3) := dk_180 (dw rcX12_unit_0 15 rfl) rfl
theorem dX12_unit_34 : decode cX12_unit 34 = .ok (.bipush 6, 2) := dk_16 (dw rcX12_unit_0 16 rfl) rfl
theorem dX12_unit_36 : decode cX12_unit 36 = .ok (.if_icmp .le 8, 3) := dk_164 (dw rcX12_unit_0 17 rfl) rfl
theorem dX12_unit_39 : decode cX12_unit 39 = .ok (.aload_n 0, 1) := dk_42 (dw rcX12_unit_0 18 rfl)
theorem dX12_unit_40 : decode cX12_unit 40 = .ok (.iconst 2, 1) := dk_5 (dw rcX12_unit_0 19 rfl)
theorem dX12_unit_41 : decode cX12_unit 41 = .ok (.invokevirtual 282, 3) := dk_182 (dw rcX12_unit_0 20 rfl) rfl
theorem dX12_unit_44 : decode cX12_unit 44 = .ok (.aload_n 0, 1) := dk_42 (dw rcX12_unit_0 21 rfl)
theorem dX12_unit_45 : decode cX12_unit 45 = .ok (.bipush 21, 2) := dk_16 (dw rcX12_unit_0 22 rfl) rfl
theorem dX12_unit_47 : decode cX12_unit 47 = .ok (.invokevirtual 321, 3) := dk_182 (dw rcX12_unit_0 23 rfl) rfl
noncomputable def rbX12_unit_50 : List (Nat × List Nat) := [(50, [167, 255, 208]), (53, [42]), (54, [180, 0, 205]), (57, [16, 40]), (59, [160, 0, 37]), (62, [42]), (63, [182, 1, 68]), (66, [154, 0, 12]), (69, [42]), (70, [180, 1, 53]), (73, [16, 6]), (75, [164, 0, 8]), (78, [42]), (79, [5]), (80, [182, 1, 26]), (83, [42]), (84, [182, 1, 71]), (87, [42]), (88, [16, 20]), (90, [182, 1, 65]), (93, [167, 255, 165]), (96, [3]), (97, [60]), (98, [167, 255, 160])]
theorem rcX12_unit_50 : dgo (lb cX12_unit) 0 rbX12_unit_50 = true := by decide +kernel
theorem dX12_unit_50 : decode cX12_unit 50 = .ok (.goto (-48), 3) := dk_167 (dw rcX12_unit_50 0 rfl) rfl
theorem dX12_unit_53 : decode cX12_unit 53 = .ok (.aload_n 0, 1) := dk_42 (dw rcX12_unit_50 1 rfl)
theorem dX12_unit_54 : decode cX12_unit 54 = .ok (.getfield 205, 3) := dk_180 (dw rcX12_unit_50 2 rfl) rfl
theorem dX12_unit_57 : decode cX12_unit 57 = .ok (.bipush 40, 2) := dk_16 (dw rcX12_unit_50 3 rfl) rfl
theorem dX12_unit_59 : decode cX12_unit 59 = .ok (.if_icmp .ne 37, 3) := dk_160 (dw rcX12_unit_50 4 rfl) rfl
theorem dX12_unit_62 : decode cX12_unit 62 = .ok (.aload_n 0, 1) := dk_42 (dw rcX12_unit_50 5 rfl)
theorem dX12_unit_63 : decode cX12_unit 63 = .ok (.invokevirtual 324, 3) := dk_182 (dw rcX12_unit_50 6 rfl) rfl
theorem dX12_unit_66 : decode cX12_unit 66 = .ok (.ifCond .ne 12, 3) := dk_154 (dw rcX12_unit_50 7 rfl) rfl
theorem dX12_unit_69 : decode cX12_unit 69 = .ok (.aload_n 0, 1) := dk_42 (dw rcX12_unit_50 8 rfl)
theorem dX12_unit_70 : decode cX12_unit 70 = .ok (.getfield 309, 3) := dk_180 (dw rcX12_unit_50 9 rfl) rfl
theorem dX12_unit_73 : decode cX12_unit 73 = .ok (.bipush 6, 2) := dk_16 (dw rcX12_unit_50 10 rfl) rfl
theorem dX12_unit_75 : decode cX12_unit 75 = .ok (.if_icmp .le 8, 3) := dk_164 (dw rcX12_unit_50 11 rfl) rfl
theorem dX12_unit_78 : decode cX12_unit 78 = .ok (.aload_n 0, 1) := dk_42 (dw rcX12_unit_50 12 rfl)
theorem dX12_unit_79 : decode cX12_unit 79 = .ok (.iconst 2, 1) := dk_5 (dw rcX12_unit_50 13 rfl)
theorem dX12_unit_80 : decode cX12_unit 80 = .ok (.invokevirtual 282, 3) := dk_182 (dw rcX12_unit_50 14 rfl) rfl
theorem dX12_unit_83 : decode cX12_unit 83 = .ok (.aload_n 0, 1) := dk_42 (dw rcX12_unit_50 15 rfl)
theorem dX12_unit_84 : decode cX12_unit 84 = .ok (.invokevirtual 327, 3) := dk_182 (dw rcX12_unit_50 16 rfl) rfl
theorem dX12_unit_87 : decode cX12_unit 87 = .ok (.aload_n 0, 1) := dk_42 (dw rcX12_unit_50 17 rfl)
theorem dX12_unit_88 : decode cX12_unit 88 = .ok (.bipush 20, 2) := dk_16 (dw rcX12_unit_50 18 rfl) rfl
theorem dX12_unit_90 : decode cX12_unit 90 = .ok (.invokevirtual 321, 3) := dk_182 (dw rcX12_unit_50 19 rfl) rfl
theorem dX12_unit_93 : decode cX12_unit 93 = .ok (.goto (-91), 3) := dk_167 (dw rcX12_unit_50 20 rfl) rfl
theorem dX12_unit_96 : decode cX12_unit 96 = .ok (.iconst 0, 1) := dk_3 (dw rcX12_unit_50 21 rfl)
theorem dX12_unit_97 : decode cX12_unit 97 = .ok (.istore_n 1, 1) := dk_60 (dw rcX12_unit_50 22 rfl)
theorem dX12_unit_98 : decode cX12_unit 98 = .ok (.goto (-96), 3) := dk_167 (dw rcX12_unit_50 23 rfl) rfl
noncomputable def rbX12_unit_101 : List (Nat × List Nat) := [(101, [42]), (102, [180, 0, 218]), (105, [158, 0, 4]), (108, [177]), (109, [42]), (110, [182, 1, 74]), (113, [61]), (114, [42]), (115, [180, 0, 205]), (118, [5]), (119, [159, 0, 7]), (122, [28]), (123, [155, 0, 10]), (126, [42]), (127, [182, 1, 68]), (130, [153, 0, 8]), (133, [42]), (134, [5]), (135, [182, 1, 26]), (138, [42]), (139, [180, 0, 218]), (142, [158, 0, 4]), (145, [177]), (146, [42])]
theorem rcX12_unit_101 : dgo (lb cX12_unit) 0 rbX12_unit_101 = true := by decide +kernel
theorem dX12_unit_101 : decode cX12_unit 101 = .ok (.aload_n 0, 1) := dk_42 (dw rcX12_unit_101 0 rfl)
theorem dX12_unit_102 : decode cX12_unit 102 = .ok (.getfield 218, 3) := dk_180 (dw rcX12_unit_101 1 rfl) rfl
theorem dX12_unit_105 : decode cX12_unit 105 = .ok (.ifCond .le 4, 3) := dk_158 (dw rcX12_unit_101 2 rfl) rfl
theorem dX12_unit_108 : decode cX12_unit 108 = .ok (.return_, 1) := dk_177 (dw rcX12_unit_101 3 rfl)
theorem dX12_unit_109 : decode cX12_unit 109 = .ok (.aload_n 0, 1) := dk_42 (dw rcX12_unit_101 4 rfl)
theorem dX12_unit_110 : decode cX12_unit 110 = .ok (.invokevirtual 330, 3) := dk_182 (dw rcX12_unit_101 5 rfl) rfl
theorem dX12_unit_113 : decode cX12_unit 113 = .ok (.istore_n 2, 1) := dk_61 (dw rcX12_unit_101 6 rfl)
theorem dX12_unit_114 : decode cX12_unit 114 = .ok (.aload_n 0, 1) := dk_42 (dw rcX12_unit_101 7 rfl)
theorem dX12_unit_115 : decode cX12_unit 115 = .ok (.getfield 205, 3) := dk_180 (dw rcX12_unit_101 8 rfl) rfl
theorem dX12_unit_118 : decode cX12_unit 118 = .ok (.iconst 2, 1) := dk_5 (dw rcX12_unit_101 9 rfl)
theorem dX12_unit_119 : decode cX12_unit 119 = .ok (.if_icmp .eq 7, 3) := dk_159 (dw rcX12_unit_101 10 rfl) rfl
theorem dX12_unit_122 : decode cX12_unit 122 = .ok (.iload_n 2, 1) := dk_28 (dw rcX12_unit_101 11 rfl)
theorem dX12_unit_123 : decode cX12_unit 123 = .ok (.ifCond .lt 10, 3) := dk_155 (dw rcX12_unit_101 12 rfl) rfl
theorem dX12_unit_126 : decode cX12_unit 126 = .ok (.aload_n 0, 1) := dk_42 (dw rcX12_unit_101 13 rfl)
theorem dX12_unit_127 : decode cX12_unit 127 = .ok (.invokevirtual 324, 3) := dk_182 (dw rcX12_unit_101 14 rfl) rfl
theorem dX12_unit_130 : decode cX12_unit 130 = .ok (.ifCond .eq 8, 3) := dk_153 (dw rcX12_unit_101 15 rfl) rfl
theorem dX12_unit_133 : decode cX12_unit 133 = .ok (.aload_n 0, 1) := dk_42 (dw rcX12_unit_101 16 rfl)
theorem dX12_unit_134 : decode cX12_unit 134 = .ok (.iconst 2, 1) := dk_5 (dw rcX12_unit_101 17 rfl)
theorem dX12_unit_135 : decode cX12_unit 135 = .ok (.invokevirtual 282, 3) := dk_182 (dw rcX12_unit_101 18 rfl) rfl
theorem dX12_unit_138 : decode cX12_unit 138 = .ok (.aload_n 0, 1) := dk_42 (dw rcX12_unit_101 19 rfl)
theorem dX12_unit_139 : decode cX12_unit 139 = .ok (.getfield 218, 3) := dk_180 (dw rcX12_unit_101 20 rfl) rfl
theorem dX12_unit_142 : decode cX12_unit 142 = .ok (.ifCond .le 4, 3) := dk_158 (dw rcX12_unit_101 21 rfl) rfl
theorem dX12_unit_145 : decode cX12_unit 145 = .ok (.return_, 1) := dk_177 (dw rcX12_unit_101 22 rfl)
theorem dX12_unit_146 : decode cX12_unit 146 = .ok (.aload_n 0, 1) := dk_42 (dw rcX12_unit_101 23 rfl)
noncomputable def rbX12_unit_147 : List (Nat × List Nat) := [(147, [182, 1, 71]), (150, [42]), (151, [28]), (152, [156, 0, 7]), (155, [3]), (156, [167, 0, 4]), (159, [4]), (160, [28]), (161, [156, 0, 10]), (164, [42]), (165, [180, 0, 202]), (168, [167, 0, 4]), (171, [28]), (172, [182, 1, 49]), (175, [42]), (176, [182, 1, 23]), (179, [177])]
theorem rcX12_unit_147 : dgo (lb cX12_unit) 0 rbX12_unit_147 = true := by decide +kernel
theorem dX12_unit_147 : decode cX12_unit 147 = .ok (.invokevirtual 327, 3) := dk_182 (dw rcX12_unit_147 0 rfl) rfl
theorem dX12_unit_150 : decode cX12_unit 150 = .ok (.aload_n 0, 1) := dk_42 (dw rcX12_unit_147 1 rfl)
theorem dX12_unit_151 : decode cX12_unit 151 = .ok (.iload_n 2, 1) := dk_28 (dw rcX12_unit_147 2 rfl)
theorem dX12_unit_152 : decode cX12_unit 152 = .ok (.ifCond .ge 7, 3) := dk_156 (dw rcX12_unit_147 3 rfl) rfl
theorem dX12_unit_155 : decode cX12_unit 155 = .ok (.iconst 0, 1) := dk_3 (dw rcX12_unit_147 4 rfl)
theorem dX12_unit_156 : decode cX12_unit 156 = .ok (.goto 4, 3) := dk_167 (dw rcX12_unit_147 5 rfl) rfl
theorem dX12_unit_159 : decode cX12_unit 159 = .ok (.iconst 1, 1) := dk_4 (dw rcX12_unit_147 6 rfl)
theorem dX12_unit_160 : decode cX12_unit 160 = .ok (.iload_n 2, 1) := dk_28 (dw rcX12_unit_147 7 rfl)
theorem dX12_unit_161 : decode cX12_unit 161 = .ok (.ifCond .ge 10, 3) := dk_156 (dw rcX12_unit_147 8 rfl) rfl
theorem dX12_unit_164 : decode cX12_unit 164 = .ok (.aload_n 0, 1) := dk_42 (dw rcX12_unit_147 9 rfl)
theorem dX12_unit_165 : decode cX12_unit 165 = .ok (.getfield 202, 3) := dk_180 (dw rcX12_unit_147 10 rfl) rfl
theorem dX12_unit_168 : decode cX12_unit 168 = .ok (.goto 4, 3) := dk_167 (dw rcX12_unit_147 11 rfl) rfl
theorem dX12_unit_171 : decode cX12_unit 171 = .ok (.iload_n 2, 1) := dk_28 (dw rcX12_unit_147 12 rfl)
theorem dX12_unit_172 : decode cX12_unit 172 = .ok (.invokevirtual 305, 3) := dk_182 (dw rcX12_unit_147 13 rfl) rfl
theorem dX12_unit_175 : decode cX12_unit 175 = .ok (.aload_n 0, 1) := dk_42 (dw rcX12_unit_147 14 rfl)
theorem dX12_unit_176 : decode cX12_unit 176 = .ok (.invokevirtual 279, 3) := dk_182 (dw rcX12_unit_147 15 rfl) rfl
theorem dX12_unit_179 : decode cX12_unit 179 = .ok (.return_, 1) := dk_177 (dw rcX12_unit_147 16 rfl)
set_option maxHeartbeats 4000000 in
set_option maxRecDepth 100000 in
theorem n_asked (l : Launch) (D : va_G) (k : KT) (A : Nat → Prop) (a : Nat → Nat) (z : SK) (G : GS)   : Met l yX12_asked (WS yX12_asked cX12_asked 1 (some .int)) ({ frames := 1, cells := 0, slots := 0, locals := 20 }) (va_Pc [.ref (a 66)] (cW D k A a z G)) (va_Qi (fun (r : Int32) (G1 : GS) => Q_asked G r G1) (fun (G1 : GS) t => Wd D k A a G1 t.heap) A) 0 0 A := by
  refine Met.ofW (cc := cX12_asked) (maxL := 1) (ret := (some .int)) (by decide) rfl ?_
  intro p e s m args below meth c s₁ B hml hv
  obtain ⟨rfl, hW, hB_G, hK, hZ⟩ := hv
  have hx := B.exec
  have hb := B.bytes
  have hr := B.returns
  have hts := atoms_spec (ws := WS yX12_asked cX12_asked 1 (some .int)) B.pre
  have hgd : ∀ w ∈ gd, w ∈ WS yX12_asked cX12_asked 1 (some .int) := fun w h => List.mem_cons_of_mem _ h
  have hg : ∀ w ∈ gd, w.before _ s = true := fun w h => hts w (hgd w h)
  have hown : s.vm.findClass RX12 = some m.cls := findClass_of_methodNamed B.named
  have hS : va_S A s.heap s.heap [] := va_S.rf
  have hF : Fr [] [] G G := Fr.rf
  have hl := lv_entry ([.ref (a 66)]) (n := 1) (Nat.le_of_ble_eq_true rfl)
  rw [lg_entry_eq]
  generalize (lg_sl ([.ref (a 66)]) ++ List.replicate (1 - (lg_sl ([.ref (a 66)])).length) Slot.unset).toArray = ls at hl ⊢
  have hl : lv_has ls 1 [(0, .ref (a 66))] := hl
  refine lv_aload_n hx hb dX12_asked_0 rfl (lv_at hl 0 rfl) ?_
  refine S_getI (v := (G.1 66 6)) (C := RX12) (T := TX12) (N := 89) hx hb hg iX12 hown hK hW kd_66 rfl 6 (lt_b rfl) (hg (Cond.fieldLink RX12 205 "SlabWalkModel" "sort" "I") m1320) (fun _ h9 => h9) rfl rfl dX12_asked_1 ?_
  refine ic_1 hx hb dX12_asked_4 ?_
  refine lv_icmp_eq (tgt := 10) hx hb dX12_asked_5 rfl (fun c_1 => ?_) (fun c_1 => ?_)
  · have c_1 : (G.1 66 6).toInt = 1 := xI_eq rfl rfl c_1
    refine lv_aload_n hx hb dX12_asked_10 rfl (lv_at hl 0 rfl) ?_
    obtain ⟨y_2, ey_2⟩ : ∃ q, G.2.1 66 9 = q := ⟨_, rfl⟩
    refine S_getL (v := y_2) (C := RX12) (T := TX12) (N := 89) hx hb hg iX12 hown hK hW kd_66 rfl 9 (lt_b rfl) (hg (Cond.fieldLink RX12 198 "SlabWalkModel" "word" "J") m1323) (fun _ h9 => h9) rfl ey_2 dX12_asked_11 ?_
    refine lv_ldc2 (v := 457135713908) hx hb hown (hg (Cond.constantLong RX12 223 457135713908) m1644) dX12_asked_14 ?_
    refine W.lcmp hx hb dX12_asked_17 ?_
    refine lv_topi (fun y_3 ey_3 => ?_)
    have ty_3 := lcmp_rng ey_3
    refine lv_if_ne (tgt := 23) hx hb dX12_asked_18 rfl (fun c_4 => ?_) (fun c_4 => ?_)
    · have c_4 : y_3.toInt ≠ 0 := xI_ne rfl rfl c_4
      refine lv_aload_n hx hb dX12_asked_23 rfl (lv_at hl 0 rfl) ?_
      refine S_calli (va_runV (As := []) (rest := []) ⟨hx, hb, hml, hown, hts⟩ (n_mark l D k A a z G  ) (cwV 0 hts (gd_V hgd m1655 m1657 m58 m131 m1658) rfl rfl rfl hd_X12_mark ⟨Nat.le_of_ble_eq_true rfl, Nat.le_of_ble_eq_true rfl⟩) (pre_W hW hB_G hK hZ hS kd_66 rfl) rfl rfl hl.1 rfl (lv_room (Nat.le_of_ble_eq_true rfl)) dX12_asked_24 ⟨Nat.le_of_ble_eq_true rfl, Nat.le_of_ble_eq_true rfl⟩) hS (fun r_5 G_6 H locs hpo hW hS => ?_)
      have hX_9 : Q_mark G r_5 G_6 := hpo
      obtain ⟨hB_G_6, hq_7, f_10, hp_8, -⟩ := hpo
      have hF := hF.call9 hq_7 rfl rfl
      refine lv_if_le (tgt := 60) hx hb dX12_asked_27 rfl (fun c_11 => ?_) (fun c_11 => ?_)
      · have c_11 : r_5.toInt ≤ 0 := xI_le rfl rfl c_11
        refine lv_aload_n hx hb dX12_asked_60 rfl (lv_at hl 0 rfl) ?_
        obtain ⟨y_12, ey_12⟩ : ∃ q, G_6.2.1 66 9 = q := ⟨_, rfl⟩
        refine S_getL (v := y_12) (C := RX12) (T := TX12) (N := 89) hx hb hg iX12 hown hK hW kd_66 rfl 9 (lt_b rfl) (hg (Cond.fieldLink RX12 198 "SlabWalkModel" "word" "J") m1323) (fun _ h9 => h9) rfl ey_12 dX12_asked_61 ?_
        refine lv_ldc2 (v := 1819242087) hx hb hown (hg (Cond.constantLong RX12 249 1819242087) m1663) dX12_asked_64 ?_
        refine W.lcmp hx hb dX12_asked_67 ?_
        refine lv_topi (fun y_13 ey_13 => ?_)
        have ty_13 := lcmp_rng ey_13
        refine lv_if_ne (tgt := 73) hx hb dX12_asked_68 rfl (fun c_14 => ?_) (fun c_14 => ?_)
        · have c_14 : y_13.toInt ≠ 0 := xI_ne rfl rfl c_14
          refine lv_aload_n hx hb dX12_asked_73 rfl (lv_at hl 0 rfl) ?_
          obtain ⟨y_15, ey_15⟩ : ∃ q, G_6.2.1 66 9 = q := ⟨_, rfl⟩
          refine S_getL (v := y_15) (C := RX12) (T := TX12) (N := 89) hx hb hg iX12 hown hK hW kd_66 rfl 9 (lt_b rfl) (hg (Cond.fieldLink RX12 198 "SlabWalkModel" "word" "J") m1323) (fun _ h9 => h9) rfl ey_15 dX12_asked_74 ?_
          refine lv_ldc2 (v := 7238760) hx hb hown (hg (Cond.constantLong RX12 251 7238760) m1664) dX12_asked_77 ?_
          refine W.lcmp hx hb dX12_asked_80 ?_
          refine lv_topi (fun y_16 ey_16 => ?_)
          have ty_16 := lcmp_rng ey_16
          refine lv_if_ne (tgt := 87) hx hb dX12_asked_81 rfl (fun c_17 => ?_) (fun c_17 => ?_)
          · have c_17 : y_16.toInt ≠ 0 := xI_ne rfl rfl c_17
            refine lv_aload_n hx hb dX12_asked_87 rfl (lv_at hl 0 rfl) ?_
            obtain ⟨y_18, ey_18⟩ : ∃ q, G_6.2.1 66 9 = q := ⟨_, rfl⟩
            refine S_getL (v := y_18) (C := RX12) (T := TX12) (N := 89) hx hb hg iX12 hown hK hW kd_66 rfl 9 (lt_b rfl) (hg (Cond.fieldLink RX12 198 "SlabWalkModel" "word" "J") m1323) (fun _ h9 => h9) rfl ey_18 dX12_asked_88 ?_
            refine lv_ldc2 (v := 1768842088) hx hb hown (hg (Cond.constantLong RX12 253 1768842088) m1665) dX12_asked_91 ?_
            refine W.lcmp hx hb dX12_asked_94 ?_
            refine lv_topi (fun y_19 ey_19 => ?_)
            have ty_19 := lcmp_rng ey_19
            refine lv_if_ne (tgt := 101) hx hb dX12_asked_95 rfl (fun c_20 => ?_) (fun c_20 => ?_)
            · have c_20 : y_19.toInt ≠ 0 := xI_ne rfl rfl c_20
              refine lv_aload_n hx hb dX12_asked_101 rfl (lv_at hl 0 rfl) ?_
              obtain ⟨y_21, ey_21⟩ : ∃ q, G_6.2.1 66 9 = q := ⟨_, rfl⟩
              refine S_getL (v := y_21) (C := RX12) (T := TX12) (N := 89) hx hb hg iX12 hown hK hW kd_66 rfl 9 (lt_b rfl) (hg (Cond.fieldLink RX12 198 "SlabWalkModel" "word" "J") m1323) (fun _ h9 => h9) rfl ey_21 dX12_asked_102 ?_
              refine lv_ldc2 (v := 6578553) hx hb hown (hg (Cond.constantLong RX12 255 6578553) m1666) dX12_asked_105 ?_
              refine W.lcmp hx hb dX12_asked_108 ?_
              refine lv_topi (fun y_22 ey_22 => ?_)
              have ty_22 := lcmp_rng ey_22
              refine lv_if_ne (tgt := 117) hx hb dX12_asked_109 rfl (fun c_23 => ?_) (fun c_23 => ?_)
              · have c_23 : y_22.toInt ≠ 0 := xI_ne rfl rfl c_23
                refine ic_m1 hx hb dX12_asked_117 ?_
                exact W.iret (v := (-1)) hx hb hr (fun t ht _ => ⟨⟨(-1), G_6, rfl, (Q_asked_mk ⟨hB_G_6, hF, ⟨by decide, by decide⟩, (Or.inl ⟨c_1, ⟨y_2, ey_2.symm, ⟨y_3, ey_3, (Or.inr ⟨c_4, ⟨r_5, G_6, hX_9, (Or.inl ⟨c_11, ⟨y_12, ey_12.symm.trans ((hq_7.l9 66 9 rfl rfl)), ⟨y_13, ey_13, (Or.inr ⟨c_14, ⟨y_15, ey_15.symm.trans ((hq_7.l9 66 9 rfl rfl)), ⟨y_16, ey_16, (Or.inr ⟨c_17, ⟨y_18, ey_18.symm.trans ((hq_7.l9 66 9 rfl rfl)), ⟨y_19, ey_19, (Or.inr ⟨c_20, ⟨y_21, ey_21.symm.trans ((hq_7.l9 66 9 rfl rfl)), ⟨y_22, ey_22, (Or.inr ⟨c_23, ⟨rfl, rfl⟩⟩)⟩⟩⟩)⟩⟩⟩)⟩⟩⟩)⟩⟩⟩)⟩⟩)⟩⟩⟩)⟩), wd_t ht hW⟩, hS.F ht⟩) hS.2.2 dX12_asked_118
              · have c_23 : y_22.toInt = 0 := xI_eq rfl rfl c_23
                refine lv_bipush (v := 8) hx hb dX12_asked_112 (by decide) ?_
                refine lv_goto (tgt := 118) hx hb dX12_asked_114 rfl ?_
                exact W.iret (v := 8) hx hb hr (fun t ht _ => ⟨⟨8, G_6, rfl, (Q_asked_mk ⟨hB_G_6, hF, ⟨by decide, by decide⟩, (Or.inl ⟨c_1, ⟨y_2, ey_2.symm, ⟨y_3, ey_3, (Or.inr ⟨c_4, ⟨r_5, G_6, hX_9, (Or.inl ⟨c_11, ⟨y_12, ey_12.symm.trans ((hq_7.l9 66 9 rfl rfl)), ⟨y_13, ey_13, (Or.inr ⟨c_14, ⟨y_15, ey_15.symm.trans ((hq_7.l9 66 9 rfl rfl)), ⟨y_16, ey_16, (Or.inr ⟨c_17, ⟨y_18, ey_18.symm.trans ((hq_7.l9 66 9 rfl rfl)), ⟨y_19, ey_19, (Or.inr ⟨c_20, ⟨y_21, ey_21.symm.trans ((hq_7.l9 66 9 rfl rfl)), ⟨y_22, ey_22, (Or.inl ⟨c_23, ⟨rfl, rfl⟩⟩)⟩⟩⟩)⟩⟩⟩)⟩⟩⟩)⟩⟩⟩)⟩⟩)⟩⟩⟩)⟩), wd_t ht hW⟩, hS.F ht⟩) hS.2.2 dX12_asked_118
            · have c_20 : y_19.toInt = 0 := xI_eq rfl rfl c_20
              refine lv_bipush (v := 7) hx hb dX12_asked_98 (by decide) ?_
              exact W.iret (v := 7) hx hb hr (fun t ht _ => ⟨⟨7, G_6, rfl, (Q_asked_mk ⟨hB_G_6, hF, ⟨by decide, by decide⟩, (Or.inl ⟨c_1, ⟨y_2, ey_2.symm, ⟨y_3, ey_3, (Or.inr ⟨c_4, ⟨r_5, G_6, hX_9, (Or.inl ⟨c_11, ⟨y_12, ey_12.symm.trans ((hq_7.l9 66 9 rfl rfl)), ⟨y_13, ey_13, (Or.inr ⟨c_14, ⟨y_15, ey_15.symm.trans ((hq_7.l9 66 9 rfl rfl)), ⟨y_16, ey_16, (Or.inr ⟨c_17, ⟨y_18, ey_18.symm.trans ((hq_7.l9 66 9 rfl rfl)), ⟨y_19, ey_19, (Or.inl ⟨c_20, ⟨rfl, rfl⟩⟩)⟩⟩⟩)⟩⟩⟩)⟩⟩⟩)⟩⟩)⟩⟩⟩)⟩), wd_t ht hW⟩, hS.F ht⟩) hS.2.2 dX12_asked_100
          · have c_17 : y_16.toInt = 0 := xI_eq rfl rfl c_17
            refine lv_bipush (v := 6) hx hb dX12_asked_84 (by decide) ?_
            exact W.iret (v := 6) hx hb hr (fun t ht _ => ⟨⟨6, G_6, rfl, (Q_asked_mk ⟨hB_G_6, hF, ⟨by decide, by decide⟩, (Or.inl ⟨c_1, ⟨y_2, ey_2.symm, ⟨y_3, ey_3, (Or.inr ⟨c_4, ⟨r_5, G_6, hX_9, (Or.inl ⟨c_11, ⟨y_12, ey_12.symm.trans ((hq_7.l9 66 9 rfl rfl)), ⟨y_13, ey_13, (Or.inr ⟨c_14, ⟨y_15, ey_15.symm.trans ((hq_7.l9 66 9 rfl rfl)), ⟨y_16, ey_16, (Or.inl ⟨c_17, ⟨rfl, rfl⟩⟩)⟩⟩⟩)⟩⟩⟩)⟩⟩)⟩⟩⟩)⟩), wd_t ht hW⟩, hS.F ht⟩) hS.2.2 dX12_asked_86
        · have c_14 : y_13.toInt = 0 := xI_eq rfl rfl c_14
          refine ic_5 hx hb dX12_asked_71 ?_
          exact W.iret (v := 5) hx hb hr (fun t ht _ => ⟨⟨5, G_6, rfl, (Q_asked_mk ⟨hB_G_6, hF, ⟨by decide, by decide⟩, (Or.inl ⟨c_1, ⟨y_2, ey_2.symm, ⟨y_3, ey_3, (Or.inr ⟨c_4, ⟨r_5, G_6, hX_9, (Or.inl ⟨c_11, ⟨y_12, ey_12.symm.trans ((hq_7.l9 66 9 rfl rfl)), ⟨y_13, ey_13, (Or.inl ⟨c_14, ⟨rfl, rfl⟩⟩)⟩⟩⟩)⟩⟩)⟩⟩⟩)⟩), wd_t ht hW⟩, hS.F ht⟩) hS.2.2 dX12_asked_72
      · have c_11 : 0 < r_5.toInt := xI_nle rfl rfl c_11
        refine lv_aload_n hx hb dX12_asked_30 rfl (lv_at hl 0 rfl) ?_
        refine S_calli (va_runV (As := []) (rest := []) ⟨hx, hb, hml, hown, hts⟩ (n_mark l D k A a z G_6  ) (cwV 0 hts (gd_V hgd m1655 m1657 m58 m131 m1658) rfl rfl rfl hd_X12_mark ⟨Nat.le_of_ble_eq_true rfl, Nat.le_of_ble_eq_true rfl⟩) (pre_W hW hB_G_6 hK hZ hS kd_66 rfl) rfl rfl hl.1 rfl (lv_room (Nat.le_of_ble_eq_true rfl)) dX12_asked_31 ⟨Nat.le_of_ble_eq_true rfl, Nat.le_of_ble_eq_true rfl⟩) hS (fun r_24 G_25 H locs hpo hW hS => ?_)
        have hX_28 : Q_mark G_6 r_24 G_25 := hpo
        obtain ⟨hB_G_25, hq_26, f_29, hp_27, -⟩ := hpo
        have hF := hF.call9 hq_26 rfl rfl
        refine lv_bipush (v := 8) hx hb dX12_asked_34 (by decide) ?_
        refine lv_icmp_ne (tgt := 43) hx hb dX12_asked_36 rfl (fun c_30 => ?_) (fun c_30 => ?_)
        · have c_30 : r_24.toInt ≠ 8 := xI_ne rfl rfl c_30
          refine lv_aload_n hx hb dX12_asked_43 rfl (lv_at hl 0 rfl) ?_
          refine S_calli (va_runV (As := []) (rest := []) ⟨hx, hb, hml, hown, hts⟩ (n_mark l D k A a z G_25  ) (cwV 0 hts (gd_V hgd m1655 m1657 m58 m131 m1658) rfl rfl rfl hd_X12_mark ⟨Nat.le_of_ble_eq_true rfl, Nat.le_of_ble_eq_true rfl⟩) (pre_W hW hB_G_25 hK hZ hS kd_66 rfl) rfl rfl hl.1 rfl (lv_room (Nat.le_of_ble_eq_true rfl)) dX12_asked_44 ⟨Nat.le_of_ble_eq_true rfl, Nat.le_of_ble_eq_true rfl⟩) hS (fun r_31 G_32 H locs hpo hW hS => ?_)
          have hX_35 : Q_mark G_25 r_31 G_32 := hpo
          obtain ⟨hB_G_32, hq_33, f_36, hp_34, -⟩ := hpo
          have hF := hF.call9 hq_33 rfl rfl
          refine ic_4 hx hb dX12_asked_47 ?_
          refine lv_icmp_ne (tgt := 55) hx hb dX12_asked_48 rfl (fun c_37 => ?_) (fun c_37 => ?_)
          · have c_37 : r_31.toInt ≠ 4 := xI_ne rfl rfl c_37
            refine lv_aload_n hx hb dX12_asked_55 rfl (lv_at hl 0 rfl) ?_
            refine S_calli (va_runV (As := []) (rest := []) ⟨hx, hb, hml, hown, hts⟩ (n_mark l D k A a z G_32  ) (cwV 0 hts (gd_V hgd m1655 m1657 m58 m131 m1658) rfl rfl rfl hd_X12_mark ⟨Nat.le_of_ble_eq_true rfl, Nat.le_of_ble_eq_true rfl⟩) (pre_W hW hB_G_32 hK hZ hS kd_66 rfl) rfl rfl hl.1 rfl (lv_room (Nat.le_of_ble_eq_true rfl)) dX12_asked_56 ⟨Nat.le_of_ble_eq_true rfl, Nat.le_of_ble_eq_true rfl⟩) hS (fun r_38 G_39 H locs hpo hW hS => ?_)
            have hX_42 : Q_mark G_32 r_38 G_39 := hpo
            obtain ⟨hB_G_39, hq_40, f_43, hp_41, -⟩ := hpo
            have hF := hF.call9 hq_40 rfl rfl
            exact W.iret (v := r_38) hx hb hr (fun t ht _ => ⟨⟨r_38, G_39, rfl, (Q_asked_mk ⟨hB_G_39, hF, ⟨(by first | exact ok_67 f_43.1 | omega), (by first | exact f_43.2 | omega)⟩, (Or.inl ⟨c_1, ⟨y_2, ey_2.symm, ⟨y_3, ey_3, (Or.inr ⟨c_4, ⟨r_5, G_6, hX_9, (Or.inr ⟨c_11, ⟨r_24, G_25, hX_28, (Or.inr ⟨c_30, ⟨r_31, G_32, hX_35, (Or.inr ⟨c_37, ⟨r_38, G_39, hX_42, ⟨rfl, rfl⟩⟩⟩)⟩⟩)⟩⟩)⟩⟩)⟩⟩⟩)⟩), wd_t ht hW⟩, hS.F ht⟩) hS.2.2 dX12_asked_59
          · have c_37 : r_31.toInt = 4 := xI_eq rfl rfl c_37
            refine ic_3 hx hb dX12_asked_51 ?_
            refine lv_goto (tgt := 59) hx hb dX12_asked_52 rfl ?_
            exact W.iret (v := 3) hx hb hr (fun t ht _ => ⟨⟨3, G_32, rfl, (Q_asked_mk ⟨hB_G_32, hF, ⟨by decide, by decide⟩, (Or.inl ⟨c_1, ⟨y_2, ey_2.symm, ⟨y_3, ey_3, (Or.inr ⟨c_4, ⟨r_5, G_6, hX_9, (Or.inr ⟨c_11, ⟨r_24, G_25, hX_28, (Or.inr ⟨c_30, ⟨r_31, G_32, hX_35, (Or.inl ⟨c_37, ⟨rfl, rfl⟩⟩)⟩⟩)⟩⟩)⟩⟩)⟩⟩⟩)⟩), wd_t ht hW⟩, hS.F ht⟩) hS.2.2 dX12_asked_59
        · have c_30 : r_24.toInt = 8 := xI_eq rfl rfl c_30
          refine ic_4 hx hb dX12_asked_39 ?_
          refine lv_goto (tgt := 59) hx hb dX12_asked_40 rfl ?_
          exact W.iret (v := 4) hx hb hr (fun t ht _ => ⟨⟨4, G_25, rfl, (Q_asked_mk ⟨hB_G_25, hF, ⟨by decide, by decide⟩, (Or.inl ⟨c_1, ⟨y_2, ey_2.symm, ⟨y_3, ey_3, (Or.inr ⟨c_4, ⟨r_5, G_6, hX_9, (Or.inr ⟨c_11, ⟨r_24, G_25, hX_28, (Or.inl ⟨c_30, ⟨rfl, rfl⟩⟩)⟩⟩)⟩⟩)⟩⟩⟩)⟩), wd_t ht hW⟩, hS.F ht⟩) hS.2.2 dX12_asked_59
    · have c_4 : y_3.toInt = 0 := xI_eq rfl rfl c_4
      refine ic_0 hx hb dX12_asked_21 ?_
      exact W.iret (v := 0) hx hb hr (fun t ht _ => ⟨⟨0, G, rfl, (Q_asked_mk ⟨hB_G, hF, ⟨by decide, by decide⟩, (Or.inl ⟨c_1, ⟨y_2, ey_2.symm, ⟨y_3, ey_3, (Or.inl ⟨c_4, ⟨rfl, rfl⟩⟩)⟩⟩⟩)⟩), wd_t ht hW⟩, hS.F ht⟩) hS.2.2 dX12_asked_22
  · have c_1 : (G.1 66 6).toInt ≠ 1 := xI_ne rfl rfl c_1
    refine ic_m1 hx hb dX12_asked_8 ?_
    exact W.iret (v := (-1)) hx hb hr (fun t ht _ => ⟨⟨(-1), G, rfl, (Q_asked_mk ⟨hB_G, hF, ⟨by decide, by decide⟩, (Or.inr ⟨c_1, ⟨rfl, rfl⟩⟩)⟩), wd_t ht hW⟩, hS.F ht⟩) hS.2.2 dX12_asked_9

set_option maxHeartbeats 4000000 in
set_option maxRecDepth 100000 in
theorem n_isFull (l : Launch) (D : va_G) (k : KT) (A : Nat → Prop) (a : Nat → Nat) (z : SK) (G : GS)   : Met l yX12_isFull (WS yX12_isFull cX12_isFull 1 (some .boolean)) ({ frames := 0, cells := 0, slots := 0, locals := 0 }) (va_Pc [.ref (a 66)] (cW D k A a z G)) (va_Qi (fun (r : Int32) (G1 : GS) => Q_isFull G r G1) (fun (G1 : GS) t => Wd D k A a G1 t.heap) A) 0 0 A := by
  refine Met.ofW (cc := cX12_isFull) (maxL := 1) (ret := (some .boolean)) (by decide) rfl ?_
  intro p e s m args below meth c s₁ B hml hv
  obtain ⟨rfl, hW, hB_G, hK, hZ⟩ := hv
  have hx := B.exec
  have hb := B.bytes
  have hr := B.returns
  have hts := atoms_spec (ws := WS yX12_isFull cX12_isFull 1 (some .boolean)) B.pre
  have hgd : ∀ w ∈ gd, w ∈ WS yX12_isFull cX12_isFull 1 (some .boolean) := fun w h => List.mem_cons_of_mem _ h
  have hg : ∀ w ∈ gd, w.before _ s = true := fun w h => hts w (hgd w h)
  have hown : s.vm.findClass RX12 = some m.cls := findClass_of_methodNamed B.named
  have hS : va_S A s.heap s.heap [] := va_S.rf
  have hF : Fr [] [] G G := Fr.rf
  have hl := lv_entry ([.ref (a 66)]) (n := 1) (Nat.le_of_ble_eq_true rfl)
  rw [lg_entry_eq]
  generalize (lg_sl ([.ref (a 66)]) ++ List.replicate (1 - (lg_sl ([.ref (a 66)])).length) Slot.unset).toArray = ls at hl ⊢
  have hl : lv_has ls 1 [(0, .ref (a 66))] := hl
  refine lv_aload_n hx hb dX12_isFull_0 rfl (lv_at hl 0 rfl) ?_
  refine S_getI (v := (G.1 66 21)) (C := RX12) (T := TX12) (N := 89) hx hb hg iX12 hown hK hW kd_66 rfl 21 (lt_b rfl) (hg (Cond.fieldLink RX12 312 "SlabWalkModel" "nUnits" "I") m1335) (fun _ h9 => h9) rfl rfl dX12_isFull_1 ?_
  refine lv_bipush (v := 90) hx hb dX12_isFull_4 (by decide) ?_
  refine lv_icmp_eq (tgt := 18) hx hb dX12_isFull_6 rfl (fun c_1 => ?_) (fun c_1 => ?_)
  · have c_1 : (G.1 66 21).toInt = 90 := xI_eq rfl rfl c_1
    refine ic_1 hx hb dX12_isFull_18 ?_
    refine lv_goto (tgt := 23) hx hb dX12_isFull_19 rfl ?_
    have b_2 : 0 ≤ (G.1 66 23).toInt ∧ (G.1 66 23).toInt ≤ 40 := bd_66_23 hB_G
    exact W.zret (v := 1) hx hb hr (by decide) (fun t ht _ => ⟨⟨1, G, rfl, (Q_isFull_mk ⟨hB_G, hF, ⟨by decide, by decide⟩, (by have hq : (1 : Int32).toInt = 1 := rfl; (try dsimp only); omega), (Or.inl ⟨c_1, ⟨rfl, rfl⟩⟩)⟩), wd_t ht hW⟩, hS.F ht⟩) hS.2.2 dX12_isFull_23
  · have c_1 : (G.1 66 21).toInt ≠ 90 := xI_ne rfl rfl c_1
    refine lv_aload_n hx hb dX12_isFull_9 rfl (lv_at hl 0 rfl) ?_
    have b_3 : 0 ≤ (G.1 66 23).toInt ∧ (G.1 66 23).toInt ≤ 40 := bd_66_23 hB_G
    refine S_getI (v := (G.1 66 23)) (C := RX12) (T := TX12) (N := 89) hx hb hg iX12 hown hK hW kd_66 rfl 23 (lt_b rfl) (hg (Cond.fieldLink RX12 315 "SlabWalkModel" "ownUnits" "I") m1337) (fun _ h9 => h9) rfl rfl dX12_isFull_10 ?_
    refine lv_bipush (v := 30) hx hb dX12_isFull_13 (by decide) ?_
    refine lv_icmp_ne (tgt := 22) hx hb dX12_isFull_15 rfl (fun c_4 => ?_) (fun c_4 => ?_)
    · have c_4 : (G.1 66 23).toInt ≠ 30 := xI_ne rfl rfl c_4
      refine ic_0 hx hb dX12_isFull_22 ?_
      exact W.zret (v := 0) hx hb hr (by decide) (fun t ht _ => ⟨⟨0, G, rfl, (Q_isFull_mk ⟨hB_G, hF, ⟨by decide, by decide⟩, (by have hq : (0 : Int32).toInt = 0 := rfl; (try dsimp only); omega), (Or.inr ⟨c_1, (Or.inr ⟨c_4, ⟨rfl, rfl⟩⟩)⟩)⟩), wd_t ht hW⟩, hS.F ht⟩) hS.2.2 dX12_isFull_23
    · have c_4 : (G.1 66 23).toInt = 30 := xI_eq rfl rfl c_4
      refine ic_1 hx hb dX12_isFull_18 ?_
      refine lv_goto (tgt := 23) hx hb dX12_isFull_19 rfl ?_
      exact W.zret (v := 1) hx hb hr (by decide) (fun t ht _ => ⟨⟨1, G, rfl, (Q_isFull_mk ⟨hB_G, hF, ⟨by decide, by decide⟩, (by have hq : (1 : Int32).toInt = 1 := rfl; (try dsimp only); omega), (Or.inr ⟨c_1, (Or.inl ⟨c_4, ⟨rfl, rfl⟩⟩)⟩)⟩), wd_t ht hW⟩, hS.F ht⟩) hS.2.2 dX12_isFull_23

set_option maxHeartbeats 4000000 in
set_option maxRecDepth 100000 in
theorem n_countUnit (l : Launch) (D : va_G) (k : KT) (A : Nat → Prop) (a : Nat → Nat) (z : SK) (G : GS)  (how : (G.1 66 23).toInt ≤ 39) : Met l yX12_countUnit (WS yX12_countUnit cX12_countUnit 1 none) ({ frames := 0, cells := 0, slots := 0, locals := 0 }) (va_Pc [.ref (a 66)] (cW D k A a z G)) (va_Qv (fun (G1 : GS) => Q_countUnit G G1) (fun (G1 : GS) t => Wd D k A a G1 t.heap) A) 0 0 A := by
  refine Met.ofW (cc := cX12_countUnit) (maxL := 1) (ret := none) (by decide) rfl ?_
  intro p e s m args below meth c s₁ B hml hv
  obtain ⟨rfl, hW, hB_G, hK, hZ⟩ := hv
  have hx := B.exec
  have hb := B.bytes
  have hr := B.returns
  have hts := atoms_spec (ws := WS yX12_countUnit cX12_countUnit 1 none) B.pre
  have hgd : ∀ w ∈ gd, w ∈ WS yX12_countUnit cX12_countUnit 1 none := fun w h => List.mem_cons_of_mem _ h
  have hg : ∀ w ∈ gd, w.before _ s = true := fun w h => hts w (hgd w h)
  have hown : s.vm.findClass RX12 = some m.cls := findClass_of_methodNamed B.named
  have hS : va_S A s.heap s.heap [] := va_S.rf
  have hF : Fr [] [(66, 21), (66, 23)] G G := Fr.rf
  have hl := lv_entry ([.ref (a 66)]) (n := 1) (Nat.le_of_ble_eq_true rfl)
  rw [lg_entry_eq]
  generalize (lg_sl ([.ref (a 66)]) ++ List.replicate (1 - (lg_sl ([.ref (a 66)])).length) Slot.unset).toArray = ls at hl ⊢
  have hl : lv_has ls 1 [(0, .ref (a 66))] := hl
  refine lv_aload_n hx hb dX12_countUnit_0 rfl (lv_at hl 0 rfl) ?_
  refine lv_dup hx hb dX12_countUnit_1 rfl ?_
  refine S_getI (v := (G.1 66 21)) (C := RX12) (T := TX12) (N := 89) hx hb hg iX12 hown hK hW kd_66 rfl 21 (lt_b rfl) (hg (Cond.fieldLink RX12 312 "SlabWalkModel" "nUnits" "I") m1335) (fun _ h9 => h9) rfl rfl dX12_countUnit_2 ?_
  refine ic_1 hx hb dX12_countUnit_5 ?_
  refine lv_iadd hx hb dX12_countUnit_6 ?_
  refine lv_topi (fun y_1 ey_1 => ?_)
  refine S_putI (ty := .int) (C := RX12) (T := TX12) (N := 89) hx hb hg iX12 tyX12 tyX12_ok nmX12 hown hK hW hS kd_66 rfl 21 (lt_b rfl) (hg (Cond.fieldLink RX12 312 "SlabWalkModel" "nUnits" "I") m1335) (fun _ h9 => h9) rfl (by decide +kernel) rfl rfl rfl dX12_countUnit_7 (fun G_2 H locs eG_2 hW hS => ?_)
  have hB_G_2 : Bd G_2 := hB_G.put (lo := (-2147483648)) (hi := 2147483647) eG_2 rfl rfl rfl (tI_rng _).1 (tI_rng _).2 (hB_G.2.put eG_2 rfl)
  have hF := hF.put eG_2 (Or.inr (by decide))
  refine lv_aload_n hx hb dX12_countUnit_10 rfl (lv_at hl 0 rfl) ?_
  refine lv_dup hx hb dX12_countUnit_11 rfl ?_
  have b_3 : 0 ≤ (G.1 66 23).toInt ∧ (G.1 66 23).toInt ≤ 40 := bd_66_23 hB_G
  refine S_getI (v := (G.1 66 23)) (C := RX12) (T := TX12) (N := 89) hx hb hg iX12 hown hK hW kd_66 rfl 23 (lt_b rfl) (hg (Cond.fieldLink RX12 315 "SlabWalkModel" "ownUnits" "I") m1337) (fun _ h9 => h9) rfl (gp_ne eG_2 (by decide)) dX12_countUnit_12 ?_
  refine ic_1 hx hb dX12_countUnit_15 ?_
  refine lv_iadd hx hb dX12_countUnit_16 ?_
  refine lv_topi (fun y_4 ey_4 => ?_)
  have ty_4 : y_4.toInt = (G.1 66 23).toInt + 1 := xI_add rfl rfl ey_4 ((by first | exact ok_21 b_3.1 | omega)) ((by first | exact ok_201 b_3.2 | omega))
  refine S_putI (ty := .int) (C := RX12) (T := TX12) (N := 89) hx hb hg iX12 tyX12 tyX12_ok nmX12 hown hK hW hS kd_66 rfl 23 (lt_b rfl) (hg (Cond.fieldLink RX12 315 "SlabWalkModel" "ownUnits" "I") m1337) (fun _ h9 => h9) rfl (by decide +kernel) rfl rfl rfl dX12_countUnit_17 (fun G_5 H locs eG_5 hW hS => ?_)
  have hB_G_5 : Bd G_5 := hB_G_2.put (V := y_4.toInt) (lo := 0) (hi := 40) eG_5 rfl rfl rfl ((by first | exact ok_23 b_3.1 ty_4 | omega)) ((by first | exact ok_826 how b_3.2 ty_4 | omega)) (hB_G_2.2.put eG_5 rfl)
  have hF := hF.put eG_5 (Or.inr (by decide))
  have g_6 : (G_5.1 66 23).toInt = y_4.toInt := (congrArg Int32.toInt (show G_5.1 66 23 = y_4 from (gp_eq eG_5)))
  exact W.vret hx hb hr (fun t ht _ => ⟨⟨G_5, rfl, (Q_countUnit_mk ⟨hB_G_5, hF, ((by first | exact ok_752 ty_4 g_6 | omega)), ⟨y_1, ey_1, ⟨y_4, ty_4, ⟨(Fr.put (rs := []) (fs := [(66, 21), (66, 23)]) (Fr.put (rs := []) (fs := [(66, 21), (66, 23)]) Fr.rf eG_2 (Or.inr (by decide))) eG_5 (Or.inr (by decide))), ((gp_ne eG_5 (by decide)).trans (gp_eq eG_2)), (gp_eq eG_5)⟩⟩⟩⟩), wd_t ht hW⟩, hS.F ht⟩) hS.2.2 dX12_countUnit_20

set_option maxHeartbeats 4000000 in
set_option maxRecDepth 100000 in
theorem n_openUp (l : Launch) (D : va_G) (k : KT) (A : Nat → Prop) (a : Nat → Nat) (z : SK) (G : GS) (p0 : Int32) (ha_p0 : 20 ≤ p0.toInt ∧ p0.toInt ≤ 21) (hop : (G.1 66 20).toInt ≤ 159 ∧ (G.1 66 24).toInt ≤ 199) : Met l yX12_openUp (WS yX12_openUp cX12_openUp 2 none) ({ frames := 2, cells := 0, slots := 0, locals := 43 }) (va_Pc [.ref (a 66), .int p0] (cW D k A a z G)) (va_Qv (fun (G1 : GS) => Q_openUp p0 G G1) (fun (G1 : GS) t => Wd D k A a G1 t.heap) A) 0 0 A := by
  refine Met.ofW (cc := cX12_openUp) (maxL := 2) (ret := none) (by decide) rfl ?_
  intro p e s m args below meth c s₁ B hml hv
  obtain ⟨rfl, hW, hB_G, hK, hZ⟩ := hv
  have hx := B.exec
  have hb := B.bytes
  have hr := B.returns
  have hts := atoms_spec (ws := WS yX12_openUp cX12_openUp 2 none) B.pre
  have hgd : ∀ w ∈ gd, w ∈ WS yX12_openUp cX12_openUp 2 none := fun w h => List.mem_cons_of_mem _ h
  have hg : ∀ w ∈ gd, w.before _ s = true := fun w h => hts w (hgd w h)
  have hown : s.vm.findClass RX12 = some m.cls := findClass_of_methodNamed B.named
  have hS : va_S A s.heap s.heap [] := va_S.rf
  have hF : Fr [75] [(66, 4), (66, 6), (66, 7), (66, 8), (66, 9), (66, 20), (66, 24)] G G := Fr.rf
  have hl := lv_entry ([.ref (a 66), .int p0]) (n := 2) (Nat.le_of_ble_eq_true rfl)
  rw [lg_entry_eq]
  generalize (lg_sl ([.ref (a 66), .int p0]) ++ List.replicate (2 - (lg_sl ([.ref (a 66), .int p0])).length) Slot.unset).toArray = ls at hl ⊢
  have hl : lv_has ls 2 [(0, .ref (a 66)), (1, .int p0)] := hl
  refine lv_aload_n hx hb dX12_openUp_0 rfl (lv_at hl 0 rfl) ?_
  refine S_getR (n := 75) (C := RX12) (T := TX12) (N := 89) hx hb hg iX12 hown hK hW kd_66 rfl 17 (lt_b rfl) (hg (Cond.fieldLink RX12 39 "SlabWalkModel" "open" "[I") m1331) (fun _ h9 => h9) rfl dX12_openUp_1 ?_
  refine lv_aload_n hx hb dX12_openUp_4 rfl (lv_at hl 0 rfl) ?_
  have b_1 : 0 ≤ (G.1 66 20).toInt ∧ (G.1 66 20).toInt ≤ 160 := bd_66_20 hB_G
  refine S_getI (v := (G.1 66 20)) (C := RX12) (T := TX12) (N := 89) hx hb hg iX12 hown hK hW kd_66 rfl 20 (lt_b rfl) (hg (Cond.fieldLink RX12 299 "SlabWalkModel" "opens" "I") m1334) (fun _ h9 => h9) rfl rfl dX12_openUp_5 ?_
  refine lv_iload_n hx hb dX12_openUp_8 rfl (lv_at hl 1 rfl) ?_
  refine S_iast hx hb hK hW hS kd_75 (vin ((by first | exact b_1.1 | omega)) ((by first | exact ok_827 hop.1 b_1.2 | omega))) dX12_openUp_9 (fun G_2 H locs eG_2 hW hS => ?_)
  have hB_G_2 : Bd G_2 := hB_G.put (lo := (-2147483648)) (hi := 2147483647) eG_2 rfl rfl rfl (tI_rng _).1 (tI_rng _).2 (hB_G.2.put eG_2 rfl)
  have hF := hF.put eG_2 (Or.inl (by decide))
  refine lv_aload_n hx hb dX12_openUp_10 rfl (lv_at hl 0 rfl) ?_
  refine lv_dup hx hb dX12_openUp_11 rfl ?_
  refine S_getI (v := (G.1 66 20)) (C := RX12) (T := TX12) (N := 89) hx hb hg iX12 hown hK hW kd_66 rfl 20 (lt_b rfl) (hg (Cond.fieldLink RX12 299 "SlabWalkModel" "opens" "I") m1334) (fun _ h9 => h9) rfl ((gp_ne eG_2 (fun q => absurd q.1 (Nat.ne_of_beq_eq_false rfl))).trans (rfl)) dX12_openUp_12 ?_
  refine ic_1 hx hb dX12_openUp_15 ?_
  refine lv_iadd hx hb dX12_openUp_16 ?_
  refine lv_topi (fun y_3 ey_3 => ?_)
  have ty_3 : y_3.toInt = (G.1 66 20).toInt + 1 := xI_add rfl rfl ey_3 ((by first | exact ok_21 b_1.1 | omega)) ((by first | exact ok_778 b_1.2 | omega))
  refine S_putI (ty := .int) (C := RX12) (T := TX12) (N := 89) hx hb hg iX12 tyX12 tyX12_ok nmX12 hown hK hW hS kd_66 rfl 20 (lt_b rfl) (hg (Cond.fieldLink RX12 299 "SlabWalkModel" "opens" "I") m1334) (fun _ h9 => h9) rfl (by decide +kernel) rfl rfl rfl dX12_openUp_17 (fun G_4 H locs eG_4 hW hS => ?_)
  have hB_G_4 : Bd G_4 := hB_G_2.put (V := y_3.toInt) (lo := 0) (hi := 160) eG_4 rfl rfl rfl ((by first | exact ok_23 b_1.1 ty_3 | omega)) ((by first | exact ok_828 hop.1 b_1.2 ty_3 | omega)) (hB_G_2.2.put eG_4 rfl)
  have hF := hF.put eG_4 (Or.inr (by decide))
  have u_5 : (p0.toInt = 20 ∨ p0.toInt = 21 → gB G_4 = gB G) ∧ (p0.toInt ≠ 20 → p0.toInt ≠ 21 → gB G_4 = gB G + 1) := gh_push eG_2 eG_4 (by omega) (by omega) (by omega)
  have d_1 := u_5.1
  have d_2 := u_5.2
  refine lv_aload_n hx hb dX12_openUp_20 rfl (lv_at hl 0 rfl) ?_
  refine lv_dup hx hb dX12_openUp_21 rfl ?_
  have b_6 : (-1) ≤ (G.1 66 24).toInt ∧ (G.1 66 24).toInt ≤ 200 := bd_66_24 hB_G
  refine S_getI (v := (G.1 66 24)) (C := RX12) (T := TX12) (N := 89) hx hb hg iX12 hown hK hW kd_66 rfl 24 (lt_b rfl) (hg (Cond.fieldLink RX12 309 "SlabWalkModel" "deep" "I") m1338) (fun _ h9 => h9) rfl ((gp_ne eG_4 (by decide)).trans (gp_ne eG_2 (fun q => absurd q.1 (Nat.ne_of_beq_eq_false rfl)))) dX12_openUp_22 ?_
  refine ic_1 hx hb dX12_openUp_25 ?_
  refine lv_iadd hx hb dX12_openUp_26 ?_
  refine lv_topi (fun y_7 ey_7 => ?_)
  have ty_7 : y_7.toInt = (G.1 66 24).toInt + 1 := xI_add rfl rfl ey_7 ((by first | exact ok_263 b_6.1 | omega)) ((by first | exact ok_829 hop.2 | omega))
  refine S_putI (ty := .int) (C := RX12) (T := TX12) (N := 89) hx hb hg iX12 tyX12 tyX12_ok nmX12 hown hK hW hS kd_66 rfl 24 (lt_b rfl) (hg (Cond.fieldLink RX12 309 "SlabWalkModel" "deep" "I") m1338) (fun _ h9 => h9) rfl (by decide +kernel) rfl rfl rfl dX12_openUp_27 (fun G_8 H locs eG_8 hW hS => ?_)
  have hB_G_8 : Bd G_8 := hB_G_4.put (V := y_7.toInt) (lo := (-1)) (hi := 200) eG_8 rfl rfl rfl ((by first | exact ok_830 b_6.1 ty_7 | omega)) ((by first | exact ok_831 hop.2 ty_7 | omega)) (hB_G_4.2.put eG_8 rfl)
  have hF := hF.put eG_8 (Or.inr (by decide))
  refine lv_aload_n hx hb dX12_openUp_30 rfl (lv_at hl 0 rfl) ?_
  have b_9 : 0 ≤ (G.1 66 2).toInt ∧ (G.1 66 2).toInt ≤ 4 := bd_66_2 hB_G
  refine S_getI (v := (G.1 66 2)) (C := RX12) (T := TX12) (N := 89) hx hb hg iX12 hown hK hW kd_66 rfl 2 (lt_b rfl) (hg (Cond.fieldLink RX12 218 "SlabWalkModel" "fault" "I") m1316) (fun _ h9 => h9) rfl ((gp_ne eG_8 (by decide)).trans ((gp_ne eG_4 (by decide)).trans (gp_ne eG_2 (fun q => absurd q.1 (Nat.ne_of_beq_eq_false rfl))))) dX12_openUp_31 ?_
  refine lv_if_ne (tgt := 41) hx hb dX12_openUp_34 rfl (fun c_10 => ?_) (fun c_10 => ?_)
  · have c_10 : (G.1 66 2).toInt ≠ 0 := xI_ne rfl rfl c_10
    have fr_11 : Fr [] [(66, 24)] G_4 G_8 := (Fr.put (rs := []) (fs := [(66, 24)]) Fr.rf eG_8 (Or.inr (by decide)))
    have g_12 : gB G_8 = gB G_4 := gB_fr fr_11 (gr_q rfl) (gf_q rfl)
    have g_13 : (G_8.1 66 20).toInt = y_3.toInt := (congrArg Int32.toInt (show G_8.1 66 20 = y_3 from ((gp_ne eG_8 (by decide)).trans (gp_eq eG_4))))
    have g_14 : (G_8.1 66 24).toInt = y_7.toInt := (congrArg Int32.toInt (show G_8.1 66 24 = y_7 from (gp_eq eG_8)))
    have b_15 : 0 ≤ (G.1 66 4).toInt ∧ (G.1 66 4).toInt ≤ 1600 := bd_66_4 hB_G
    have g_16 : (G_8.1 66 4).toInt = (G.1 66 4).toInt := (congrArg Int32.toInt (show G_8.1 66 4 = (G.1 66 4) from ((gp_ne eG_8 (by decide)).trans ((gp_ne eG_4 (by decide)).trans (gp_ne eG_2 (fun q => absurd q.1 (Nat.ne_of_beq_eq_false rfl)))))))
    have g_17 : (G_8.1 66 6).toInt = (G.1 66 6).toInt := (congrArg Int32.toInt (show G_8.1 66 6 = (G.1 66 6) from ((gp_ne eG_8 (by decide)).trans ((gp_ne eG_4 (by decide)).trans (gp_ne eG_2 (fun q => absurd q.1 (Nat.ne_of_beq_eq_false rfl)))))))
    exact W.vret hx hb hr (fun t ht _ => ⟨⟨G_8, rfl, (Q_openUp_mk ⟨hB_G_8, hF, ((by first | exact ⟨(by first | exact ok_752 ty_3 g_13 | omega), ⟨(by first | exact ok_752 ty_7 g_14 | omega), ⟨((by first | (clear hop b_1 ty_3 u_5 b_6 ty_7 b_9 c_10 g_13 g_14 b_15 g_16 g_17; omega) | omega)), ⟨(by first | exact ok_622 g_16 | omega), (fun h9 => by (first | (clear ha_p0 hop b_1 ty_3 u_5 d_1 d_2 b_6 ty_7 b_9 c_10 g_12 g_13 g_14 b_15 g_16; omega) | omega))⟩⟩⟩⟩ | omega)), ⟨y_3, ty_3, ⟨y_7, ty_7, (Or.inr ⟨c_10, ⟨(Fr.put (rs := [75]) (fs := [(66, 20), (66, 24)]) (Fr.put (rs := [75]) (fs := [(66, 20), (66, 24)]) (Fr.put (rs := [75]) (fs := [(66, 20), (66, 24)]) Fr.rf eG_2 (Or.inl (by decide))) eG_4 (Or.inr (by decide))) eG_8 (Or.inr (by decide))), ((gp_ne eG_8 (by decide)).trans (gp_eq eG_4)), (gp_eq eG_8), (rw_put eG_8 (by decide)).trans ((rw_put eG_4 (by decide)).trans (rw_ast eG_2))⟩⟩)⟩⟩⟩), wd_t ht hW⟩, hS.F ht⟩) hS.2.2 dX12_openUp_41
  · have c_10 : (G.1 66 2).toInt = 0 := xI_eq rfl rfl c_10
    refine lv_aload_n hx hb dX12_openUp_37 rfl (lv_at hl 0 rfl) ?_
    have b_18 : 0 ≤ (G.1 66 4).toInt ∧ (G.1 66 4).toInt ≤ 1600 := bd_66_4 hB_G
    have g_19 : (G_8.1 66 4).toInt = (G.1 66 4).toInt := (congrArg Int32.toInt (show G_8.1 66 4 = (G.1 66 4) from ((gp_ne eG_8 (by decide)).trans ((gp_ne eG_4 (by decide)).trans (gp_ne eG_2 (fun q => absurd q.1 (Nat.ne_of_beq_eq_false rfl)))))))
    have g_20 : (G_8.1 66 6).toInt = (G.1 66 6).toInt := (congrArg Int32.toInt (show G_8.1 66 6 = (G.1 66 6) from ((gp_ne eG_8 (by decide)).trans ((gp_ne eG_4 (by decide)).trans (gp_ne eG_2 (fun q => absurd q.1 (Nat.ne_of_beq_eq_false rfl)))))))
    refine S_callv (va_runV (As := []) (rest := []) ⟨hx, hb, hml, hown, hts⟩ (n_token l D k A a z G_8  ) (cwV 0 hts (gd_V hgd m1602 m1604 m50 m131 m1605) rfl rfl rfl hd_X12_token ⟨Nat.le_of_ble_eq_true rfl, Nat.le_of_ble_eq_true rfl⟩) (pre_W hW hB_G_8 hK hZ hS kd_66 rfl) rfl rfl hl.1 rfl (lv_room (Nat.le_of_ble_eq_true rfl)) dX12_openUp_38 ⟨Nat.le_of_ble_eq_true rfl, Nat.le_of_ble_eq_true rfl⟩) hS (fun G_22 H locs hpo hW hS => ?_)
    have hX_25 : Q_token G_8 G_22 := hpo
    obtain ⟨hB_G_22, hq_23, ⟨d_3, d_4⟩, -⟩ := hpo
    have hF := hF.call9 hq_23 rfl rfl
    have fr_26 : Fr [] [(66, 4), (66, 6), (66, 7), (66, 8), (66, 9), (66, 24)] G_4 G_22 := (Fr.call9 (rs := []) (fs := [(66, 4), (66, 6), (66, 7), (66, 8), (66, 9), (66, 24)]) (Fr.put (rs := []) (fs := [(66, 4), (66, 6), (66, 7), (66, 8), (66, 9), (66, 24)]) Fr.rf eG_8 (Or.inr (by decide))) hq_23 rfl rfl)
    have g_27 : gB G_22 = gB G_4 := gB_fr fr_26 (gr_q rfl) (gf_q rfl)
    have g_28 : (G_22.1 66 20).toInt = y_3.toInt := (congrArg Int32.toInt (show G_22.1 66 20 = y_3 from ((hq_23.i9 66 20 rfl rfl).trans ((gp_ne eG_8 (by decide)).trans (gp_eq eG_4)))))
    have g_29 : (G_22.1 66 24).toInt = y_7.toInt := (congrArg Int32.toInt (show G_22.1 66 24 = y_7 from ((hq_23.i9 66 24 rfl rfl).trans (gp_eq eG_8))))
    have b_30 : 0 ≤ (G_22.1 66 4).toInt ∧ (G_22.1 66 4).toInt ≤ 1600 := bd_66_4 hB_G_22
    exact W.vret hx hb hr (fun t ht _ => ⟨⟨G_22, rfl, (Q_openUp_mk ⟨hB_G_22, hF, ((by first | exact ⟨(by first | exact ok_752 ty_3 g_28 | omega), ⟨(by first | exact ok_752 ty_7 g_29 | omega), ⟨((by first | (clear hop b_1 ty_3 u_5 b_6 ty_7 b_9 c_10 b_18 g_19 g_20 d_3 d_4 g_28 g_29 b_30; omega) | omega)), ⟨(by first | exact ok_620 g_19 d_3 | omega), (fun h9 => by have q0_ := d_4 (by first | (clear ha_p0 hop b_1 ty_3 u_5 d_1 d_2 b_6 ty_7 b_9 c_10 g_20 d_4 g_27 g_28 g_29; omega) | omega); (first | (clear ha_p0 hop b_1 ty_3 u_5 d_1 d_2 b_6 ty_7 b_9 c_10 b_18 g_19 d_3 d_4 g_27 g_28 g_29 b_30; omega) | omega))⟩⟩⟩⟩ | omega)), ⟨y_3, ty_3, ⟨y_7, ty_7, (Or.inl ⟨c_10, ⟨G_8, hB_G_8, (Fr.put (rs := [75]) (fs := [(66, 20), (66, 24)]) (Fr.put (rs := [75]) (fs := [(66, 20), (66, 24)]) (Fr.put (rs := [75]) (fs := [(66, 20), (66, 24)]) Fr.rf eG_2 (Or.inl (by decide))) eG_4 (Or.inr (by decide))) eG_8 (Or.inr (by decide))), ((gp_ne eG_8 (by decide)).trans (gp_eq eG_4)), (gp_eq eG_8), (rw_put eG_8 (by decide)).trans ((rw_put eG_4 (by decide)).trans (rw_ast eG_2)), ⟨G_22, hX_25, rfl⟩⟩⟩)⟩⟩⟩), wd_t ht hW⟩, hS.F ht⟩) hS.2.2 dX12_openUp_41

set_option maxHeartbeats 4000000 in
set_option maxRecDepth 100000 in
theorem n_signOf (l : Launch) (D : va_G) (k : KT) (A : Nat → Prop) (a : Nat → Nat) (z : SK) (G : GS)   : Met l yX12_sign (WS yX12_sign cX12_sign 1 (some .int)) ({ frames := 1, cells := 0, slots := 0, locals := 22 }) (va_Pc [.ref (a 66)] (cW D k A a z G)) (va_Qi (fun (r : Int32) (G1 : GS) => Q_signOf G r G1) (fun (G1 : GS) t => Wd D k A a G1 t.heap) A) 0 0 A := by
  refine Met.ofW (cc := cX12_sign) (maxL := 1) (ret := (some .int)) (by decide) rfl ?_
  intro p e s m args below meth c s₁ B hml hv
  obtain ⟨rfl, hW, hB_G, hK, hZ⟩ := hv
  have hx := B.exec
  have hb := B.bytes
  have hr := B.returns
  have hts := atoms_spec (ws := WS yX12_sign cX12_sign 1 (some .int)) B.pre
  have hgd : ∀ w ∈ gd, w ∈ WS yX12_sign cX12_sign 1 (some .int) := fun w h => List.mem_cons_of_mem _ h
  have hg : ∀ w ∈ gd, w.before _ s = true := fun w h => hts w (hgd w h)
  have hown : s.vm.findClass RX12 = some m.cls := findClass_of_methodNamed B.named
  have hS : va_S A s.heap s.heap [] := va_S.rf
  have hF : Fr [] [] G G := Fr.rf
  have hl := lv_entry ([.ref (a 66)]) (n := 1) (Nat.le_of_ble_eq_true rfl)
  rw [lg_entry_eq]
  generalize (lg_sl ([.ref (a 66)]) ++ List.replicate (1 - (lg_sl ([.ref (a 66)])).length) Slot.unset).toArray = ls at hl ⊢
  have hl : lv_has ls 1 [(0, .ref (a 66))] := hl
  refine lv_aload_n hx hb dX12_sign_0 rfl (lv_at hl 0 rfl) ?_
  refine lv_ldc2 (v := 6385252) hx hb hown (hg (Cond.constantLong RX12 257 6385252) m1667) dX12_sign_1 ?_
  refine S_calli (va_runV (As := [.long 6385252]) (rest := []) ⟨hx, hb, hml, hown, hts⟩ (n_isWord l D k A a z G 6385252 ) (cwV 1 hts (gd_V hgd m1624 m1626 m53 m131 m1627) rfl rfl rfl hd_X12_isWord ⟨Nat.le_of_ble_eq_true rfl, Nat.le_of_ble_eq_true rfl⟩) (pre_W hW hB_G hK hZ hS kd_66 rfl) rfl rfl hl.1 rfl (lv_room (Nat.le_of_ble_eq_true rfl)) dX12_sign_4 ⟨Nat.le_of_ble_eq_true rfl, Nat.le_of_ble_eq_true rfl⟩) hS (fun r_1 G_2 H locs hpo hW hS => ?_)
  have hX_5 : Q_isWord 6385252 G r_1 G_2 := hpo
  obtain ⟨hB_G_2, hq_3, f_6, hp_4, -⟩ := hpo
  have hF := hF.call9 hq_3 rfl rfl
  refine lv_if_eq (tgt := 13) hx hb dX12_sign_7 rfl (fun c_7 => ?_) (fun c_7 => ?_)
  · have c_7 : r_1.toInt = 0 := xI_eq rfl rfl c_7
    refine lv_aload_n hx hb dX12_sign_13 rfl (lv_at hl 0 rfl) ?_
    refine lv_ldc2 (v := 28530) hx hb hown (hg (Cond.constantLong RX12 259 28530) m1668) dX12_sign_14 ?_
    have g_8 : (G_2.1 66 6).toInt = (G.1 66 6).toInt := (congrArg Int32.toInt (show G_2.1 66 6 = (G.1 66 6) from (hq_3.i9 66 6 rfl rfl)))
    refine S_calli (va_runV (As := [.long 28530]) (rest := []) ⟨hx, hb, hml, hown, hts⟩ (n_isWord l D k A a z G_2 28530 ) (cwV 1 hts (gd_V hgd m1624 m1626 m53 m131 m1627) rfl rfl rfl hd_X12_isWord ⟨Nat.le_of_ble_eq_true rfl, Nat.le_of_ble_eq_true rfl⟩) (pre_W hW hB_G_2 hK hZ hS kd_66 rfl) rfl rfl hl.1 rfl (lv_room (Nat.le_of_ble_eq_true rfl)) dX12_sign_17 ⟨Nat.le_of_ble_eq_true rfl, Nat.le_of_ble_eq_true rfl⟩) hS (fun r_9 G_10 H locs hpo hW hS => ?_)
    have hX_13 : Q_isWord 28530 G_2 r_9 G_10 := hpo
    obtain ⟨hB_G_10, hq_11, f_14, hp_12, -⟩ := hpo
    have hF := hF.call9 hq_11 rfl rfl
    refine lv_if_eq (tgt := 26) hx hb dX12_sign_20 rfl (fun c_15 => ?_) (fun c_15 => ?_)
    · have c_15 : r_9.toInt = 0 := xI_eq rfl rfl c_15
      refine lv_aload_n hx hb dX12_sign_26 rfl (lv_at hl 0 rfl) ?_
      refine S_getI (v := (G.1 66 6)) (C := RX12) (T := TX12) (N := 89) hx hb hg iX12 hown hK hW kd_66 rfl 6 (lt_b rfl) (hg (Cond.fieldLink RX12 205 "SlabWalkModel" "sort" "I") m1320) (fun _ h9 => h9) rfl ((hq_11.i9 66 6 rfl rfl).trans ((hq_3.i9 66 6 rfl rfl).trans (rfl))) dX12_sign_27 ?_
      refine lv_bipush (v := 60) hx hb dX12_sign_30 (by decide) ?_
      refine lv_icmp_eq (tgt := 98) hx hb dX12_sign_32 rfl (fun c_16 => ?_) (fun c_16 => ?_)
      · have c_16 : (G.1 66 6).toInt = 60 := xI_eq rfl rfl c_16
        refine lv_aload_n hx hb dX12_sign_98 rfl (lv_at hl 0 rfl) ?_
        refine S_getI (v := (G.1 66 6)) (C := RX12) (T := TX12) (N := 89) hx hb hg iX12 hown hK hW kd_66 rfl 6 (lt_b rfl) (hg (Cond.fieldLink RX12 205 "SlabWalkModel" "sort" "I") m1320) (fun _ h9 => h9) rfl ((hq_11.i9 66 6 rfl rfl).trans ((hq_3.i9 66 6 rfl rfl).trans (rfl))) dX12_sign_99 ?_
        refine lv_goto (tgt := 106) hx hb dX12_sign_102 rfl ?_
        exact W.iret (v := (G.1 66 6)) hx hb hr (fun t ht _ => ⟨⟨(G.1 66 6), G_10, rfl, (Q_signOf_mk ⟨hB_G_10, hF, ⟨(by first | exact ok_832 c_16 | omega), (by first | exact ok_833 c_16 | omega)⟩, ((by first | exact ok_834 c_16 | omega)), ⟨r_1, G_2, hX_5, (Or.inl ⟨c_7, ⟨r_9, G_10, hX_13, (Or.inl ⟨c_15, (Or.inl ⟨c_16, ⟨rfl, rfl⟩⟩)⟩)⟩⟩)⟩⟩), wd_t ht hW⟩, hS.F ht⟩) hS.2.2 dX12_sign_106
      · have c_16 : (G.1 66 6).toInt ≠ 60 := xI_ne rfl rfl c_16
        refine lv_aload_n hx hb dX12_sign_35 rfl (lv_at hl 0 rfl) ?_
        refine S_getI (v := (G.1 66 6)) (C := RX12) (T := TX12) (N := 89) hx hb hg iX12 hown hK hW kd_66 rfl 6 (lt_b rfl) (hg (Cond.fieldLink RX12 205 "SlabWalkModel" "sort" "I") m1320) (fun _ h9 => h9) rfl ((hq_11.i9 66 6 rfl rfl).trans ((hq_3.i9 66 6 rfl rfl).trans (rfl))) dX12_sign_36 ?_
        refine lv_bipush (v := 62) hx hb dX12_sign_39 (by decide) ?_
        refine lv_icmp_eq (tgt := 98) hx hb dX12_sign_41 rfl (fun c_17 => ?_) (fun c_17 => ?_)
        · have c_17 : (G.1 66 6).toInt = 62 := xI_eq rfl rfl c_17
          refine lv_aload_n hx hb dX12_sign_98 rfl (lv_at hl 0 rfl) ?_
          refine S_getI (v := (G.1 66 6)) (C := RX12) (T := TX12) (N := 89) hx hb hg iX12 hown hK hW kd_66 rfl 6 (lt_b rfl) (hg (Cond.fieldLink RX12 205 "SlabWalkModel" "sort" "I") m1320) (fun _ h9 => h9) rfl ((hq_11.i9 66 6 rfl rfl).trans ((hq_3.i9 66 6 rfl rfl).trans (rfl))) dX12_sign_99 ?_
          refine lv_goto (tgt := 106) hx hb dX12_sign_102 rfl ?_
          exact W.iret (v := (G.1 66 6)) hx hb hr (fun t ht _ => ⟨⟨(G.1 66 6), G_10, rfl, (Q_signOf_mk ⟨hB_G_10, hF, ⟨(by first | exact ok_835 c_17 | omega), (by first | exact ok_836 c_17 | omega)⟩, ((by first | exact ok_837 c_17 | omega)), ⟨r_1, G_2, hX_5, (Or.inl ⟨c_7, ⟨r_9, G_10, hX_13, (Or.inl ⟨c_15, (Or.inr ⟨c_16, (Or.inl ⟨c_17, ⟨rfl, rfl⟩⟩)⟩)⟩)⟩⟩)⟩⟩), wd_t ht hW⟩, hS.F ht⟩) hS.2.2 dX12_sign_106
        · have c_17 : (G.1 66 6).toInt ≠ 62 := xI_ne rfl rfl c_17
          refine lv_aload_n hx hb dX12_sign_44 rfl (lv_at hl 0 rfl) ?_
          refine S_getI (v := (G.1 66 6)) (C := RX12) (T := TX12) (N := 89) hx hb hg iX12 hown hK hW kd_66 rfl 6 (lt_b rfl) (hg (Cond.fieldLink RX12 205 "SlabWalkModel" "sort" "I") m1320) (fun _ h9 => h9) rfl ((hq_11.i9 66 6 rfl rfl).trans ((hq_3.i9 66 6 rfl rfl).trans (rfl))) dX12_sign_45 ?_
          refine lv_bipush (v := 61) hx hb dX12_sign_48 (by decide) ?_
          refine lv_icmp_eq (tgt := 98) hx hb dX12_sign_50 rfl (fun c_18 => ?_) (fun c_18 => ?_)
          · have c_18 : (G.1 66 6).toInt = 61 := xI_eq rfl rfl c_18
            refine lv_aload_n hx hb dX12_sign_98 rfl (lv_at hl 0 rfl) ?_
            refine S_getI (v := (G.1 66 6)) (C := RX12) (T := TX12) (N := 89) hx hb hg iX12 hown hK hW kd_66 rfl 6 (lt_b rfl) (hg (Cond.fieldLink RX12 205 "SlabWalkModel" "sort" "I") m1320) (fun _ h9 => h9) rfl ((hq_11.i9 66 6 rfl rfl).trans ((hq_3.i9 66 6 rfl rfl).trans (rfl))) dX12_sign_99 ?_
            refine lv_goto (tgt := 106) hx hb dX12_sign_102 rfl ?_
            exact W.iret (v := (G.1 66 6)) hx hb hr (fun t ht _ => ⟨⟨(G.1 66 6), G_10, rfl, (Q_signOf_mk ⟨hB_G_10, hF, ⟨(by first | exact ok_838 c_18 | omega), (by first | exact ok_839 c_18 | omega)⟩, ((by first | exact ok_840 c_18 | omega)), ⟨r_1, G_2, hX_5, (Or.inl ⟨c_7, ⟨r_9, G_10, hX_13, (Or.inl ⟨c_15, (Or.inr ⟨c_16, (Or.inr ⟨c_17, (Or.inl ⟨c_18, ⟨rfl, rfl⟩⟩)⟩)⟩)⟩)⟩⟩)⟩⟩), wd_t ht hW⟩, hS.F ht⟩) hS.2.2 dX12_sign_106
          · have c_18 : (G.1 66 6).toInt ≠ 61 := xI_ne rfl rfl c_18
            refine lv_aload_n hx hb dX12_sign_53 rfl (lv_at hl 0 rfl) ?_
            refine S_getI (v := (G.1 66 6)) (C := RX12) (T := TX12) (N := 89) hx hb hg iX12 hown hK hW kd_66 rfl 6 (lt_b rfl) (hg (Cond.fieldLink RX12 205 "SlabWalkModel" "sort" "I") m1320) (fun _ h9 => h9) rfl ((hq_11.i9 66 6 rfl rfl).trans ((hq_3.i9 66 6 rfl rfl).trans (rfl))) dX12_sign_54 ?_
            refine lv_bipush (v := 43) hx hb dX12_sign_57 (by decide) ?_
            refine lv_icmp_eq (tgt := 98) hx hb dX12_sign_59 rfl (fun c_19 => ?_) (fun c_19 => ?_)
            · have c_19 : (G.1 66 6).toInt = 43 := xI_eq rfl rfl c_19
              refine lv_aload_n hx hb dX12_sign_98 rfl (lv_at hl 0 rfl) ?_
              refine S_getI (v := (G.1 66 6)) (C := RX12) (T := TX12) (N := 89) hx hb hg iX12 hown hK hW kd_66 rfl 6 (lt_b rfl) (hg (Cond.fieldLink RX12 205 "SlabWalkModel" "sort" "I") m1320) (fun _ h9 => h9) rfl ((hq_11.i9 66 6 rfl rfl).trans ((hq_3.i9 66 6 rfl rfl).trans (rfl))) dX12_sign_99 ?_
              refine lv_goto (tgt := 106) hx hb dX12_sign_102 rfl ?_
              exact W.iret (v := (G.1 66 6)) hx hb hr (fun t ht _ => ⟨⟨(G.1 66 6), G_10, rfl, (Q_signOf_mk ⟨hB_G_10, hF, ⟨(by first | exact ok_841 c_19 | omega), (by first | exact ok_842 c_19 | omega)⟩, ((by first | exact ok_843 c_19 | omega)), ⟨r_1, G_2, hX_5, (Or.inl ⟨c_7, ⟨r_9, G_10, hX_13, (Or.inl ⟨c_15, (Or.inr ⟨c_16, (Or.inr ⟨c_17, (Or.inr ⟨c_18, (Or.inl ⟨c_19, ⟨rfl, rfl⟩⟩)⟩)⟩)⟩)⟩)⟩⟩)⟩⟩), wd_t ht hW⟩, hS.F ht⟩) hS.2.2 dX12_sign_106
            · have c_19 : (G.1 66 6).toInt ≠ 43 := xI_ne rfl rfl c_19
              refine lv_aload_n hx hb dX12_sign_62 rfl (lv_at hl 0 rfl) ?_
              refine S_getI (v := (G.1 66 6)) (C := RX12) (T := TX12) (N := 89) hx hb hg iX12 hown hK hW kd_66 rfl 6 (lt_b rfl) (hg (Cond.fieldLink RX12 205 "SlabWalkModel" "sort" "I") m1320) (fun _ h9 => h9) rfl ((hq_11.i9 66 6 rfl rfl).trans ((hq_3.i9 66 6 rfl rfl).trans (rfl))) dX12_sign_63 ?_
              refine lv_bipush (v := 45) hx hb dX12_sign_66 (by decide) ?_
              refine lv_icmp_eq (tgt := 98) hx hb dX12_sign_68 rfl (fun c_20 => ?_) (fun c_20 => ?_)
              · have c_20 : (G.1 66 6).toInt = 45 := xI_eq rfl rfl c_20
                refine lv_aload_n hx hb dX12_sign_98 rfl (lv_at hl 0 rfl) ?_
                refine S_getI (v := (G.1 66 6)) (C := RX12) (T := TX12) (N := 89) hx hb hg iX12 hown hK hW kd_66 rfl 6 (lt_b rfl) (hg (Cond.fieldLink RX12 205 "SlabWalkModel" "sort" "I") m1320) (fun _ h9 => h9) rfl ((hq_11.i9 66 6 rfl rfl).trans ((hq_3.i9 66 6 rfl rfl).trans (rfl))) dX12_sign_99 ?_
                refine lv_goto (tgt := 106) hx hb dX12_sign_102 rfl ?_
                exact W.iret (v := (G.1 66 6)) hx hb hr (fun t ht _ => ⟨⟨(G.1 66 6), G_10, rfl, (Q_signOf_mk ⟨hB_G_10, hF, ⟨(by first | exact ok_844 c_20 | omega), (by first | exact ok_845 c_20 | omega)⟩, ((by first | exact ok_846 c_20 | omega)), ⟨r_1, G_2, hX_5, (Or.inl ⟨c_7, ⟨r_9, G_10, hX_13, (Or.inl ⟨c_15, (Or.inr ⟨c_16, (Or.inr ⟨c_17, (Or.inr ⟨c_18, (Or.inr ⟨c_19, (Or.inl ⟨c_20, ⟨rfl, rfl⟩⟩)⟩)⟩)⟩)⟩)⟩)⟩⟩)⟩⟩), wd_t ht hW⟩, hS.F ht⟩) hS.2.2 dX12_sign_106
              · have c_20 : (G.1 66 6).toInt ≠ 45 := xI_ne rfl rfl c_20
                refine lv_aload_n hx hb dX12_sign_71 rfl (lv_at hl 0 rfl) ?_
                refine S_getI (v := (G.1 66 6)) (C := RX12) (T := TX12) (N := 89) hx hb hg iX12 hown hK hW kd_66 rfl 6 (lt_b rfl) (hg (Cond.fieldLink RX12 205 "SlabWalkModel" "sort" "I") m1320) (fun _ h9 => h9) rfl ((hq_11.i9 66 6 rfl rfl).trans ((hq_3.i9 66 6 rfl rfl).trans (rfl))) dX12_sign_72 ?_
                refine lv_bipush (v := 42) hx hb dX12_sign_75 (by decide) ?_
                refine lv_icmp_eq (tgt := 98) hx hb dX12_sign_77 rfl (fun c_21 => ?_) (fun c_21 => ?_)
                · have c_21 : (G.1 66 6).toInt = 42 := xI_eq rfl rfl c_21
                  refine lv_aload_n hx hb dX12_sign_98 rfl (lv_at hl 0 rfl) ?_
                  refine S_getI (v := (G.1 66 6)) (C := RX12) (T := TX12) (N := 89) hx hb hg iX12 hown hK hW kd_66 rfl 6 (lt_b rfl) (hg (Cond.fieldLink RX12 205 "SlabWalkModel" "sort" "I") m1320) (fun _ h9 => h9) rfl ((hq_11.i9 66 6 rfl rfl).trans ((hq_3.i9 66 6 rfl rfl).trans (rfl))) dX12_sign_99 ?_
                  refine lv_goto (tgt := 106) hx hb dX12_sign_102 rfl ?_
                  exact W.iret (v := (G.1 66 6)) hx hb hr (fun t ht _ => ⟨⟨(G.1 66 6), G_10, rfl, (Q_signOf_mk ⟨hB_G_10, hF, ⟨(by first | exact ok_847 c_21 | omega), (by first | exact ok_848 c_21 | omega)⟩, ((by first | exact ok_849 c_21 | omega)), ⟨r_1, G_2, hX_5, (Or.inl ⟨c_7, ⟨r_9, G_10, hX_13, (Or.inl ⟨c_15, (Or.inr ⟨c_16, (Or.inr ⟨c_17, (Or.inr ⟨c_18, (Or.inr ⟨c_19, (Or.inr ⟨c_20, (Or.inl ⟨c_21, ⟨rfl, rfl⟩⟩)⟩)⟩)⟩)⟩)⟩)⟩)⟩⟩)⟩⟩), wd_t ht hW⟩, hS.F ht⟩) hS.2.2 dX12_sign_106
                · have c_21 : (G.1 66 6).toInt ≠ 42 := xI_ne rfl rfl c_21
                  refine lv_aload_n hx hb dX12_sign_80 rfl (lv_at hl 0 rfl) ?_
                  refine S_getI (v := (G.1 66 6)) (C := RX12) (T := TX12) (N := 89) hx hb hg iX12 hown hK hW kd_66 rfl 6 (lt_b rfl) (hg (Cond.fieldLink RX12 205 "SlabWalkModel" "sort" "I") m1320) (fun _ h9 => h9) rfl ((hq_11.i9 66 6 rfl rfl).trans ((hq_3.i9 66 6 rfl rfl).trans (rfl))) dX12_sign_81 ?_
                  refine lv_bipush (v := 47) hx hb dX12_sign_84 (by decide) ?_
                  refine lv_icmp_eq (tgt := 98) hx hb dX12_sign_86 rfl (fun c_22 => ?_) (fun c_22 => ?_)
                  · have c_22 : (G.1 66 6).toInt = 47 := xI_eq rfl rfl c_22
                    refine lv_aload_n hx hb dX12_sign_98 rfl (lv_at hl 0 rfl) ?_
                    refine S_getI (v := (G.1 66 6)) (C := RX12) (T := TX12) (N := 89) hx hb hg iX12 hown hK hW kd_66 rfl 6 (lt_b rfl) (hg (Cond.fieldLink RX12 205 "SlabWalkModel" "sort" "I") m1320) (fun _ h9 => h9) rfl ((hq_11.i9 66 6 rfl rfl).trans ((hq_3.i9 66 6 rfl rfl).trans (rfl))) dX12_sign_99 ?_
                    refine lv_goto (tgt := 106) hx hb dX12_sign_102 rfl ?_
                    exact W.iret (v := (G.1 66 6)) hx hb hr (fun t ht _ => ⟨⟨(G.1 66 6), G_10, rfl, (Q_signOf_mk ⟨hB_G_10, hF, ⟨(by first | exact ok_850 c_22 | omega), (by first | exact ok_851 c_22 | omega)⟩, ((by first | exact ok_852 c_22 | omega)), ⟨r_1, G_2, hX_5, (Or.inl ⟨c_7, ⟨r_9, G_10, hX_13, (Or.inl ⟨c_15, (Or.inr ⟨c_16, (Or.inr ⟨c_17, (Or.inr ⟨c_18, (Or.inr ⟨c_19, (Or.inr ⟨c_20, (Or.inr ⟨c_21, (Or.inl ⟨c_22, ⟨rfl, rfl⟩⟩)⟩)⟩)⟩)⟩)⟩)⟩)⟩)⟩⟩)⟩⟩), wd_t ht hW⟩, hS.F ht⟩) hS.2.2 dX12_sign_106
                  · have c_22 : (G.1 66 6).toInt ≠ 47 := xI_ne rfl rfl c_22
                    refine lv_aload_n hx hb dX12_sign_89 rfl (lv_at hl 0 rfl) ?_
                    refine S_getI (v := (G.1 66 6)) (C := RX12) (T := TX12) (N := 89) hx hb hg iX12 hown hK hW kd_66 rfl 6 (lt_b rfl) (hg (Cond.fieldLink RX12 205 "SlabWalkModel" "sort" "I") m1320) (fun _ h9 => h9) rfl ((hq_11.i9 66 6 rfl rfl).trans ((hq_3.i9 66 6 rfl rfl).trans (rfl))) dX12_sign_90 ?_
                    refine lv_bipush (v := 37) hx hb dX12_sign_93 (by decide) ?_
                    refine lv_icmp_ne (tgt := 105) hx hb dX12_sign_95 rfl (fun c_23 => ?_) (fun c_23 => ?_)
                    · have c_23 : (G.1 66 6).toInt ≠ 37 := xI_ne rfl rfl c_23
                      refine ic_0 hx hb dX12_sign_105 ?_
                      exact W.iret (v := 0) hx hb hr (fun t ht _ => ⟨⟨0, G_10, rfl, (Q_signOf_mk ⟨hB_G_10, hF, ⟨by decide, by decide⟩, (by have hq : (0 : Int32).toInt = 0 := rfl; (try dsimp only); omega), ⟨r_1, G_2, hX_5, (Or.inl ⟨c_7, ⟨r_9, G_10, hX_13, (Or.inl ⟨c_15, (Or.inr ⟨c_16, (Or.inr ⟨c_17, (Or.inr ⟨c_18, (Or.inr ⟨c_19, (Or.inr ⟨c_20, (Or.inr ⟨c_21, (Or.inr ⟨c_22, (Or.inr ⟨c_23, ⟨rfl, rfl⟩⟩)⟩)⟩)⟩)⟩)⟩)⟩)⟩)⟩)⟩⟩)⟩⟩), wd_t ht hW⟩, hS.F ht⟩) hS.2.2 dX12_sign_106
                    · have c_23 : (G.1 66 6).toInt = 37 := xI_eq rfl rfl c_23
                      refine lv_aload_n hx hb dX12_sign_98 rfl (lv_at hl 0 rfl) ?_
                      refine S_getI (v := (G.1 66 6)) (C := RX12) (T := TX12) (N := 89) hx hb hg iX12 hown hK hW kd_66 rfl 6 (lt_b rfl) (hg (Cond.fieldLink RX12 205 "SlabWalkModel" "sort" "I") m1320) (fun _ h9 => h9) rfl ((hq_11.i9 66 6 rfl rfl).trans ((hq_3.i9 66 6 rfl rfl).trans (rfl))) dX12_sign_99 ?_
                      refine lv_goto (tgt := 106) hx hb dX12_sign_102 rfl ?_
                      exact W.iret (v := (G.1 66 6)) hx hb hr (fun t ht _ => ⟨⟨(G.1 66 6), G_10, rfl, (Q_signOf_mk ⟨hB_G_10, hF, ⟨(by first | exact ok_853 c_23 | omega), (by first | exact ok_854 c_23 | omega)⟩, ((by first | exact ok_855 c_23 | omega)), ⟨r_1, G_2, hX_5, (Or.inl ⟨c_7, ⟨r_9, G_10, hX_13, (Or.inl ⟨c_15, (Or.inr ⟨c_16, (Or.inr ⟨c_17, (Or.inr ⟨c_18, (Or.inr ⟨c_19, (Or.inr ⟨c_20, (Or.inr ⟨c_21, (Or.inr ⟨c_22, (Or.inl ⟨c_23, ⟨rfl, rfl⟩⟩)⟩)⟩)⟩)⟩)⟩)⟩)⟩)⟩)⟩⟩)⟩⟩), wd_t ht hW⟩, hS.F ht⟩) hS.2.2 dX12_sign_106
    · have c_15 : r_9.toInt ≠ 0 := xI_ne rfl rfl c_15
      refine lv_bipush (v := 124) hx hb dX12_sign_23 (by decide) ?_
      exact W.iret (v := 124) hx hb hr (fun t ht _ => ⟨⟨124, G_10, rfl, (Q_signOf_mk ⟨hB_G_10, hF, ⟨by decide, by decide⟩, (by have hq : (124 : Int32).toInt = 124 := rfl; (try dsimp only); omega), ⟨r_1, G_2, hX_5, (Or.inl ⟨c_7, ⟨r_9, G_10, hX_13, (Or.inr ⟨c_15, ⟨rfl, rfl⟩⟩)⟩⟩)⟩⟩), wd_t ht hW⟩, hS.F ht⟩) hS.2.2 dX12_sign_25
  · have c_7 : r_1.toInt ≠ 0 := xI_ne rfl rfl c_7
    refine lv_bipush (v := 38) hx hb dX12_sign_10 (by decide) ?_
    exact W.iret (v := 38) hx hb hr (fun t ht _ => ⟨⟨38, G_2, rfl, (Q_signOf_mk ⟨hB_G_2, hF, ⟨by decide, by decide⟩, (by have hq : (38 : Int32).toInt = 38 := rfl; (try dsimp only); omega), ⟨r_1, G_2, hX_5, (Or.inr ⟨c_7, ⟨rfl, rfl⟩⟩)⟩⟩), wd_t ht hW⟩, hS.F ht⟩) hS.2.2 dX12_sign_12

set_option maxHeartbeats 4000000 in
set_option maxRecDepth 100000 in
theorem n_unit (l : Launch) (D : va_G) (k : KT) (A : Nat → Prop) (a : Nat → Nat) (z : SK) (G : GS)  (hnf : (G.1 66 2).toInt = 0) (hun : gC G = 1 ∧ gD G = gB G ∧ (G.1 66 24).toInt = (G.1 66 20).toInt - gB G ∧ gD G ≤ (G.1 66 23).toInt ∧ (G.1 66 23).toInt ≤ 30 ∧ (G.1 66 24).toInt ≤ 7 ∧ gM G + (G.1 66 20).toInt ≤ 10 * (G.1 66 23).toInt + 1) : Met l yX12_unit (WS yX12_unit cX12_unit 3 none) ({ frames := 3, cells := 0, slots := 0, locals := 64 }) (va_Pc [.ref (a 66)] (cW D k A a z G)) (va_Qv (fun (G1 : GS) => Q_unit G G1) (fun (G1 : GS) t => Wd D k A a G1 t.heap) A) 0 0 A := by
  refine Met.ofW (cc := cX12_unit) (maxL := 3) (ret := none) (by decide) rfl ?_
  intro p e s m args below meth c s₁ B hml hv
  obtain ⟨rfl, hW, hB_G, hK, hZ⟩ := hv
  have hx := B.exec
  have hb := B.bytes
  have hr := B.returns
  have hts := atoms_spec (ws := WS yX12_unit cX12_unit 3 none) B.pre
  have hgd : ∀ w ∈ gd, w ∈ WS yX12_unit cX12_unit 3 none := fun w h => List.mem_cons_of_mem _ h
  have hg : ∀ w ∈ gd, w.before _ s = true := fun w h => hts w (hgd w h)
  have hown : s.vm.findClass RX12 = some m.cls := findClass_of_methodNamed B.named
  have hS : va_S A s.heap s.heap [] := va_S.rf
  have hF : Fr [69, 70, 71, 75] [(66, 2), (66, 3), (66, 4), (66, 6), (66, 7), (66, 8), (66, 9), (66, 20), (66, 21), (66, 23), (66, 24)] G G := Fr.rf
  have hl := lv_entry ([.ref (a 66)]) (n := 3) (Nat.le_of_ble_eq_true rfl)
  rw [lg_entry_eq]
  generalize (lg_sl ([.ref (a 66)]) ++ List.replicate (3 - (lg_sl ([.ref (a 66)])).length) Slot.unset).toArray = ls at hl ⊢
  have hl : lv_has ls 3 [(0, .ref (a 66))] := hl
  have b_1 : 0 ≤ (G.1 66 20).toInt ∧ (G.1 66 20).toInt ≤ 160 := bd_66_20 hB_G
  have u_2 := gh_pos (G := G) ((by first | exact b_1.1 | omega))
  refine ic_1 hx hb dX12_unit_0 ?_
  refine lv_istore_n (lv' := [(1, .int 1), (0, .ref (a 66))]) hx hb dX12_unit_1 rfl hl (lt_b rfl) rfl (fun ls hl => ?_)
  have b_9 : (-1) ≤ (G.1 66 24).toInt ∧ (G.1 66 24).toInt ≤ 200 := bd_66_24 hB_G
  have b_10 : 0 ≤ (G.1 66 2).toInt ∧ (G.1 66 2).toInt ≤ 4 := bd_66_2 hB_G
  have b_11 : 0 ≤ (G.1 66 23).toInt ∧ (G.1 66 23).toInt ≤ 40 := bd_66_23 hB_G
  have b_12 : 0 ≤ (G.1 66 4).toInt ∧ (G.1 66 4).toInt ≤ 1600 := bd_66_4 hB_G
  have qc_13 : (1 : Int32).toInt = 1 := rfl
  refine loop_N (Inv := fun n H locs ls => ∃ (G_3 : GS) (x_7 : Int32), (n : Int) = 9 - (G_3.1 66 24).toInt + x_7.toInt ∧ (0 ≤ x_7.toInt ∧ x_7.toInt ≤ 1) ∧ (gC G_3 = 1 ∧ gD G_3 = gB G_3 ∧ (G_3.1 66 24).toInt = (G_3.1 66 20).toInt - gB G_3 ∧ gD G_3 ≤ (G_3.1 66 23).toInt ∧ (G_3.1 66 23).toInt ≤ 31 ∧ (G_3.1 66 24).toInt ≤ 8 ∧ gM G_3 + (G_3.1 66 20).toInt ≤ 10 * (G_3.1 66 23).toInt + 1 + (G_3.1 66 24).toInt ∧ ((G_3.1 66 2).toInt = 0 → (G_3.1 66 23).toInt ≤ 30 ∧ (G_3.1 66 24).toInt ≤ 7)) ∧ ((G.1 66 23).toInt ≤ (G_3.1 66 23).toInt) ∧ ((G.1 66 4).toInt ≤ (G_3.1 66 4).toInt ∧ ((G_3.1 66 4).toInt = (G.1 66 4).toInt → (G_3.1 66 6).toInt = (G.1 66 6).toInt ∨ (G_3.1 66 6).toInt ≤ 3)) ∧ Rc (St_n_unit_1 G) (1, G) (x_7, G_3) ∧ Wd D k A a G_3 H ∧ Bd G_3 ∧ Fr [69, 70, 71, 75] [(66, 2), (66, 3), (66, 4), (66, 6), (66, 7), (66, 8), (66, 9), (66, 20), (66, 21), (66, 23), (66, 24)] G G_3 ∧ Fr [75] [(66, 2), (66, 3), (66, 4), (66, 6), (66, 7), (66, 8), (66, 9), (66, 20), (66, 21), (66, 23), (66, 24)] G G_3 ∧ va_S A s.heap H locs ∧ lv_has ls 3 [(1, .int x_7), (0, .ref (a 66))]) (fun n_6 H locs ls ih_5 hI => ?_) (9 - (G.1 66 24).toInt + 1 : Int).toNat ⟨G, 1, (Int.toNat_of_nonneg ((by first | exact ok_856 hun.2.2.2.2.2.1 | omega))), ⟨(by decide), (by decide)⟩, ((by first | exact ⟨(by first | exact hun.1 | omega), ⟨(by first | exact hun.2.1 | omega), ⟨(by first | exact hun.2.2.1 | omega), ⟨(by first | exact hun.2.2.2.1 | omega), ⟨(by first | exact ok_857 hun.2.2.2.2.1 | omega), ⟨(by first | exact ok_858 hun.2.2.2.2.2.1 | omega), ⟨(by first | exact ok_859 hun.2.2.1 hun.2.2.2.2.2.2 u_2.2.1 b_9.1 | omega), (fun h9 => ⟨(by first | exact hun.2.2.2.2.1 | omega), (by first | exact hun.2.2.2.2.2.1 | omega)⟩)⟩⟩⟩⟩⟩⟩⟩ | omega)), ((by first | exact ok_572 | omega)), ((by first | exact ⟨(by first | exact ok_572 | omega), (fun h9 => by (first | (clear hnf hun b_1 u_2 b_9 b_10 b_11 b_12; omega) | omega))⟩ | omega)), Rc.rf, hW, hB_G, hF, Fr.rf, hS, lv_sub hl [0, 1] rfl⟩
  obtain ⟨G_3, x_7, hn_18, f_14, f_15, f_16, f_17, hX_8, hW, hB_G_3, hF, hq_4, hS, hl⟩ := hI
  have d_1 := f_15.1
  have d_2 := f_15.2.1
  have d_3 := f_15.2.2.1
  have d_4 := f_15.2.2.2.1
  have d_5 := f_15.2.2.2.2.1
  have d_6 := f_15.2.2.2.2.2.1
  have d_7 := f_15.2.2.2.2.2.2.1
  have d_8 := f_15.2.2.2.2.2.2.2
  have d_9 := f_17.1
  have d_10 := f_17.2
  have fr_19 : Fr [75] [(66, 2), (66, 3), (66, 4), (66, 6), (66, 7), (66, 8), (66, 9), (66, 20), (66, 21), (66, 23), (66, 24)] G G_3 := (Fr.call9 (rs := [75]) (fs := [(66, 2), (66, 3), (66, 4), (66, 6), (66, 7), (66, 8), (66, 9), (66, 20), (66, 21), (66, 23), (66, 24)]) Fr.rf hq_4 rfl rfl)
  have g_20 : gC G_3 = gC G := gC_fr fr_19 (gr_q rfl) (gf_q rfl)
  have g_21 : gD G_3 = gD G := gD_fr fr_19 (gr_q rfl) (gf_q rfl)
  have g_22 : gM G_3 = gM G := gM_fr fr_19 (gr_q rfl) (gf_q rfl)
  have b_23 : 0 ≤ (G_3.1 66 2).toInt ∧ (G_3.1 66 2).toInt ≤ 4 := bd_66_2 hB_G_3
  have b_24 : 0 ≤ (G_3.1 66 20).toInt ∧ (G_3.1 66 20).toInt ≤ 160 := bd_66_20 hB_G_3
  have b_25 : 0 ≤ (G_3.1 66 23).toInt ∧ (G_3.1 66 23).toInt ≤ 40 := bd_66_23 hB_G_3
  have b_26 : (-1) ≤ (G_3.1 66 24).toInt ∧ (G_3.1 66 24).toInt ≤ 200 := bd_66_24 hB_G_3
  have b_27 : 0 ≤ (G_3.1 66 4).toInt ∧ (G_3.1 66 4).toInt ≤ 1600 := bd_66_4 hB_G_3
  have u_28 := gh_pos (G := G_3) ((by first | exact b_24.1 | omega))
  refine lv_iload_n hx hb dX12_unit_2 rfl (lv_at hl 0 rfl) ?_
  refine W.cut (σ := Unit) (pcJ := 101) (J := fun y H locs ls => ∃ (G_30 : GS), Jn_n_unit_2 x_7 G_3 G_30 ∧ Wd D k A a G_30 H ∧ Bd G_30 ∧ Fr [69, 70, 71, 75] [(66, 2), (66, 3), (66, 4), (66, 6), (66, 7), (66, 8), (66, 9), (66, 20), (66, 21), (66, 23), (66, 24)] G G_30 ∧ Fr [] [] G_3 G_30 ∧ va_S A s.heap H locs ∧ lv_has ls 3 [(0, .ref (a 66))]) (stJ := fun _ => []) ?_ (fun hJ_31 => ?_)
  · intro y H locs ls hI
    obtain ⟨G_30, hX_33, hW, hB_G_30, hF, hq_32, hS, hl⟩ := hI
    refine lv_aload_n hx hb dX12_unit_101 rfl (lv_at hl 0 rfl) ?_
    refine S_getI (v := (G_3.1 66 2)) (C := RX12) (T := TX12) (N := 89) hx hb hg iX12 hown hK hW kd_66 rfl 2 (lt_b rfl) (hg (Cond.fieldLink RX12 218 "SlabWalkModel" "fault" "I") m1316) (fun _ h9 => h9) rfl ((hq_32.i9 66 2 rfl rfl).trans (rfl)) dX12_unit_102 ?_
    refine lv_if_le (tgt := 109) hx hb dX12_unit_105 rfl (fun c_34 => ?_) (fun c_34 => ?_)
    · have c_34 : (G_3.1 66 2).toInt ≤ 0 := xI_le rfl rfl c_34
      refine lv_aload_n hx hb dX12_unit_109 rfl (lv_at hl 0 rfl) ?_
      refine S_calli (va_runV (As := []) (rest := []) ⟨hx, hb, hml, hown, hts⟩ (n_asked l D k A a z G_30  ) (cwV 0 hts (gd_V hgd m1737 m1739 m75 m131 m1740) rfl rfl rfl hd_X12_asked ⟨Nat.le_of_ble_eq_true rfl, Nat.le_of_ble_eq_true rfl⟩) (pre_W hW hB_G_30 hK hZ hS kd_66 rfl) rfl rfl hl.1 rfl (lv_room (Nat.le_of_ble_eq_true rfl)) dX12_unit_110 ⟨Nat.le_of_ble_eq_true rfl, Nat.le_of_ble_eq_true rfl⟩) hS (fun r_35 G_36 H locs hpo hW hS => ?_)
      have hX_39 : Q_asked G_30 r_35 G_36 := hpo
      obtain ⟨hB_G_36, hq_37, f_40, -⟩ := hpo
      have hF := hF.call9 hq_37 rfl rfl
      refine lv_istore_n (lv' := [(2, .int r_35), (0, .ref (a 66))]) hx hb dX12_unit_113 rfl hl (lt_b rfl) rfl (fun ls hl => ?_)
      refine lv_aload_n hx hb dX12_unit_114 rfl (lv_at hl 1 rfl) ?_
      refine S_getI (v := (G_3.1 66 6)) (C := RX12) (T := TX12) (N := 89) hx hb hg iX12 hown hK hW kd_66 rfl 6 (lt_b rfl) (hg (Cond.fieldLink RX12 205 "SlabWalkModel" "sort" "I") m1320) (fun _ h9 => h9) rfl ((hq_37.i9 66 6 rfl rfl).trans ((hq_32.i9 66 6 rfl rfl).trans (rfl))) dX12_unit_115 ?_
      refine ic_2 hx hb dX12_unit_118 ?_
      refine lv_icmp_eq (tgt := 126) hx hb dX12_unit_119 rfl (fun c_41 => ?_) (fun c_41 => ?_)
      · have c_41 : (G_3.1 66 6).toInt = 2 := xI_eq rfl rfl c_41
        refine lv_aload_n hx hb dX12_unit_126 rfl (lv_at hl 1 rfl) ?_
        have g_42 : (G_36.1 66 23).toInt = (G_3.1 66 23).toInt := (congrArg Int32.toInt (show G_36.1 66 23 = (G_3.1 66 23) from ((hq_37.i9 66 23 rfl rfl).trans ((hq_32.i9 66 23 rfl rfl).trans (rfl)))))
        refine S_calli (va_runV (As := []) (rest := []) ⟨hx, hb, hml, hown, hts⟩ (n_isFull l D k A a z G_36  ) (cwV 0 hts (gd_V hgd m1729 m1731 m73 m131 m1732) rfl rfl rfl hd_X12_isFull ⟨Nat.le_of_ble_eq_true rfl, Nat.le_of_ble_eq_true rfl⟩) (pre_W hW hB_G_36 hK hZ hS kd_66 rfl) rfl rfl hl.1 rfl (lv_room (Nat.le_of_ble_eq_true rfl)) dX12_unit_127 ⟨Nat.le_of_ble_eq_true rfl, Nat.le_of_ble_eq_true rfl⟩) hS (fun r_43 G_44 H locs hpo hW hS => ?_)
        have hX_47 : Q_isFull G_36 r_43 G_44 := hpo
        obtain ⟨hB_G_44, hq_45, f_48, hp_46, -⟩ := hpo
        have hF := hF.call9 hq_45 rfl rfl
        refine lv_if_eq (tgt := 138) hx hb dX12_unit_130 rfl (fun c_49 => ?_) (fun c_49 => ?_)
        · have c_49 : r_43.toInt = 0 := xI_eq rfl rfl c_49
          have d_11 := hp_46 c_49
          refine lv_aload_n hx hb dX12_unit_138 rfl (lv_at hl 1 rfl) ?_
          refine S_getI (v := (G_3.1 66 2)) (C := RX12) (T := TX12) (N := 89) hx hb hg iX12 hown hK hW kd_66 rfl 2 (lt_b rfl) (hg (Cond.fieldLink RX12 218 "SlabWalkModel" "fault" "I") m1316) (fun _ h9 => h9) rfl ((hq_45.i9 66 2 rfl rfl).trans ((hq_37.i9 66 2 rfl rfl).trans ((hq_32.i9 66 2 rfl rfl).trans (rfl)))) dX12_unit_139 ?_
          refine lv_if_le (tgt := 146) hx hb dX12_unit_142 rfl (fun c_50 => ?_) (fun c_50 => ?_)
          · have c_50 : (G_3.1 66 2).toInt ≤ 0 := xI_le rfl rfl c_50
            refine lv_aload_n hx hb dX12_unit_146 rfl (lv_at hl 1 rfl) ?_
            have g_51 : (G_44.1 66 23).toInt = (G_3.1 66 23).toInt := (congrArg Int32.toInt (show G_44.1 66 23 = (G_3.1 66 23) from ((hq_45.i9 66 23 rfl rfl).trans ((hq_37.i9 66 23 rfl rfl).trans ((hq_32.i9 66 23 rfl rfl).trans (rfl))))))
            have g_52 : (G_44.1 66 23).toInt = (G_3.1 66 23).toInt := (congrArg Int32.toInt (show G_44.1 66 23 = (G_3.1 66 23) from ((hq_45.i9 66 23 rfl rfl).trans ((hq_37.i9 66 23 rfl rfl).trans ((hq_32.i9 66 23 rfl rfl).trans (rfl))))))
            refine S_callv (va_runV (As := []) (rest := []) ⟨hx, hb, hml, hown, hts⟩ (n_countUnit l D k A a z G_44  ((by first | exact ok_860 f_15.2.2.2.2.1 g_51 | omega))) (cwV 0 hts (gd_V hgd m1733 m1735 m74 m131 m1736) rfl rfl rfl hd_X12_countUnit ⟨Nat.le_of_ble_eq_true rfl, Nat.le_of_ble_eq_true rfl⟩) (pre_W hW hB_G_44 hK hZ hS kd_66 rfl) rfl rfl hl.1 rfl (lv_room (Nat.le_of_ble_eq_true rfl)) dX12_unit_147 ⟨Nat.le_of_ble_eq_true rfl, Nat.le_of_ble_eq_true rfl⟩) hS (fun G_54 H locs hpo hW hS => ?_)
            have hX_57 : Q_countUnit G_44 G_54 := hpo
            obtain ⟨hB_G_54, hq_55, hp_56, -⟩ := hpo
            have hF := hF.call9 hq_55 rfl rfl
            refine lv_aload_n hx hb dX12_unit_150 rfl (lv_at hl 1 rfl) ?_
            refine lv_iload_n hx hb dX12_unit_151 rfl (lv_at hl 0 rfl) ?_
            refine lv_if_ge (tgt := 159) hx hb dX12_unit_152 rfl (fun c_58 => ?_) (fun c_58 => ?_)
            · have c_58 : 0 ≤ r_35.toInt := xI_le rfl rfl c_58
              refine ic_1 hx hb dX12_unit_159 ?_
              refine lv_iload_n hx hb dX12_unit_160 rfl (lv_at hl 0 rfl) ?_
              refine lv_if_ge (tgt := 171) hx hb dX12_unit_161 rfl (fun c_59 => ?_) (fun c_59 => ?_)
              · have c_59 : 0 ≤ r_35.toInt := xI_le rfl rfl c_59
                refine lv_iload_n hx hb dX12_unit_171 rfl (lv_at hl 0 rfl) ?_
                have fr_60 : Fr [75] [(66, 2), (66, 3), (66, 4), (66, 6), (66, 7), (66, 8), (66, 9), (66, 20), (66, 21), (66, 23), (66, 24)] G G_54 := (Fr.call9 (rs := [75]) (fs := [(66, 2), (66, 3), (66, 4), (66, 6), (66, 7), (66, 8), (66, 9), (66, 20), (66, 21), (66, 23), (66, 24)]) (Fr.call9 (rs := [75]) (fs := [(66, 2), (66, 3), (66, 4), (66, 6), (66, 7), (66, 8), (66, 9), (66, 20), (66, 21), (66, 23), (66, 24)]) (Fr.call9 (rs := [75]) (fs := [(66, 2), (66, 3), (66, 4), (66, 6), (66, 7), (66, 8), (66, 9), (66, 20), (66, 21), (66, 23), (66, 24)]) (Fr.call9 (rs := [75]) (fs := [(66, 2), (66, 3), (66, 4), (66, 6), (66, 7), (66, 8), (66, 9), (66, 20), (66, 21), (66, 23), (66, 24)]) (Fr.call9 (rs := [75]) (fs := [(66, 2), (66, 3), (66, 4), (66, 6), (66, 7), (66, 8), (66, 9), (66, 20), (66, 21), (66, 23), (66, 24)]) Fr.rf hq_4 rfl rfl) hq_32 rfl rfl) hq_37 rfl rfl) hq_45 rfl rfl) hq_55 rfl rfl)
                have g_61 : gM G_54 = gM G := gM_fr fr_60 (gr_q rfl) (gf_q rfl)
                have qc_62 : (1 : Int32).toInt = 1 := rfl
                have g_63 : gC G_54 = gC G := gC_fr fr_60 (gr_q rfl) (gf_q rfl)
                have g_64 : gD G_54 = gD G := gD_fr fr_60 (gr_q rfl) (gf_q rfl)
                refine S_callv (va_runV (As := [.int 1, .int r_35]) (rest := []) ⟨hx, hb, hml, hown, hts⟩ (n_add l D k A a z G_54 1 r_35 ⟨by decide, by decide⟩ ((by first | exact ok_861 hun.2.2.2.2.1 hun.2.2.2.2.2.2 b_1.1 g_61 | omega))) (cwV 2 hts (gd_V hgd m1741 m1743 m76 m131 m1744) rfl rfl rfl hd_X12_add ⟨Nat.le_of_ble_eq_true rfl, Nat.le_of_ble_eq_true rfl⟩) (pre_W hW hB_G_54 hK hZ hS kd_66 rfl) rfl rfl hl.1 rfl (lv_room (Nat.le_of_ble_eq_true rfl)) dX12_unit_172 ⟨Nat.le_of_ble_eq_true rfl, Nat.le_of_ble_eq_true rfl⟩) hS (fun G_66 H locs hpo hW hS => ?_)
                have hX_69 : Q_add 1 r_35 G_54 G_66 := hpo
                obtain ⟨hB_G_66, hq_67, ⟨d_12, d_13, d_14, d_15, d_16⟩, -⟩ := hpo
                have hF := hF.call9 hq_67 rfl rfl
                refine lv_aload_n hx hb dX12_unit_175 rfl (lv_at hl 1 rfl) ?_
                have g_70 : (G_66.1 66 4).toInt = (G_3.1 66 4).toInt := (congrArg Int32.toInt (show G_66.1 66 4 = (G_3.1 66 4) from ((hq_67.i9 66 4 rfl rfl).trans ((hq_55.i9 66 4 rfl rfl).trans ((hq_45.i9 66 4 rfl rfl).trans ((hq_37.i9 66 4 rfl rfl).trans ((hq_32.i9 66 4 rfl rfl).trans (rfl))))))))
                have g_71 : (G_66.1 66 6).toInt = (G_3.1 66 6).toInt := (congrArg Int32.toInt (show G_66.1 66 6 = (G_3.1 66 6) from ((hq_67.i9 66 6 rfl rfl).trans ((hq_55.i9 66 6 rfl rfl).trans ((hq_45.i9 66 6 rfl rfl).trans ((hq_37.i9 66 6 rfl rfl).trans ((hq_32.i9 66 6 rfl rfl).trans (rfl))))))))
                refine S_callv (va_runV (As := []) (rest := []) ⟨hx, hb, hml, hown, hts⟩ (n_token l D k A a z G_66  ) (cwV 0 hts (gd_V hgd m1602 m1604 m50 m131 m1605) rfl rfl rfl hd_X12_token ⟨Nat.le_of_ble_eq_true rfl, Nat.le_of_ble_eq_true rfl⟩) (pre_W hW hB_G_66 hK hZ hS kd_66 rfl) rfl rfl hl.1 rfl (lv_room (Nat.le_of_ble_eq_true rfl)) dX12_unit_176 ⟨Nat.le_of_ble_eq_true rfl, Nat.le_of_ble_eq_true rfl⟩) hS (fun G_73 H locs hpo hW hS => ?_)
                have hX_76 : Q_token G_66 G_73 := hpo
                obtain ⟨hB_G_73, hq_74, ⟨d_17, d_18⟩, -⟩ := hpo
                have hF := hF.call9 hq_74 rfl rfl
                have fr_77 : Fr [69, 70, 71] [(66, 4), (66, 6), (66, 7), (66, 8), (66, 9), (66, 21), (66, 23)] G_3 G_73 := (Fr.call9 (rs := [69, 70, 71]) (fs := [(66, 4), (66, 6), (66, 7), (66, 8), (66, 9), (66, 21), (66, 23)]) (Fr.call9 (rs := [69, 70, 71]) (fs := [(66, 4), (66, 6), (66, 7), (66, 8), (66, 9), (66, 21), (66, 23)]) (Fr.call9 (rs := [69, 70, 71]) (fs := [(66, 4), (66, 6), (66, 7), (66, 8), (66, 9), (66, 21), (66, 23)]) (Fr.call9 (rs := [69, 70, 71]) (fs := [(66, 4), (66, 6), (66, 7), (66, 8), (66, 9), (66, 21), (66, 23)]) (Fr.call9 (rs := [69, 70, 71]) (fs := [(66, 4), (66, 6), (66, 7), (66, 8), (66, 9), (66, 21), (66, 23)]) (Fr.call9 (rs := [69, 70, 71]) (fs := [(66, 4), (66, 6), (66, 7), (66, 8), (66, 9), (66, 21), (66, 23)]) Fr.rf hq_32 rfl rfl) hq_37 rfl rfl) hq_45 rfl rfl) hq_55 rfl rfl) hq_67 rfl rfl) hq_74 rfl rfl)
                have g_78 : gB G_73 = gB G_3 := gB_fr fr_77 (gr_q rfl) (gf_q rfl)
                have fr_79 : Fr [] [(66, 4), (66, 6), (66, 7), (66, 8), (66, 9)] G_66 G_73 := (Fr.call9 (rs := []) (fs := [(66, 4), (66, 6), (66, 7), (66, 8), (66, 9)]) Fr.rf hq_74 rfl rfl)
                have g_80 : gC G_73 = gC G_66 := gC_fr fr_79 (gr_q rfl) (gf_q rfl)
                have g_81 : gD G_73 = gD G_66 := gD_fr fr_79 (gr_q rfl) (gf_q rfl)
                have g_82 : gM G_73 = gM G_66 := gM_fr fr_79 (gr_q rfl) (gf_q rfl)
                have g_83 : (G_73.1 66 2).toInt = (G_3.1 66 2).toInt := (congrArg Int32.toInt (show G_73.1 66 2 = (G_3.1 66 2) from ((hq_74.i9 66 2 rfl rfl).trans ((hq_67.i9 66 2 rfl rfl).trans ((hq_55.i9 66 2 rfl rfl).trans ((hq_45.i9 66 2 rfl rfl).trans ((hq_37.i9 66 2 rfl rfl).trans ((hq_32.i9 66 2 rfl rfl).trans (rfl)))))))))
                have g_84 : (G_73.1 66 20).toInt = (G_3.1 66 20).toInt := (congrArg Int32.toInt (show G_73.1 66 20 = (G_3.1 66 20) from ((hq_74.i9 66 20 rfl rfl).trans ((hq_67.i9 66 20 rfl rfl).trans ((hq_55.i9 66 20 rfl rfl).trans ((hq_45.i9 66 20 rfl rfl).trans ((hq_37.i9 66 20 rfl rfl).trans ((hq_32.i9 66 20 rfl rfl).trans (rfl)))))))))
                have b_85 : 0 ≤ (G_54.1 66 23).toInt ∧ (G_54.1 66 23).toInt ≤ 40 := bd_66_23 hB_G_54
                have g_86 : (G_73.1 66 23).toInt = (G_54.1 66 23).toInt := (congrArg Int32.toInt (show G_73.1 66 23 = (G_54.1 66 23) from ((hq_74.i9 66 23 rfl rfl).trans (hq_67.i9 66 23 rfl rfl))))
                have g_87 : (G_73.1 66 24).toInt = (G_3.1 66 24).toInt := (congrArg Int32.toInt (show G_73.1 66 24 = (G_3.1 66 24) from ((hq_74.i9 66 24 rfl rfl).trans ((hq_67.i9 66 24 rfl rfl).trans ((hq_55.i9 66 24 rfl rfl).trans ((hq_45.i9 66 24 rfl rfl).trans ((hq_37.i9 66 24 rfl rfl).trans ((hq_32.i9 66 24 rfl rfl).trans (rfl)))))))))
                have b_88 : 0 ≤ (G_73.1 66 4).toInt ∧ (G_73.1 66 4).toInt ≤ 1600 := bd_66_4 hB_G_73
                exact W.vret hx hb hr (fun t ht _ => ⟨⟨G_73, rfl, (Q_unit_mk ⟨hB_G_73, hF, ((by first | exact ⟨(by first | exact ok_862 hun.2.2.2.2.1 f_16 g_51 hp_56 b_85.1 g_86 | omega), ⟨(fun h9 => ⟨((by first | (clear hnf b_1 u_2 b_9 b_10 b_11 b_12 hn_18 f_14 f_15 f_17 d_9 d_10 b_27 f_40 c_41 f_48 hp_46 c_58 c_59 g_70 g_71 d_17 d_18 b_88; omega) | omega)), ⟨(by first | exact ok_863 qc_13 f_15.2.1 g_21 g_64 d_13 g_78 g_81 | omega), ⟨(by first | exact ok_798 f_15.2.2.1 g_78 g_84 g_87 | omega), ⟨(by first | exact ok_864 hun.2.2.2.1 hun.2.2.2.2.1 qc_13 f_15.2.2.2.1 g_21 g_51 hp_56 g_64 d_13 g_81 b_85.1 g_86 | omega), ⟨(by first | exact ok_865 f_15.2.2.2.2.1 f_15.2.2.2.2.2.2.2 b_23.1 c_34 g_42 d_11 g_51 hp_56 g_86 | omega), ⟨(by first | exact ok_866 f_15.2.2.2.2.2.1 f_15.2.2.2.2.2.2.1 g_22 g_51 hp_56 g_61 d_12 g_82 g_84 g_86 | omega), ⟨(by first | exact ok_867 f_15.2.2.2.2.2.2.2 b_23.1 c_34 g_87 | omega), (by first | exact ok_868 hun.2.2.2.2.1 f_16 g_51 hp_56 b_85.1 g_86 | omega)⟩⟩⟩⟩⟩⟩⟩), ⟨(by first | exact ok_869 b_12.2 f_17.1 g_70 d_17 b_88.1 | omega), (fun h9 => by have q0_ := d_10 (by first | (clear hnf hun b_1 u_2 b_9 b_10 b_11 hn_18 f_14 f_15 f_16 f_17 d_1 d_2 d_3 d_4 d_5 d_6 d_7 d_8 d_10 g_20 g_21 g_22 b_23 b_24 b_25 b_26 u_28 c_34 f_40 c_41 g_42 f_48 hp_46 c_49 d_11 c_50 g_51 g_52 hp_56 c_58 c_59 g_61 g_63 g_64 d_12 d_13 d_14 d_15 d_16 g_71 d_18 g_78 g_80 g_81 g_82 g_83 g_84 b_85 g_86 g_87; omega) | omega); have q1_ := d_18 (by first | (clear hnf hun b_1 u_2 b_9 b_10 b_11 hn_18 f_14 f_15 f_16 f_17 d_1 d_2 d_3 d_4 d_5 d_6 d_7 d_8 d_10 g_20 g_21 g_22 b_23 b_24 b_25 b_26 u_28 c_34 f_40 c_41 g_42 f_48 hp_46 c_49 d_11 c_50 g_51 g_52 hp_56 c_58 c_59 g_61 g_63 g_64 d_12 d_13 d_14 d_15 d_16 g_71 d_18 g_78 g_80 g_81 g_82 g_83 g_84 b_85 g_86 g_87; omega) | omega); (first | (clear hnf hun b_1 u_2 b_9 b_10 b_11 b_12 hn_18 f_14 f_15 f_16 f_17 d_1 d_2 d_3 d_4 d_5 d_6 d_7 d_8 d_9 d_10 g_20 g_21 g_22 b_23 b_24 b_25 b_26 b_27 u_28 c_34 f_40 g_42 f_48 hp_46 c_49 d_11 c_50 g_51 g_52 hp_56 c_58 c_59 g_61 g_63 g_64 d_12 d_13 d_14 d_15 d_16 g_70 d_17 d_18 g_78 g_80 g_81 g_82 g_83 g_84 b_85 g_86 g_87 b_88; omega) | omega))⟩⟩⟩ | omega)), ⟨x_7, G_3, hX_8, f_14, f_15, f_16, f_17, hB_G_3, hq_4, ⟨G_30, hX_33, hB_G_30, hq_32, (Or.inl ⟨c_34, ⟨r_35, G_36, hX_39, (Or.inl ⟨c_41, ⟨r_43, G_44, hX_47, (Or.inl ⟨c_49, ⟨G_54, hX_57, (Or.inl ⟨c_58, ⟨G_66, hX_69, ⟨G_73, hX_76, rfl⟩⟩⟩)⟩⟩)⟩⟩)⟩⟩)⟩⟩⟩), wd_t ht hW⟩, hS.F ht⟩) hS.2.2 dX12_unit_179
              · have c_59 : r_35.toInt < 0 := xI_nle rfl rfl c_59
                exfalso; first | exact ok_528 c_58 c_59 | omega
            · have c_58 : r_35.toInt < 0 := xI_nle rfl rfl c_58
              refine ic_0 hx hb dX12_unit_155 ?_
              refine lv_goto (tgt := 160) hx hb dX12_unit_156 rfl ?_
              refine lv_iload_n hx hb dX12_unit_160 rfl (lv_at hl 0 rfl) ?_
              refine lv_if_ge (tgt := 171) hx hb dX12_unit_161 rfl (fun c_89 => ?_) (fun c_89 => ?_)
              · have c_89 : 0 ≤ r_35.toInt := xI_le rfl rfl c_89
                exfalso; first | exact ok_870 c_58 c_89 | omega
              · have c_89 : r_35.toInt < 0 := xI_nle rfl rfl c_89
                refine lv_aload_n hx hb dX12_unit_164 rfl (lv_at hl 1 rfl) ?_
                refine S_getI (v := (G_3.1 66 8)) (C := RX12) (T := TX12) (N := 89) hx hb hg iX12 hown hK hW kd_66 rfl 8 (lt_b rfl) (hg (Cond.fieldLink RX12 202 "SlabWalkModel" "number" "I") m1322) (fun _ h9 => h9) rfl ((hq_55.i9 66 8 rfl rfl).trans ((hq_45.i9 66 8 rfl rfl).trans ((hq_37.i9 66 8 rfl rfl).trans (hq_32.i9 66 8 rfl rfl)))) dX12_unit_165 ?_
                refine lv_goto (tgt := 172) hx hb dX12_unit_168 rfl ?_
                have fr_90 : Fr [75] [(66, 2), (66, 3), (66, 4), (66, 6), (66, 7), (66, 8), (66, 9), (66, 20), (66, 21), (66, 23), (66, 24)] G G_54 := (Fr.call9 (rs := [75]) (fs := [(66, 2), (66, 3), (66, 4), (66, 6), (66, 7), (66, 8), (66, 9), (66, 20), (66, 21), (66, 23), (66, 24)]) (Fr.call9 (rs := [75]) (fs := [(66, 2), (66, 3), (66, 4), (66, 6), (66, 7), (66, 8), (66, 9), (66, 20), (66, 21), (66, 23), (66, 24)]) (Fr.call9 (rs := [75]) (fs := [(66, 2), (66, 3), (66, 4), (66, 6), (66, 7), (66, 8), (66, 9), (66, 20), (66, 21), (66, 23), (66, 24)]) (Fr.call9 (rs := [75]) (fs := [(66, 2), (66, 3), (66, 4), (66, 6), (66, 7), (66, 8), (66, 9), (66, 20), (66, 21), (66, 23), (66, 24)]) (Fr.call9 (rs := [75]) (fs := [(66, 2), (66, 3), (66, 4), (66, 6), (66, 7), (66, 8), (66, 9), (66, 20), (66, 21), (66, 23), (66, 24)]) Fr.rf hq_4 rfl rfl) hq_32 rfl rfl) hq_37 rfl rfl) hq_45 rfl rfl) hq_55 rfl rfl)
                have g_91 : gM G_54 = gM G := gM_fr fr_90 (gr_q rfl) (gf_q rfl)
                have qc_92 : (0 : Int32).toInt = 0 := rfl
                have g_93 : gC G_54 = gC G := gC_fr fr_90 (gr_q rfl) (gf_q rfl)
                have g_94 : gD G_54 = gD G := gD_fr fr_90 (gr_q rfl) (gf_q rfl)
                refine S_callv (va_runV (As := [.int 0, .int (G_3.1 66 8)]) (rest := []) ⟨hx, hb, hml, hown, hts⟩ (n_add l D k A a z G_54 0 (G_3.1 66 8) ⟨by decide, by decide⟩ ((by first | exact ok_861 hun.2.2.2.2.1 hun.2.2.2.2.2.2 b_1.1 g_91 | omega))) (cwV 2 hts (gd_V hgd m1741 m1743 m76 m131 m1744) rfl rfl rfl hd_X12_add ⟨Nat.le_of_ble_eq_true rfl, Nat.le_of_ble_eq_true rfl⟩) (pre_W hW hB_G_54 hK hZ hS kd_66 rfl) rfl rfl hl.1 rfl (lv_room (Nat.le_of_ble_eq_true rfl)) dX12_unit_172 ⟨Nat.le_of_ble_eq_true rfl, Nat.le_of_ble_eq_true rfl⟩) hS (fun G_96 H locs hpo hW hS => ?_)
                have hX_99 : Q_add 0 (G_3.1 66 8) G_54 G_96 := hpo
                obtain ⟨hB_G_96, hq_97, ⟨d_19, d_20, d_21, d_22, d_23⟩, -⟩ := hpo
                have hF := hF.call9 hq_97 rfl rfl
                refine lv_aload_n hx hb dX12_unit_175 rfl (lv_at hl 1 rfl) ?_
                have g_100 : (G_96.1 66 4).toInt = (G_3.1 66 4).toInt := (congrArg Int32.toInt (show G_96.1 66 4 = (G_3.1 66 4) from ((hq_97.i9 66 4 rfl rfl).trans ((hq_55.i9 66 4 rfl rfl).trans ((hq_45.i9 66 4 rfl rfl).trans ((hq_37.i9 66 4 rfl rfl).trans ((hq_32.i9 66 4 rfl rfl).trans (rfl))))))))
                have g_101 : (G_96.1 66 6).toInt = (G_3.1 66 6).toInt := (congrArg Int32.toInt (show G_96.1 66 6 = (G_3.1 66 6) from ((hq_97.i9 66 6 rfl rfl).trans ((hq_55.i9 66 6 rfl rfl).trans ((hq_45.i9 66 6 rfl rfl).trans ((hq_37.i9 66 6 rfl rfl).trans ((hq_32.i9 66 6 rfl rfl).trans (rfl))))))))
                refine S_callv (va_runV (As := []) (rest := []) ⟨hx, hb, hml, hown, hts⟩ (n_token l D k A a z G_96  ) (cwV 0 hts (gd_V hgd m1602 m1604 m50 m131 m1605) rfl rfl rfl hd_X12_token ⟨Nat.le_of_ble_eq_true rfl, Nat.le_of_ble_eq_true rfl⟩) (pre_W hW hB_G_96 hK hZ hS kd_66 rfl) rfl rfl hl.1 rfl (lv_room (Nat.le_of_ble_eq_true rfl)) dX12_unit_176 ⟨Nat.le_of_ble_eq_true rfl, Nat.le_of_ble_eq_true rfl⟩) hS (fun G_103 H locs hpo hW hS => ?_)
                have hX_106 : Q_token G_96 G_103 := hpo
                obtain ⟨hB_G_103, hq_104, ⟨d_24, d_25⟩, -⟩ := hpo
                have hF := hF.call9 hq_104 rfl rfl
                have fr_107 : Fr [69, 70, 71] [(66, 4), (66, 6), (66, 7), (66, 8), (66, 9), (66, 21), (66, 23)] G_3 G_103 := (Fr.call9 (rs := [69, 70, 71]) (fs := [(66, 4), (66, 6), (66, 7), (66, 8), (66, 9), (66, 21), (66, 23)]) (Fr.call9 (rs := [69, 70, 71]) (fs := [(66, 4), (66, 6), (66, 7), (66, 8), (66, 9), (66, 21), (66, 23)]) (Fr.call9 (rs := [69, 70, 71]) (fs := [(66, 4), (66, 6), (66, 7), (66, 8), (66, 9), (66, 21), (66, 23)]) (Fr.call9 (rs := [69, 70, 71]) (fs := [(66, 4), (66, 6), (66, 7), (66, 8), (66, 9), (66, 21), (66, 23)]) (Fr.call9 (rs := [69, 70, 71]) (fs := [(66, 4), (66, 6), (66, 7), (66, 8), (66, 9), (66, 21), (66, 23)]) (Fr.call9 (rs := [69, 70, 71]) (fs := [(66, 4), (66, 6), (66, 7), (66, 8), (66, 9), (66, 21), (66, 23)]) Fr.rf hq_32 rfl rfl) hq_37 rfl rfl) hq_45 rfl rfl) hq_55 rfl rfl) hq_97 rfl rfl) hq_104 rfl rfl)
                have g_108 : gB G_103 = gB G_3 := gB_fr fr_107 (gr_q rfl) (gf_q rfl)
                have fr_109 : Fr [] [(66, 4), (66, 6), (66, 7), (66, 8), (66, 9)] G_96 G_103 := (Fr.call9 (rs := []) (fs := [(66, 4), (66, 6), (66, 7), (66, 8), (66, 9)]) Fr.rf hq_104 rfl rfl)
                have g_110 : gC G_103 = gC G_96 := gC_fr fr_109 (gr_q rfl) (gf_q rfl)
                have g_111 : gD G_103 = gD G_96 := gD_fr fr_109 (gr_q rfl) (gf_q rfl)
                have g_112 : gM G_103 = gM G_96 := gM_fr fr_109 (gr_q rfl) (gf_q rfl)
                have g_113 : (G_103.1 66 2).toInt = (G_3.1 66 2).toInt := (congrArg Int32.toInt (show G_103.1 66 2 = (G_3.1 66 2) from ((hq_104.i9 66 2 rfl rfl).trans ((hq_97.i9 66 2 rfl rfl).trans ((hq_55.i9 66 2 rfl rfl).trans ((hq_45.i9 66 2 rfl rfl).trans ((hq_37.i9 66 2 rfl rfl).trans ((hq_32.i9 66 2 rfl rfl).trans (rfl)))))))))
                have g_114 : (G_103.1 66 20).toInt = (G_3.1 66 20).toInt := (congrArg Int32.toInt (show G_103.1 66 20 = (G_3.1 66 20) from ((hq_104.i9 66 20 rfl rfl).trans ((hq_97.i9 66 20 rfl rfl).trans ((hq_55.i9 66 20 rfl rfl).trans ((hq_45.i9 66 20 rfl rfl).trans ((hq_37.i9 66 20 rfl rfl).trans ((hq_32.i9 66 20 rfl rfl).trans (rfl)))))))))
                have b_115 : 0 ≤ (G_54.1 66 23).toInt ∧ (G_54.1 66 23).toInt ≤ 40 := bd_66_23 hB_G_54
                have g_116 : (G_103.1 66 23).toInt = (G_54.1 66 23).toInt := (congrArg Int32.toInt (show G_103.1 66 23 = (G_54.1 66 23) from ((hq_104.i9 66 23 rfl rfl).trans (hq_97.i9 66 23 rfl rfl))))
                have g_117 : (G_103.1 66 24).toInt = (G_3.1 66 24).toInt := (congrArg Int32.toInt (show G_103.1 66 24 = (G_3.1 66 24) from ((hq_104.i9 66 24 rfl rfl).trans ((hq_97.i9 66 24 rfl rfl).trans ((hq_55.i9 66 24 rfl rfl).trans ((hq_45.i9 66 24 rfl rfl).trans ((hq_37.i9 66 24 rfl rfl).trans ((hq_32.i9 66 24 rfl rfl).trans (rfl)))))))))
                have b_118 : 0 ≤ (G_103.1 66 4).toInt ∧ (G_103.1 66 4).toInt ≤ 1600 := bd_66_4 hB_G_103
                exact W.vret hx hb hr (fun t ht _ => ⟨⟨G_103, rfl, (Q_unit_mk ⟨hB_G_103, hF, ((by first | exact ⟨(by first | exact ok_862 hun.2.2.2.2.1 f_16 g_51 hp_56 b_115.1 g_116 | omega), ⟨(fun h9 => ⟨((by first | (clear hnf b_1 u_2 b_9 b_10 b_11 b_12 hn_18 f_14 f_15 f_17 d_9 d_10 b_27 f_40 c_41 f_48 hp_46 c_58 c_89 g_100 g_101 d_24 d_25 b_118; omega) | omega)), ⟨(by first | exact ok_871 f_15.2.1 g_21 qc_92 g_94 d_20 g_108 g_111 | omega), ⟨(by first | exact ok_798 f_15.2.2.1 g_108 g_114 g_117 | omega), ⟨(by first | exact ok_872 hun.2.2.2.1 hun.2.2.2.2.1 f_15.2.2.2.1 g_21 g_51 hp_56 qc_92 g_94 d_20 g_111 b_115.1 g_116 | omega), ⟨(by first | exact ok_865 f_15.2.2.2.2.1 f_15.2.2.2.2.2.2.2 b_23.1 c_34 g_42 d_11 g_51 hp_56 g_116 | omega), ⟨(by first | exact ok_866 f_15.2.2.2.2.2.1 f_15.2.2.2.2.2.2.1 g_22 g_51 hp_56 g_91 d_19 g_112 g_114 g_116 | omega), ⟨(by first | exact ok_867 f_15.2.2.2.2.2.2.2 b_23.1 c_34 g_117 | omega), (by first | exact ok_868 hun.2.2.2.2.1 f_16 g_51 hp_56 b_115.1 g_116 | omega)⟩⟩⟩⟩⟩⟩⟩), ⟨(by first | exact ok_869 b_12.2 f_17.1 g_100 d_24 b_118.1 | omega), (fun h9 => by have q0_ := d_10 (by first | (clear hnf hun b_1 u_2 b_9 b_10 b_11 hn_18 f_14 f_15 f_16 f_17 d_1 d_2 d_3 d_4 d_5 d_6 d_7 d_8 d_10 g_20 g_21 g_22 b_23 b_24 b_25 b_26 u_28 c_34 f_40 c_41 g_42 f_48 hp_46 c_49 d_11 c_50 g_51 g_52 hp_56 c_58 c_89 g_91 g_93 g_94 d_19 d_20 d_21 d_22 d_23 g_101 d_25 g_108 g_110 g_111 g_112 g_113 g_114 b_115 g_116 g_117; omega) | omega); have q1_ := d_25 (by first | (clear hnf hun b_1 u_2 b_9 b_10 b_11 hn_18 f_14 f_15 f_16 f_17 d_1 d_2 d_3 d_4 d_5 d_6 d_7 d_8 d_10 g_20 g_21 g_22 b_23 b_24 b_25 b_26 u_28 c_34 f_40 c_41 g_42 f_48 hp_46 c_49 d_11 c_50 g_51 g_52 hp_56 c_58 c_89 g_91 g_93 g_94 d_19 d_20 d_21 d_22 d_23 g_101 d_25 g_108 g_110 g_111 g_112 g_113 g_114 b_115 g_116 g_117; omega) | omega); (first | (clear hnf hun b_1 u_2 b_9 b_10 b_11 b_12 hn_18 f_14 f_15 f_16 f_17 d_1 d_2 d_3 d_4 d_5 d_6 d_7 d_8 d_9 d_10 g_20 g_21 g_22 b_23 b_24 b_25 b_26 b_27 u_28 c_34 f_40 g_42 f_48 hp_46 c_49 d_11 c_50 g_51 g_52 hp_56 c_58 c_89 g_91 g_93 g_94 d_19 d_20 d_21 d_22 d_23 g_100 d_24 d_25 g_108 g_110 g_111 g_112 g_113 g_114 b_115 g_116 g_117 b_118; omega) | omega))⟩⟩⟩ | omega)), ⟨x_7, G_3, hX_8, f_14, f_15, f_16, f_17, hB_G_3, hq_4, ⟨G_30, hX_33, hB_G_30, hq_32, (Or.inl ⟨c_34, ⟨r_35, G_36, hX_39, (Or.inl ⟨c_41, ⟨r_43, G_44, hX_47, (Or.inl ⟨c_49, ⟨G_54, hX_57, (Or.inr ⟨c_58, ⟨G_96, hX_99, ⟨G_103, hX_106, rfl⟩⟩⟩)⟩⟩)⟩⟩)⟩⟩)⟩⟩⟩), wd_t ht hW⟩, hS.F ht⟩) hS.2.2 dX12_unit_179
          · have c_50 : 0 < (G_3.1 66 2).toInt := xI_nle rfl rfl c_50
            exfalso; first | exact ok_873 c_34 c_50 | omega
        · have c_49 : r_43.toInt ≠ 0 := xI_ne rfl rfl c_49
          refine lv_aload_n hx hb dX12_unit_133 rfl (lv_at hl 1 rfl) ?_
          refine ic_2 hx hb dX12_unit_134 ?_
          have qc_119 : (2 : Int32).toInt = 2 := rfl
          refine S_callv (va_runV (As := [.int 2]) (rest := []) ⟨hx, hb, hml, hown, hts⟩ (n_wrong l D k A a z G_44 2 ⟨by decide, by decide⟩) (cwV 1 hts (gd_V hgd m1670 m1672 m59 m131 m1673) rfl rfl rfl hd_X12_wrong ⟨Nat.le_of_ble_eq_true rfl, Nat.le_of_ble_eq_true rfl⟩) (pre_W hW hB_G_44 hK hZ hS kd_66 rfl) rfl rfl hl.1 rfl (lv_room (Nat.le_of_ble_eq_true rfl)) dX12_unit_135 ⟨Nat.le_of_ble_eq_true rfl, Nat.le_of_ble_eq_true rfl⟩) hS (fun G_121 H locs hpo hW hS => ?_)
          have hX_124 : Q_wrong 2 G_44 G_121 := hpo
          obtain ⟨hB_G_121, hq_122, hp_123, -⟩ := hpo
          have hF := hF.call9 hq_122 rfl rfl
          refine lv_aload_n hx hb dX12_unit_138 rfl (lv_at hl 1 rfl) ?_
          have b_125 : 0 ≤ (G_121.1 66 2).toInt ∧ (G_121.1 66 2).toInt ≤ 4 := bd_66_2 hB_G_121
          refine S_getI (v := (G_121.1 66 2)) (C := RX12) (T := TX12) (N := 89) hx hb hg iX12 hown hK hW kd_66 rfl 2 (lt_b rfl) (hg (Cond.fieldLink RX12 218 "SlabWalkModel" "fault" "I") m1316) (fun _ h9 => h9) rfl rfl dX12_unit_139 ?_
          refine lv_if_le (tgt := 146) hx hb dX12_unit_142 rfl (fun c_126 => ?_) (fun c_126 => ?_)
          · have c_126 : (G_121.1 66 2).toInt ≤ 0 := xI_le rfl rfl c_126
            refine lv_aload_n hx hb dX12_unit_146 rfl (lv_at hl 1 rfl) ?_
            have g_127 : (G_121.1 66 23).toInt = (G_3.1 66 23).toInt := (congrArg Int32.toInt (show G_121.1 66 23 = (G_3.1 66 23) from ((hq_122.i9 66 23 rfl rfl).trans ((hq_45.i9 66 23 rfl rfl).trans ((hq_37.i9 66 23 rfl rfl).trans ((hq_32.i9 66 23 rfl rfl).trans (rfl)))))))
            have g_128 : (G_121.1 66 23).toInt = (G_3.1 66 23).toInt := (congrArg Int32.toInt (show G_121.1 66 23 = (G_3.1 66 23) from ((hq_122.i9 66 23 rfl rfl).trans ((hq_45.i9 66 23 rfl rfl).trans ((hq_37.i9 66 23 rfl rfl).trans ((hq_32.i9 66 23 rfl rfl).trans (rfl)))))))
            refine S_callv (va_runV (As := []) (rest := []) ⟨hx, hb, hml, hown, hts⟩ (n_countUnit l D k A a z G_121  ((by first | exact ok_860 f_15.2.2.2.2.1 g_127 | omega))) (cwV 0 hts (gd_V hgd m1733 m1735 m74 m131 m1736) rfl rfl rfl hd_X12_countUnit ⟨Nat.le_of_ble_eq_true rfl, Nat.le_of_ble_eq_true rfl⟩) (pre_W hW hB_G_121 hK hZ hS kd_66 rfl) rfl rfl hl.1 rfl (lv_room (Nat.le_of_ble_eq_true rfl)) dX12_unit_147 ⟨Nat.le_of_ble_eq_true rfl, Nat.le_of_ble_eq_true rfl⟩) hS (fun G_130 H locs hpo hW hS => ?_)
            have hX_133 : Q_countUnit G_121 G_130 := hpo
            obtain ⟨hB_G_130, hq_131, hp_132, -⟩ := hpo
            have hF := hF.call9 hq_131 rfl rfl
            refine lv_aload_n hx hb dX12_unit_150 rfl (lv_at hl 1 rfl) ?_
            refine lv_iload_n hx hb dX12_unit_151 rfl (lv_at hl 0 rfl) ?_
            refine lv_if_ge (tgt := 159) hx hb dX12_unit_152 rfl (fun c_134 => ?_) (fun c_134 => ?_)
            · have c_134 : 0 ≤ r_35.toInt := xI_le rfl rfl c_134
              refine ic_1 hx hb dX12_unit_159 ?_
              refine lv_iload_n hx hb dX12_unit_160 rfl (lv_at hl 0 rfl) ?_
              refine lv_if_ge (tgt := 171) hx hb dX12_unit_161 rfl (fun c_135 => ?_) (fun c_135 => ?_)
              · have c_135 : 0 ≤ r_35.toInt := xI_le rfl rfl c_135
                refine lv_iload_n hx hb dX12_unit_171 rfl (lv_at hl 0 rfl) ?_
                have fr_136 : Fr [75] [(66, 2), (66, 3), (66, 4), (66, 6), (66, 7), (66, 8), (66, 9), (66, 20), (66, 21), (66, 23), (66, 24)] G G_130 := (Fr.call9 (rs := [75]) (fs := [(66, 2), (66, 3), (66, 4), (66, 6), (66, 7), (66, 8), (66, 9), (66, 20), (66, 21), (66, 23), (66, 24)]) (Fr.call9 (rs := [75]) (fs := [(66, 2), (66, 3), (66, 4), (66, 6), (66, 7), (66, 8), (66, 9), (66, 20), (66, 21), (66, 23), (66, 24)]) (Fr.call9 (rs := [75]) (fs := [(66, 2), (66, 3), (66, 4), (66, 6), (66, 7), (66, 8), (66, 9), (66, 20), (66, 21), (66, 23), (66, 24)]) (Fr.call9 (rs := [75]) (fs := [(66, 2), (66, 3), (66, 4), (66, 6), (66, 7), (66, 8), (66, 9), (66, 20), (66, 21), (66, 23), (66, 24)]) (Fr.call9 (rs := [75]) (fs := [(66, 2), (66, 3), (66, 4), (66, 6), (66, 7), (66, 8), (66, 9), (66, 20), (66, 21), (66, 23), (66, 24)]) (Fr.call9 (rs := [75]) (fs := [(66, 2), (66, 3), (66, 4), (66, 6), (66, 7), (66, 8), (66, 9), (66, 20), (66, 21), (66, 23), (66, 24)]) Fr.rf hq_4 rfl rfl) hq_32 rfl rfl) hq_37 rfl rfl) hq_45 rfl rfl) hq_122 rfl rfl) hq_131 rfl rfl)
                have g_137 : gM G_130 = gM G := gM_fr fr_136 (gr_q rfl) (gf_q rfl)
                have qc_138 : (1 : Int32).toInt = 1 := rfl
                have g_139 : gC G_130 = gC G := gC_fr fr_136 (gr_q rfl) (gf_q rfl)
                have g_140 : gD G_130 = gD G := gD_fr fr_136 (gr_q rfl) (gf_q rfl)
                refine S_callv (va_runV (As := [.int 1, .int r_35]) (rest := []) ⟨hx, hb, hml, hown, hts⟩ (n_add l D k A a z G_130 1 r_35 ⟨by decide, by decide⟩ ((by first | exact ok_861 hun.2.2.2.2.1 hun.2.2.2.2.2.2 b_1.1 g_137 | omega))) (cwV 2 hts (gd_V hgd m1741 m1743 m76 m131 m1744) rfl rfl rfl hd_X12_add ⟨Nat.le_of_ble_eq_true rfl, Nat.le_of_ble_eq_true rfl⟩) (pre_W hW hB_G_130 hK hZ hS kd_66 rfl) rfl rfl hl.1 rfl (lv_room (Nat.le_of_ble_eq_true rfl)) dX12_unit_172 ⟨Nat.le_of_ble_eq_true rfl, Nat.le_of_ble_eq_true rfl⟩) hS (fun G_142 H locs hpo hW hS => ?_)
                have hX_145 : Q_add 1 r_35 G_130 G_142 := hpo
                obtain ⟨hB_G_142, hq_143, ⟨d_26, d_27, d_28, d_29, d_30⟩, -⟩ := hpo
                have hF := hF.call9 hq_143 rfl rfl
                refine lv_aload_n hx hb dX12_unit_175 rfl (lv_at hl 1 rfl) ?_
                have g_146 : (G_142.1 66 4).toInt = (G_3.1 66 4).toInt := (congrArg Int32.toInt (show G_142.1 66 4 = (G_3.1 66 4) from ((hq_143.i9 66 4 rfl rfl).trans ((hq_131.i9 66 4 rfl rfl).trans ((hq_122.i9 66 4 rfl rfl).trans ((hq_45.i9 66 4 rfl rfl).trans ((hq_37.i9 66 4 rfl rfl).trans ((hq_32.i9 66 4 rfl rfl).trans (rfl)))))))))
                have g_147 : (G_142.1 66 6).toInt = (G_3.1 66 6).toInt := (congrArg Int32.toInt (show G_142.1 66 6 = (G_3.1 66 6) from ((hq_143.i9 66 6 rfl rfl).trans ((hq_131.i9 66 6 rfl rfl).trans ((hq_122.i9 66 6 rfl rfl).trans ((hq_45.i9 66 6 rfl rfl).trans ((hq_37.i9 66 6 rfl rfl).trans ((hq_32.i9 66 6 rfl rfl).trans (rfl)))))))))
                refine S_callv (va_runV (As := []) (rest := []) ⟨hx, hb, hml, hown, hts⟩ (n_token l D k A a z G_142  ) (cwV 0 hts (gd_V hgd m1602 m1604 m50 m131 m1605) rfl rfl rfl hd_X12_token ⟨Nat.le_of_ble_eq_true rfl, Nat.le_of_ble_eq_true rfl⟩) (pre_W hW hB_G_142 hK hZ hS kd_66 rfl) rfl rfl hl.1 rfl (lv_room (Nat.le_of_ble_eq_true rfl)) dX12_unit_176 ⟨Nat.le_of_ble_eq_true rfl, Nat.le_of_ble_eq_true rfl⟩) hS (fun G_149 H locs hpo hW hS => ?_)
                have hX_152 : Q_token G_142 G_149 := hpo
                obtain ⟨hB_G_149, hq_150, ⟨d_31, d_32⟩, -⟩ := hpo
                have hF := hF.call9 hq_150 rfl rfl
                have fr_153 : Fr [69, 70, 71] [(66, 2), (66, 3), (66, 4), (66, 6), (66, 7), (66, 8), (66, 9), (66, 21), (66, 23)] G_3 G_149 := (Fr.call9 (rs := [69, 70, 71]) (fs := [(66, 2), (66, 3), (66, 4), (66, 6), (66, 7), (66, 8), (66, 9), (66, 21), (66, 23)]) (Fr.call9 (rs := [69, 70, 71]) (fs := [(66, 2), (66, 3), (66, 4), (66, 6), (66, 7), (66, 8), (66, 9), (66, 21), (66, 23)]) (Fr.call9 (rs := [69, 70, 71]) (fs := [(66, 2), (66, 3), (66, 4), (66, 6), (66, 7), (66, 8), (66, 9), (66, 21), (66, 23)]) (Fr.call9 (rs := [69, 70, 71]) (fs := [(66, 2), (66, 3), (66, 4), (66, 6), (66, 7), (66, 8), (66, 9), (66, 21), (66, 23)]) (Fr.call9 (rs := [69, 70, 71]) (fs := [(66, 2), (66, 3), (66, 4), (66, 6), (66, 7), (66, 8), (66, 9), (66, 21), (66, 23)]) (Fr.call9 (rs := [69, 70, 71]) (fs := [(66, 2), (66, 3), (66, 4), (66, 6), (66, 7), (66, 8), (66, 9), (66, 21), (66, 23)]) (Fr.call9 (rs := [69, 70, 71]) (fs := [(66, 2), (66, 3), (66, 4), (66, 6), (66, 7), (66, 8), (66, 9), (66, 21), (66, 23)]) Fr.rf hq_32 rfl rfl) hq_37 rfl rfl) hq_45 rfl rfl) hq_122 rfl rfl) hq_131 rfl rfl) hq_143 rfl rfl) hq_150 rfl rfl)
                have g_154 : gB G_149 = gB G_3 := gB_fr fr_153 (gr_q rfl) (gf_q rfl)
                have fr_155 : Fr [] [(66, 4), (66, 6), (66, 7), (66, 8), (66, 9)] G_142 G_149 := (Fr.call9 (rs := []) (fs := [(66, 4), (66, 6), (66, 7), (66, 8), (66, 9)]) Fr.rf hq_150 rfl rfl)
                have g_156 : gC G_149 = gC G_142 := gC_fr fr_155 (gr_q rfl) (gf_q rfl)
                have g_157 : gD G_149 = gD G_142 := gD_fr fr_155 (gr_q rfl) (gf_q rfl)
                have g_158 : gM G_149 = gM G_142 := gM_fr fr_155 (gr_q rfl) (gf_q rfl)
                have g_159 : (G_149.1 66 2).toInt = (G_121.1 66 2).toInt := (congrArg Int32.toInt (show G_149.1 66 2 = (G_121.1 66 2) from ((hq_150.i9 66 2 rfl rfl).trans ((hq_143.i9 66 2 rfl rfl).trans ((hq_131.i9 66 2 rfl rfl).trans (rfl))))))
                have g_160 : (G_149.1 66 20).toInt = (G_3.1 66 20).toInt := (congrArg Int32.toInt (show G_149.1 66 20 = (G_3.1 66 20) from ((hq_150.i9 66 20 rfl rfl).trans ((hq_143.i9 66 20 rfl rfl).trans ((hq_131.i9 66 20 rfl rfl).trans ((hq_122.i9 66 20 rfl rfl).trans ((hq_45.i9 66 20 rfl rfl).trans ((hq_37.i9 66 20 rfl rfl).trans ((hq_32.i9 66 20 rfl rfl).trans (rfl))))))))))
                have b_161 : 0 ≤ (G_130.1 66 23).toInt ∧ (G_130.1 66 23).toInt ≤ 40 := bd_66_23 hB_G_130
                have g_162 : (G_149.1 66 23).toInt = (G_130.1 66 23).toInt := (congrArg Int32.toInt (show G_149.1 66 23 = (G_130.1 66 23) from ((hq_150.i9 66 23 rfl rfl).trans (hq_143.i9 66 23 rfl rfl))))
                have g_163 : (G_149.1 66 24).toInt = (G_3.1 66 24).toInt := (congrArg Int32.toInt (show G_149.1 66 24 = (G_3.1 66 24) from ((hq_150.i9 66 24 rfl rfl).trans ((hq_143.i9 66 24 rfl rfl).trans ((hq_131.i9 66 24 rfl rfl).trans ((hq_122.i9 66 24 rfl rfl).trans ((hq_45.i9 66 24 rfl rfl).trans ((hq_37.i9 66 24 rfl rfl).trans ((hq_32.i9 66 24 rfl rfl).trans (rfl))))))))))
                have b_164 : 0 ≤ (G_149.1 66 4).toInt ∧ (G_149.1 66 4).toInt ≤ 1600 := bd_66_4 hB_G_149
                exact W.vret hx hb hr (fun t ht _ => ⟨⟨G_149, rfl, (Q_unit_mk ⟨hB_G_149, hF, ((by first | exact ⟨(by first | exact ok_862 hun.2.2.2.2.1 f_16 g_127 hp_132 b_161.1 g_162 | omega), ⟨(fun h9 => ⟨((by first | (clear hnf b_1 u_2 b_9 b_10 b_11 b_12 hn_18 f_14 f_15 f_16 f_17 d_5 d_9 d_10 b_23 b_25 b_27 c_34 f_40 c_41 f_48 hp_46 c_49 c_134 c_135 g_146 g_147 d_31 d_32 b_161 b_164; omega) | omega)), ⟨(by first | exact ok_863 qc_13 f_15.2.1 g_21 g_140 d_27 g_154 g_157 | omega), ⟨(by first | exact ok_798 f_15.2.2.1 g_154 g_160 g_163 | omega), ⟨(by first | exact ok_864 hun.2.2.2.1 hun.2.2.2.2.1 qc_13 f_15.2.2.2.1 g_21 g_127 hp_132 g_140 d_27 g_157 b_161.1 g_162 | omega), ⟨((by first | (clear hnf b_1 u_2 b_9 b_10 b_12 hn_18 f_14 f_15 f_17 d_9 d_10 b_27 f_40 c_41 hp_46 c_134 c_135 g_146 g_147 d_31 d_32 b_164; omega) | omega)), ⟨(by first | exact ok_866 f_15.2.2.2.2.2.1 f_15.2.2.2.2.2.2.1 g_22 g_127 hp_132 g_137 d_26 g_158 g_160 g_162 | omega), ⟨(by first | exact ok_874 f_15.2.2.2.2.2.1 f_15.2.2.2.2.2.2.2 b_23.1 c_34 g_163 | omega), (by first | exact ok_868 hun.2.2.2.2.1 f_16 g_127 hp_132 b_161.1 g_162 | omega)⟩⟩⟩⟩⟩⟩⟩), ⟨(by first | exact ok_869 b_12.2 f_17.1 g_146 d_31 b_164.1 | omega), (fun h9 => by have q0_ := d_10 (by first | (clear hnf hun b_1 u_2 b_9 b_10 b_11 hn_18 f_14 f_15 f_16 f_17 d_1 d_2 d_3 d_4 d_5 d_6 d_7 d_8 d_10 g_20 g_21 g_22 b_23 b_24 b_25 b_26 u_28 c_34 f_40 c_41 g_42 f_48 hp_46 c_49 hp_123 b_125 c_126 g_127 g_128 hp_132 c_134 c_135 g_137 g_139 g_140 d_26 d_27 d_28 d_29 d_30 g_147 d_32 g_154 g_156 g_157 g_158 g_159 g_160 b_161 g_162 g_163; omega) | omega); have q1_ := d_32 (by first | (clear hnf hun b_1 u_2 b_9 b_10 b_11 hn_18 f_14 f_15 f_16 f_17 d_1 d_2 d_3 d_4 d_5 d_6 d_7 d_8 d_10 g_20 g_21 g_22 b_23 b_24 b_25 b_26 u_28 c_34 f_40 c_41 g_42 f_48 hp_46 c_49 hp_123 b_125 c_126 g_127 g_128 hp_132 c_134 c_135 g_137 g_139 g_140 d_26 d_27 d_28 d_29 d_30 g_147 d_32 g_154 g_156 g_157 g_158 g_159 g_160 b_161 g_162 g_163; omega) | omega); (first | (clear hnf hun b_1 u_2 b_9 b_10 b_11 b_12 hn_18 f_14 f_15 f_16 f_17 d_1 d_2 d_3 d_4 d_5 d_6 d_7 d_8 d_9 d_10 g_20 g_21 g_22 b_23 b_24 b_25 b_26 b_27 u_28 c_34 f_40 g_42 f_48 hp_46 c_49 hp_123 b_125 c_126 g_127 g_128 hp_132 c_134 c_135 g_137 g_139 g_140 d_26 d_27 d_28 d_29 d_30 g_146 d_31 d_32 g_154 g_156 g_157 g_158 g_159 g_160 b_161 g_162 g_163 b_164; omega) | omega))⟩⟩⟩ | omega)), ⟨x_7, G_3, hX_8, f_14, f_15, f_16, f_17, hB_G_3, hq_4, ⟨G_30, hX_33, hB_G_30, hq_32, (Or.inl ⟨c_34, ⟨r_35, G_36, hX_39, (Or.inl ⟨c_41, ⟨r_43, G_44, hX_47, (Or.inr ⟨c_49, ⟨G_121, hX_124, (Or.inl ⟨c_126, ⟨G_130, hX_133, (Or.inl ⟨c_134, ⟨G_142, hX_145, ⟨G_149, hX_152, rfl⟩⟩⟩)⟩⟩)⟩⟩)⟩⟩)⟩⟩)⟩⟩⟩), wd_t ht hW⟩, hS.F ht⟩) hS.2.2 dX12_unit_179
              · have c_135 : r_35.toInt < 0 := xI_nle rfl rfl c_135
                exfalso; first | exact ok_528 c_134 c_135 | omega
            · have c_134 : r_35.toInt < 0 := xI_nle rfl rfl c_134
              refine ic_0 hx hb dX12_unit_155 ?_
              refine lv_goto (tgt := 160) hx hb dX12_unit_156 rfl ?_
              refine lv_iload_n hx hb dX12_unit_160 rfl (lv_at hl 0 rfl) ?_
              refine lv_if_ge (tgt := 171) hx hb dX12_unit_161 rfl (fun c_165 => ?_) (fun c_165 => ?_)
              · have c_165 : 0 ≤ r_35.toInt := xI_le rfl rfl c_165
                exfalso; first | exact ok_875 hp_123 c_126 | omega
              · have c_165 : r_35.toInt < 0 := xI_nle rfl rfl c_165
                refine lv_aload_n hx hb dX12_unit_164 rfl (lv_at hl 1 rfl) ?_
                refine S_getI (v := (G_3.1 66 8)) (C := RX12) (T := TX12) (N := 89) hx hb hg iX12 hown hK hW kd_66 rfl 8 (lt_b rfl) (hg (Cond.fieldLink RX12 202 "SlabWalkModel" "number" "I") m1322) (fun _ h9 => h9) rfl ((hq_131.i9 66 8 rfl rfl).trans ((hq_122.i9 66 8 rfl rfl).trans ((hq_45.i9 66 8 rfl rfl).trans ((hq_37.i9 66 8 rfl rfl).trans (hq_32.i9 66 8 rfl rfl))))) dX12_unit_165 ?_
                refine lv_goto (tgt := 172) hx hb dX12_unit_168 rfl ?_
                have fr_166 : Fr [75] [(66, 2), (66, 3), (66, 4), (66, 6), (66, 7), (66, 8), (66, 9), (66, 20), (66, 21), (66, 23), (66, 24)] G G_130 := (Fr.call9 (rs := [75]) (fs := [(66, 2), (66, 3), (66, 4), (66, 6), (66, 7), (66, 8), (66, 9), (66, 20), (66, 21), (66, 23), (66, 24)]) (Fr.call9 (rs := [75]) (fs := [(66, 2), (66, 3), (66, 4), (66, 6), (66, 7), (66, 8), (66, 9), (66, 20), (66, 21), (66, 23), (66, 24)]) (Fr.call9 (rs := [75]) (fs := [(66, 2), (66, 3), (66, 4), (66, 6), (66, 7), (66, 8), (66, 9), (66, 20), (66, 21), (66, 23), (66, 24)]) (Fr.call9 (rs := [75]) (fs := [(66, 2), (66, 3), (66, 4), (66, 6), (66, 7), (66, 8), (66, 9), (66, 20), (66, 21), (66, 23), (66, 24)]) (Fr.call9 (rs := [75]) (fs := [(66, 2), (66, 3), (66, 4), (66, 6), (66, 7), (66, 8), (66, 9), (66, 20), (66, 21), (66, 23), (66, 24)]) (Fr.call9 (rs := [75]) (fs := [(66, 2), (66, 3), (66, 4), (66, 6), (66, 7), (66, 8), (66, 9), (66, 20), (66, 21), (66, 23), (66, 24)]) Fr.rf hq_4 rfl rfl) hq_32 rfl rfl) hq_37 rfl rfl) hq_45 rfl rfl) hq_122 rfl rfl) hq_131 rfl rfl)
                have g_167 : gM G_130 = gM G := gM_fr fr_166 (gr_q rfl) (gf_q rfl)
                have qc_168 : (0 : Int32).toInt = 0 := rfl
                have g_169 : gC G_130 = gC G := gC_fr fr_166 (gr_q rfl) (gf_q rfl)
                have g_170 : gD G_130 = gD G := gD_fr fr_166 (gr_q rfl) (gf_q rfl)
                refine S_callv (va_runV (As := [.int 0, .int (G_3.1 66 8)]) (rest := []) ⟨hx, hb, hml, hown, hts⟩ (n_add l D k A a z G_130 0 (G_3.1 66 8) ⟨by decide, by decide⟩ ((by first | exact ok_861 hun.2.2.2.2.1 hun.2.2.2.2.2.2 b_1.1 g_167 | omega))) (cwV 2 hts (gd_V hgd m1741 m1743 m76 m131 m1744) rfl rfl rfl hd_X12_add ⟨Nat.le_of_ble_eq_true rfl, Nat.le_of_ble_eq_true rfl⟩) (pre_W hW hB_G_130 hK hZ hS kd_66 rfl) rfl rfl hl.1 rfl (lv_room (Nat.le_of_ble_eq_true rfl)) dX12_unit_172 ⟨Nat.le_of_ble_eq_true rfl, Nat.le_of_ble_eq_true rfl⟩) hS (fun G_172 H locs hpo hW hS => ?_)
                have hX_175 : Q_add 0 (G_3.1 66 8) G_130 G_172 := hpo
                obtain ⟨hB_G_172, hq_173, ⟨d_33, d_34, d_35, d_36, d_37⟩, -⟩ := hpo
                have hF := hF.call9 hq_173 rfl rfl
                refine lv_aload_n hx hb dX12_unit_175 rfl (lv_at hl 1 rfl) ?_
                have g_176 : (G_172.1 66 4).toInt = (G_3.1 66 4).toInt := (congrArg Int32.toInt (show G_172.1 66 4 = (G_3.1 66 4) from ((hq_173.i9 66 4 rfl rfl).trans ((hq_131.i9 66 4 rfl rfl).trans ((hq_122.i9 66 4 rfl rfl).trans ((hq_45.i9 66 4 rfl rfl).trans ((hq_37.i9 66 4 rfl rfl).trans ((hq_32.i9 66 4 rfl rfl).trans (rfl)))))))))
                have g_177 : (G_172.1 66 6).toInt = (G_3.1 66 6).toInt := (congrArg Int32.toInt (show G_172.1 66 6 = (G_3.1 66 6) from ((hq_173.i9 66 6 rfl rfl).trans ((hq_131.i9 66 6 rfl rfl).trans ((hq_122.i9 66 6 rfl rfl).trans ((hq_45.i9 66 6 rfl rfl).trans ((hq_37.i9 66 6 rfl rfl).trans ((hq_32.i9 66 6 rfl rfl).trans (rfl)))))))))
                refine S_callv (va_runV (As := []) (rest := []) ⟨hx, hb, hml, hown, hts⟩ (n_token l D k A a z G_172  ) (cwV 0 hts (gd_V hgd m1602 m1604 m50 m131 m1605) rfl rfl rfl hd_X12_token ⟨Nat.le_of_ble_eq_true rfl, Nat.le_of_ble_eq_true rfl⟩) (pre_W hW hB_G_172 hK hZ hS kd_66 rfl) rfl rfl hl.1 rfl (lv_room (Nat.le_of_ble_eq_true rfl)) dX12_unit_176 ⟨Nat.le_of_ble_eq_true rfl, Nat.le_of_ble_eq_true rfl⟩) hS (fun G_179 H locs hpo hW hS => ?_)
                have hX_182 : Q_token G_172 G_179 := hpo
                obtain ⟨hB_G_179, hq_180, ⟨d_38, d_39⟩, -⟩ := hpo
                have hF := hF.call9 hq_180 rfl rfl
                have fr_183 : Fr [69, 70, 71] [(66, 2), (66, 3), (66, 4), (66, 6), (66, 7), (66, 8), (66, 9), (66, 21), (66, 23)] G_3 G_179 := (Fr.call9 (rs := [69, 70, 71]) (fs := [(66, 2), (66, 3), (66, 4), (66, 6), (66, 7), (66, 8), (66, 9), (66, 21), (66, 23)]) (Fr.call9 (rs := [69, 70, 71]) (fs := [(66, 2), (66, 3), (66, 4), (66, 6), (66, 7), (66, 8), (66, 9), (66, 21), (66, 23)]) (Fr.call9 (rs := [69, 70, 71]) (fs := [(66, 2), (66, 3), (66, 4), (66, 6), (66, 7), (66, 8), (66, 9), (66, 21), (66, 23)]) (Fr.call9 (rs := [69, 70, 71]) (fs := [(66, 2), (66, 3), (66, 4), (66, 6), (66, 7), (66, 8), (66, 9), (66, 21), (66, 23)]) (Fr.call9 (rs := [69, 70, 71]) (fs := [(66, 2), (66, 3), (66, 4), (66, 6), (66, 7), (66, 8), (66, 9), (66, 21), (66, 23)]) (Fr.call9 (rs := [69, 70, 71]) (fs := [(66, 2), (66, 3), (66, 4), (66, 6), (66, 7), (66, 8), (66, 9), (66, 21), (66, 23)]) (Fr.call9 (rs := [69, 70, 71]) (fs := [(66, 2), (66, 3), (66, 4), (66, 6), (66, 7), (66, 8), (66, 9), (66, 21), (66, 23)]) Fr.rf hq_32 rfl rfl) hq_37 rfl rfl) hq_45 rfl rfl) hq_122 rfl rfl) hq_131 rfl rfl) hq_173 rfl rfl) hq_180 rfl rfl)
                have g_184 : gB G_179 = gB G_3 := gB_fr fr_183 (gr_q rfl) (gf_q rfl)
                have fr_185 : Fr [] [(66, 4), (66, 6), (66, 7), (66, 8), (66, 9)] G_172 G_179 := (Fr.call9 (rs := []) (fs := [(66, 4), (66, 6), (66, 7), (66, 8), (66, 9)]) Fr.rf hq_180 rfl rfl)
                have g_186 : gC G_179 = gC G_172 := gC_fr fr_185 (gr_q rfl) (gf_q rfl)
                have g_187 : gD G_179 = gD G_172 := gD_fr fr_185 (gr_q rfl) (gf_q rfl)
                have g_188 : gM G_179 = gM G_172 := gM_fr fr_185 (gr_q rfl) (gf_q rfl)
                have g_189 : (G_179.1 66 2).toInt = (G_121.1 66 2).toInt := (congrArg Int32.toInt (show G_179.1 66 2 = (G_121.1 66 2) from ((hq_180.i9 66 2 rfl rfl).trans ((hq_173.i9 66 2 rfl rfl).trans ((hq_131.i9 66 2 rfl rfl).trans (rfl))))))
                have g_190 : (G_179.1 66 20).toInt = (G_3.1 66 20).toInt := (congrArg Int32.toInt (show G_179.1 66 20 = (G_3.1 66 20) from ((hq_180.i9 66 20 rfl rfl).trans ((hq_173.i9 66 20 rfl rfl).trans ((hq_131.i9 66 20 rfl rfl).trans ((hq_122.i9 66 20 rfl rfl).trans ((hq_45.i9 66 20 rfl rfl).trans ((hq_37.i9 66 20 rfl rfl).trans ((hq_32.i9 66 20 rfl rfl).trans (rfl))))))))))
                have b_191 : 0 ≤ (G_130.1 66 23).toInt ∧ (G_130.1 66 23).toInt ≤ 40 := bd_66_23 hB_G_130
                have g_192 : (G_179.1 66 23).toInt = (G_130.1 66 23).toInt := (congrArg Int32.toInt (show G_179.1 66 23 = (G_130.1 66 23) from ((hq_180.i9 66 23 rfl rfl).trans (hq_173.i9 66 23 rfl rfl))))
                have g_193 : (G_179.1 66 24).toInt = (G_3.1 66 24).toInt := (congrArg Int32.toInt (show G_179.1 66 24 = (G_3.1 66 24) from ((hq_180.i9 66 24 rfl rfl).trans ((hq_173.i9 66 24 rfl rfl).trans ((hq_131.i9 66 24 rfl rfl).trans ((hq_122.i9 66 24 rfl rfl).trans ((hq_45.i9 66 24 rfl rfl).trans ((hq_37.i9 66 24 rfl rfl).trans ((hq_32.i9 66 24 rfl rfl).trans (rfl))))))))))
                have b_194 : 0 ≤ (G_179.1 66 4).toInt ∧ (G_179.1 66 4).toInt ≤ 1600 := bd_66_4 hB_G_179
                exact W.vret hx hb hr (fun t ht _ => ⟨⟨G_179, rfl, (Q_unit_mk ⟨hB_G_179, hF, ((by first | exact ⟨(by first | exact ok_862 hun.2.2.2.2.1 f_16 g_127 hp_132 b_191.1 g_192 | omega), ⟨(fun h9 => ⟨((by first | (clear hnf b_1 u_2 b_9 b_10 b_11 b_12 hn_18 f_14 f_15 f_16 f_17 d_5 d_9 d_10 b_23 b_25 b_27 c_34 f_40 c_41 f_48 hp_46 c_49 c_134 c_165 g_176 g_177 d_38 d_39 b_191 b_194; omega) | omega)), ⟨(by first | exact ok_871 f_15.2.1 g_21 qc_168 g_170 d_34 g_184 g_187 | omega), ⟨(by first | exact ok_798 f_15.2.2.1 g_184 g_190 g_193 | omega), ⟨(by first | exact ok_872 hun.2.2.2.1 hun.2.2.2.2.1 f_15.2.2.2.1 g_21 g_127 hp_132 qc_168 g_170 d_34 g_187 b_191.1 g_192 | omega), ⟨((by first | (clear hnf b_1 u_2 b_9 b_10 b_12 hn_18 f_14 f_15 f_17 d_9 d_10 b_27 f_40 c_41 hp_46 c_134 c_165 g_176 g_177 d_38 d_39 b_194; omega) | omega)), ⟨(by first | exact ok_866 f_15.2.2.2.2.2.1 f_15.2.2.2.2.2.2.1 g_22 g_127 hp_132 g_167 d_33 g_188 g_190 g_192 | omega), ⟨(by first | exact ok_874 f_15.2.2.2.2.2.1 f_15.2.2.2.2.2.2.2 b_23.1 c_34 g_193 | omega), (by first | exact ok_868 hun.2.2.2.2.1 f_16 g_127 hp_132 b_191.1 g_192 | omega)⟩⟩⟩⟩⟩⟩⟩), ⟨(by first | exact ok_869 b_12.2 f_17.1 g_176 d_38 b_194.1 | omega), (fun h9 => by have q0_ := d_10 (by first | (clear hnf hun b_1 u_2 b_9 b_10 b_11 hn_18 f_14 f_15 f_16 f_17 d_1 d_2 d_3 d_4 d_5 d_6 d_7 d_8 d_10 g_20 g_21 g_22 b_23 b_24 b_25 b_26 u_28 c_34 f_40 c_41 g_42 f_48 hp_46 c_49 hp_123 b_125 c_126 g_127 g_128 hp_132 c_134 c_165 g_167 g_169 g_170 d_33 d_34 d_35 d_36 d_37 g_177 d_39 g_184 g_186 g_187 g_188 g_189 g_190 b_191 g_192 g_193; omega) | omega); have q1_ := d_39 (by first | (clear hnf hun b_1 u_2 b_9 b_10 b_11 hn_18 f_14 f_15 f_16 f_17 d_1 d_2 d_3 d_4 d_5 d_6 d_7 d_8 d_10 g_20 g_21 g_22 b_23 b_24 b_25 b_26 u_28 c_34 f_40 c_41 g_42 f_48 hp_46 c_49 hp_123 b_125 c_126 g_127 g_128 hp_132 c_134 c_165 g_167 g_169 g_170 d_33 d_34 d_35 d_36 d_37 g_177 d_39 g_184 g_186 g_187 g_188 g_189 g_190 b_191 g_192 g_193; omega) | omega); (first | (clear hnf hun b_1 u_2 b_9 b_10 b_11 b_12 hn_18 f_14 f_15 f_16 f_17 d_1 d_2 d_3 d_4 d_5 d_6 d_7 d_8 d_9 d_10 g_20 g_21 g_22 b_23 b_24 b_25 b_26 b_27 u_28 c_34 f_40 g_42 f_48 hp_46 c_49 hp_123 b_125 c_126 g_127 g_128 hp_132 c_134 c_165 g_167 g_169 g_170 d_33 d_34 d_35 d_36 d_37 g_176 d_38 d_39 g_184 g_186 g_187 g_188 g_189 g_190 b_191 g_192 g_193 b_194; omega) | omega))⟩⟩⟩ | omega)), ⟨x_7, G_3, hX_8, f_14, f_15, f_16, f_17, hB_G_3, hq_4, ⟨G_30, hX_33, hB_G_30, hq_32, (Or.inl ⟨c_34, ⟨r_35, G_36, hX_39, (Or.inl ⟨c_41, ⟨r_43, G_44, hX_47, (Or.inr ⟨c_49, ⟨G_121, hX_124, (Or.inl ⟨c_126, ⟨G_130, hX_133, (Or.inr ⟨c_134, ⟨G_172, hX_175, ⟨G_179, hX_182, rfl⟩⟩⟩)⟩⟩)⟩⟩)⟩⟩)⟩⟩)⟩⟩⟩), wd_t ht hW⟩, hS.F ht⟩) hS.2.2 dX12_unit_179
          · have c_126 : 0 < (G_121.1 66 2).toInt := xI_nle rfl rfl c_126
            have fr_195 : Fr [] [(66, 2), (66, 3)] G_3 G_121 := (Fr.call9 (rs := []) (fs := [(66, 2), (66, 3)]) (Fr.call9 (rs := []) (fs := [(66, 2), (66, 3)]) (Fr.call9 (rs := []) (fs := [(66, 2), (66, 3)]) (Fr.call9 (rs := []) (fs := [(66, 2), (66, 3)]) Fr.rf hq_32 rfl rfl) hq_37 rfl rfl) hq_45 rfl rfl) hq_122 rfl rfl)
            have g_196 : gB G_121 = gB G_3 := gB_fr fr_195 (gr_q rfl) (gf_q rfl)
            have fr_197 : Fr [75] [(66, 2), (66, 3), (66, 4), (66, 6), (66, 7), (66, 8), (66, 9), (66, 20), (66, 21), (66, 23), (66, 24)] G G_121 := (Fr.call9 (rs := [75]) (fs := [(66, 2), (66, 3), (66, 4), (66, 6), (66, 7), (66, 8), (66, 9), (66, 20), (66, 21), (66, 23), (66, 24)]) (Fr.call9 (rs := [75]) (fs := [(66, 2), (66, 3), (66, 4), (66, 6), (66, 7), (66, 8), (66, 9), (66, 20), (66, 21), (66, 23), (66, 24)]) (Fr.call9 (rs := [75]) (fs := [(66, 2), (66, 3), (66, 4), (66, 6), (66, 7), (66, 8), (66, 9), (66, 20), (66, 21), (66, 23), (66, 24)]) (Fr.call9 (rs := [75]) (fs := [(66, 2), (66, 3), (66, 4), (66, 6), (66, 7), (66, 8), (66, 9), (66, 20), (66, 21), (66, 23), (66, 24)]) (Fr.call9 (rs := [75]) (fs := [(66, 2), (66, 3), (66, 4), (66, 6), (66, 7), (66, 8), (66, 9), (66, 20), (66, 21), (66, 23), (66, 24)]) Fr.rf hq_4 rfl rfl) hq_32 rfl rfl) hq_37 rfl rfl) hq_45 rfl rfl) hq_122 rfl rfl)
            have g_198 : gC G_121 = gC G := gC_fr fr_197 (gr_q rfl) (gf_q rfl)
            have g_199 : gD G_121 = gD G := gD_fr fr_197 (gr_q rfl) (gf_q rfl)
            have g_200 : gM G_121 = gM G := gM_fr fr_197 (gr_q rfl) (gf_q rfl)
            have g_201 : (G_121.1 66 20).toInt = (G_3.1 66 20).toInt := (congrArg Int32.toInt (show G_121.1 66 20 = (G_3.1 66 20) from ((hq_122.i9 66 20 rfl rfl).trans ((hq_45.i9 66 20 rfl rfl).trans ((hq_37.i9 66 20 rfl rfl).trans ((hq_32.i9 66 20 rfl rfl).trans (rfl)))))))
            have g_202 : (G_121.1 66 23).toInt = (G_3.1 66 23).toInt := (congrArg Int32.toInt (show G_121.1 66 23 = (G_3.1 66 23) from ((hq_122.i9 66 23 rfl rfl).trans ((hq_45.i9 66 23 rfl rfl).trans ((hq_37.i9 66 23 rfl rfl).trans ((hq_32.i9 66 23 rfl rfl).trans (rfl)))))))
            have g_203 : (G_121.1 66 24).toInt = (G_3.1 66 24).toInt := (congrArg Int32.toInt (show G_121.1 66 24 = (G_3.1 66 24) from ((hq_122.i9 66 24 rfl rfl).trans ((hq_45.i9 66 24 rfl rfl).trans ((hq_37.i9 66 24 rfl rfl).trans ((hq_32.i9 66 24 rfl rfl).trans (rfl)))))))
            have g_204 : (G_121.1 66 4).toInt = (G_3.1 66 4).toInt := (congrArg Int32.toInt (show G_121.1 66 4 = (G_3.1 66 4) from ((hq_122.i9 66 4 rfl rfl).trans ((hq_45.i9 66 4 rfl rfl).trans ((hq_37.i9 66 4 rfl rfl).trans ((hq_32.i9 66 4 rfl rfl).trans (rfl)))))))
            have g_205 : (G_121.1 66 6).toInt = (G_3.1 66 6).toInt := (congrArg Int32.toInt (show G_121.1 66 6 = (G_3.1 66 6) from ((hq_122.i9 66 6 rfl rfl).trans ((hq_45.i9 66 6 rfl rfl).trans ((hq_37.i9 66 6 rfl rfl).trans ((hq_32.i9 66 6 rfl rfl).trans (rfl)))))))
            exact W.vret hx hb hr (fun t ht _ => ⟨⟨G_121, rfl, (Q_unit_mk ⟨hB_G_121, hF, ((by first | exact ⟨(by first | exact ok_347 f_16 g_202 | omega), ⟨(fun h9 => ⟨(by first | exact ok_796 hun.1 g_198 | omega), ⟨((by first | (clear hnf b_10 b_12 hn_18 f_14 f_15 f_17 d_9 d_10 b_27 f_40 c_41 f_48 hp_46 c_49 g_204 g_205; omega) | omega)), ⟨(by first | exact ok_798 f_15.2.2.1 g_196 g_201 g_203 | omega), ⟨(by first | exact ok_876 f_15.2.2.2.1 g_21 g_199 g_202 | omega), ⟨(by first | exact ok_877 f_15.2.2.2.2.1 f_15.2.2.2.2.2.2.2 b_23.1 c_34 g_202 | omega), ⟨((by first | (clear hnf b_10 b_12 hn_18 f_14 f_15 f_17 d_9 d_10 b_27 f_40 c_41 hp_46 g_204 g_205; omega) | omega)), ⟨(by first | exact ok_867 f_15.2.2.2.2.2.2.2 b_23.1 c_34 g_203 | omega), ((by first | (clear hnf b_10 b_12 hn_18 f_14 f_15 f_17 d_9 d_10 b_27 f_40 c_41 hp_46 g_204 g_205; omega) | omega))⟩⟩⟩⟩⟩⟩⟩), ⟨(by first | exact ok_347 f_17.1 g_204 | omega), (fun h9 => by have q0_ := d_10 (by first | (clear hnf hun b_1 u_2 b_9 b_10 b_11 hn_18 f_14 f_15 f_16 f_17 d_1 d_2 d_3 d_4 d_5 d_6 d_7 d_8 d_10 g_20 g_21 g_22 b_23 b_24 b_25 b_26 u_28 c_34 f_40 c_41 g_42 f_48 hp_46 c_49 hp_123 b_125 c_126 g_196 g_198 g_199 g_200 g_201 g_202 g_203 g_205; omega) | omega); (first | (clear hnf hun b_1 u_2 b_9 b_10 b_11 b_12 hn_18 f_14 f_15 f_16 f_17 d_1 d_2 d_3 d_4 d_5 d_6 d_7 d_8 d_9 d_10 g_20 g_21 g_22 b_23 b_24 b_25 b_26 b_27 u_28 c_34 f_40 g_42 f_48 hp_46 c_49 hp_123 b_125 c_126 g_196 g_198 g_199 g_200 g_201 g_202 g_203 g_204; omega) | omega))⟩⟩⟩ | omega)), ⟨x_7, G_3, hX_8, f_14, f_15, f_16, f_17, hB_G_3, hq_4, ⟨G_30, hX_33, hB_G_30, hq_32, (Or.inl ⟨c_34, ⟨r_35, G_36, hX_39, (Or.inl ⟨c_41, ⟨r_43, G_44, hX_47, (Or.inr ⟨c_49, ⟨G_121, hX_124, (Or.inr ⟨c_126, rfl⟩)⟩⟩)⟩⟩)⟩⟩)⟩⟩⟩), wd_t ht hW⟩, hS.F ht⟩) hS.2.2 dX12_unit_145
      · have c_41 : (G_3.1 66 6).toInt ≠ 2 := xI_ne rfl rfl c_41
        refine lv_iload_n hx hb dX12_unit_122 rfl (lv_at hl 0 rfl) ?_
        refine lv_if_lt (tgt := 133) hx hb dX12_unit_123 rfl (fun c_206 => ?_) (fun c_206 => ?_)
        · have c_206 : r_35.toInt < 0 := xI_lt rfl rfl c_206
          refine lv_aload_n hx hb dX12_unit_133 rfl (lv_at hl 1 rfl) ?_
          refine ic_2 hx hb dX12_unit_134 ?_
          have qc_207 : (2 : Int32).toInt = 2 := rfl
          refine S_callv (va_runV (As := [.int 2]) (rest := []) ⟨hx, hb, hml, hown, hts⟩ (n_wrong l D k A a z G_36 2 ⟨by decide, by decide⟩) (cwV 1 hts (gd_V hgd m1670 m1672 m59 m131 m1673) rfl rfl rfl hd_X12_wrong ⟨Nat.le_of_ble_eq_true rfl, Nat.le_of_ble_eq_true rfl⟩) (pre_W hW hB_G_36 hK hZ hS kd_66 rfl) rfl rfl hl.1 rfl (lv_room (Nat.le_of_ble_eq_true rfl)) dX12_unit_135 ⟨Nat.le_of_ble_eq_true rfl, Nat.le_of_ble_eq_true rfl⟩) hS (fun G_209 H locs hpo hW hS => ?_)
          have hX_212 : Q_wrong 2 G_36 G_209 := hpo
          obtain ⟨hB_G_209, hq_210, hp_211, -⟩ := hpo
          have hF := hF.call9 hq_210 rfl rfl
          refine lv_aload_n hx hb dX12_unit_138 rfl (lv_at hl 1 rfl) ?_
          have b_213 : 0 ≤ (G_209.1 66 2).toInt ∧ (G_209.1 66 2).toInt ≤ 4 := bd_66_2 hB_G_209
          refine S_getI (v := (G_209.1 66 2)) (C := RX12) (T := TX12) (N := 89) hx hb hg iX12 hown hK hW kd_66 rfl 2 (lt_b rfl) (hg (Cond.fieldLink RX12 218 "SlabWalkModel" "fault" "I") m1316) (fun _ h9 => h9) rfl rfl dX12_unit_139 ?_
          refine lv_if_le (tgt := 146) hx hb dX12_unit_142 rfl (fun c_214 => ?_) (fun c_214 => ?_)
          · have c_214 : (G_209.1 66 2).toInt ≤ 0 := xI_le rfl rfl c_214
            refine lv_aload_n hx hb dX12_unit_146 rfl (lv_at hl 1 rfl) ?_
            have g_215 : (G_209.1 66 23).toInt = (G_3.1 66 23).toInt := (congrArg Int32.toInt (show G_209.1 66 23 = (G_3.1 66 23) from ((hq_210.i9 66 23 rfl rfl).trans ((hq_37.i9 66 23 rfl rfl).trans ((hq_32.i9 66 23 rfl rfl).trans (rfl))))))
            have g_216 : (G_209.1 66 23).toInt = (G_3.1 66 23).toInt := (congrArg Int32.toInt (show G_209.1 66 23 = (G_3.1 66 23) from ((hq_210.i9 66 23 rfl rfl).trans ((hq_37.i9 66 23 rfl rfl).trans ((hq_32.i9 66 23 rfl rfl).trans (rfl))))))
            refine S_callv (va_runV (As := []) (rest := []) ⟨hx, hb, hml, hown, hts⟩ (n_countUnit l D k A a z G_209  ((by first | exact ok_860 f_15.2.2.2.2.1 g_215 | omega))) (cwV 0 hts (gd_V hgd m1733 m1735 m74 m131 m1736) rfl rfl rfl hd_X12_countUnit ⟨Nat.le_of_ble_eq_true rfl, Nat.le_of_ble_eq_true rfl⟩) (pre_W hW hB_G_209 hK hZ hS kd_66 rfl) rfl rfl hl.1 rfl (lv_room (Nat.le_of_ble_eq_true rfl)) dX12_unit_147 ⟨Nat.le_of_ble_eq_true rfl, Nat.le_of_ble_eq_true rfl⟩) hS (fun G_218 H locs hpo hW hS => ?_)
            have hX_221 : Q_countUnit G_209 G_218 := hpo
            obtain ⟨hB_G_218, hq_219, hp_220, -⟩ := hpo
            have hF := hF.call9 hq_219 rfl rfl
            refine lv_aload_n hx hb dX12_unit_150 rfl (lv_at hl 1 rfl) ?_
            refine lv_iload_n hx hb dX12_unit_151 rfl (lv_at hl 0 rfl) ?_
            refine lv_if_ge (tgt := 159) hx hb dX12_unit_152 rfl (fun c_222 => ?_) (fun c_222 => ?_)
            · have c_222 : 0 ≤ r_35.toInt := xI_le rfl rfl c_222
              exfalso; first | exact ok_870 c_206 c_222 | omega
            · have c_222 : r_35.toInt < 0 := xI_nle rfl rfl c_222
              refine ic_0 hx hb dX12_unit_155 ?_
              refine lv_goto (tgt := 160) hx hb dX12_unit_156 rfl ?_
              refine lv_iload_n hx hb dX12_unit_160 rfl (lv_at hl 0 rfl) ?_
              refine lv_if_ge (tgt := 171) hx hb dX12_unit_161 rfl (fun c_223 => ?_) (fun c_223 => ?_)
              · have c_223 : 0 ≤ r_35.toInt := xI_le rfl rfl c_223
                exfalso; first | exact ok_875 hp_211 c_214 | omega
              · have c_223 : r_35.toInt < 0 := xI_nle rfl rfl c_223
                refine lv_aload_n hx hb dX12_unit_164 rfl (lv_at hl 1 rfl) ?_
                refine S_getI (v := (G_3.1 66 8)) (C := RX12) (T := TX12) (N := 89) hx hb hg iX12 hown hK hW kd_66 rfl 8 (lt_b rfl) (hg (Cond.fieldLink RX12 202 "SlabWalkModel" "number" "I") m1322) (fun _ h9 => h9) rfl ((hq_219.i9 66 8 rfl rfl).trans ((hq_210.i9 66 8 rfl rfl).trans ((hq_37.i9 66 8 rfl rfl).trans (hq_32.i9 66 8 rfl rfl)))) dX12_unit_165 ?_
                refine lv_goto (tgt := 172) hx hb dX12_unit_168 rfl ?_
                have fr_224 : Fr [75] [(66, 2), (66, 3), (66, 4), (66, 6), (66, 7), (66, 8), (66, 9), (66, 20), (66, 21), (66, 23), (66, 24)] G G_218 := (Fr.call9 (rs := [75]) (fs := [(66, 2), (66, 3), (66, 4), (66, 6), (66, 7), (66, 8), (66, 9), (66, 20), (66, 21), (66, 23), (66, 24)]) (Fr.call9 (rs := [75]) (fs := [(66, 2), (66, 3), (66, 4), (66, 6), (66, 7), (66, 8), (66, 9), (66, 20), (66, 21), (66, 23), (66, 24)]) (Fr.call9 (rs := [75]) (fs := [(66, 2), (66, 3), (66, 4), (66, 6), (66, 7), (66, 8), (66, 9), (66, 20), (66, 21), (66, 23), (66, 24)]) (Fr.call9 (rs := [75]) (fs := [(66, 2), (66, 3), (66, 4), (66, 6), (66, 7), (66, 8), (66, 9), (66, 20), (66, 21), (66, 23), (66, 24)]) (Fr.call9 (rs := [75]) (fs := [(66, 2), (66, 3), (66, 4), (66, 6), (66, 7), (66, 8), (66, 9), (66, 20), (66, 21), (66, 23), (66, 24)]) Fr.rf hq_4 rfl rfl) hq_32 rfl rfl) hq_37 rfl rfl) hq_210 rfl rfl) hq_219 rfl rfl)
                have g_225 : gM G_218 = gM G := gM_fr fr_224 (gr_q rfl) (gf_q rfl)
                have qc_226 : (0 : Int32).toInt = 0 := rfl
                have g_227 : gC G_218 = gC G := gC_fr fr_224 (gr_q rfl) (gf_q rfl)
                have g_228 : gD G_218 = gD G := gD_fr fr_224 (gr_q rfl) (gf_q rfl)
                refine S_callv (va_runV (As := [.int 0, .int (G_3.1 66 8)]) (rest := []) ⟨hx, hb, hml, hown, hts⟩ (n_add l D k A a z G_218 0 (G_3.1 66 8) ⟨by decide, by decide⟩ ((by first | exact ok_861 hun.2.2.2.2.1 hun.2.2.2.2.2.2 b_1.1 g_225 | omega))) (cwV 2 hts (gd_V hgd m1741 m1743 m76 m131 m1744) rfl rfl rfl hd_X12_add ⟨Nat.le_of_ble_eq_true rfl, Nat.le_of_ble_eq_true rfl⟩) (pre_W hW hB_G_218 hK hZ hS kd_66 rfl) rfl rfl hl.1 rfl (lv_room (Nat.le_of_ble_eq_true rfl)) dX12_unit_172 ⟨Nat.le_of_ble_eq_true rfl, Nat.le_of_ble_eq_true rfl⟩) hS (fun G_230 H locs hpo hW hS => ?_)
                have hX_233 : Q_add 0 (G_3.1 66 8) G_218 G_230 := hpo
                obtain ⟨hB_G_230, hq_231, ⟨d_40, d_41, d_42, d_43, d_44⟩, -⟩ := hpo
                have hF := hF.call9 hq_231 rfl rfl
                refine lv_aload_n hx hb dX12_unit_175 rfl (lv_at hl 1 rfl) ?_
                have g_234 : (G_230.1 66 4).toInt = (G_3.1 66 4).toInt := (congrArg Int32.toInt (show G_230.1 66 4 = (G_3.1 66 4) from ((hq_231.i9 66 4 rfl rfl).trans ((hq_219.i9 66 4 rfl rfl).trans ((hq_210.i9 66 4 rfl rfl).trans ((hq_37.i9 66 4 rfl rfl).trans ((hq_32.i9 66 4 rfl rfl).trans (rfl))))))))
                have g_235 : (G_230.1 66 6).toInt = (G_3.1 66 6).toInt := (congrArg Int32.toInt (show G_230.1 66 6 = (G_3.1 66 6) from ((hq_231.i9 66 6 rfl rfl).trans ((hq_219.i9 66 6 rfl rfl).trans ((hq_210.i9 66 6 rfl rfl).trans ((hq_37.i9 66 6 rfl rfl).trans ((hq_32.i9 66 6 rfl rfl).trans (rfl))))))))
                refine S_callv (va_runV (As := []) (rest := []) ⟨hx, hb, hml, hown, hts⟩ (n_token l D k A a z G_230  ) (cwV 0 hts (gd_V hgd m1602 m1604 m50 m131 m1605) rfl rfl rfl hd_X12_token ⟨Nat.le_of_ble_eq_true rfl, Nat.le_of_ble_eq_true rfl⟩) (pre_W hW hB_G_230 hK hZ hS kd_66 rfl) rfl rfl hl.1 rfl (lv_room (Nat.le_of_ble_eq_true rfl)) dX12_unit_176 ⟨Nat.le_of_ble_eq_true rfl, Nat.le_of_ble_eq_true rfl⟩) hS (fun G_237 H locs hpo hW hS => ?_)
                have hX_240 : Q_token G_230 G_237 := hpo
                obtain ⟨hB_G_237, hq_238, ⟨d_45, d_46⟩, -⟩ := hpo
                have hF := hF.call9 hq_238 rfl rfl
                have fr_241 : Fr [69, 70, 71] [(66, 2), (66, 3), (66, 4), (66, 6), (66, 7), (66, 8), (66, 9), (66, 21), (66, 23)] G_3 G_237 := (Fr.call9 (rs := [69, 70, 71]) (fs := [(66, 2), (66, 3), (66, 4), (66, 6), (66, 7), (66, 8), (66, 9), (66, 21), (66, 23)]) (Fr.call9 (rs := [69, 70, 71]) (fs := [(66, 2), (66, 3), (66, 4), (66, 6), (66, 7), (66, 8), (66, 9), (66, 21), (66, 23)]) (Fr.call9 (rs := [69, 70, 71]) (fs := [(66, 2), (66, 3), (66, 4), (66, 6), (66, 7), (66, 8), (66, 9), (66, 21), (66, 23)]) (Fr.call9 (rs := [69, 70, 71]) (fs := [(66, 2), (66, 3), (66, 4), (66, 6), (66, 7), (66, 8), (66, 9), (66, 21), (66, 23)]) (Fr.call9 (rs := [69, 70, 71]) (fs := [(66, 2), (66, 3), (66, 4), (66, 6), (66, 7), (66, 8), (66, 9), (66, 21), (66, 23)]) (Fr.call9 (rs := [69, 70, 71]) (fs := [(66, 2), (66, 3), (66, 4), (66, 6), (66, 7), (66, 8), (66, 9), (66, 21), (66, 23)]) Fr.rf hq_32 rfl rfl) hq_37 rfl rfl) hq_210 rfl rfl) hq_219 rfl rfl) hq_231 rfl rfl) hq_238 rfl rfl)
                have g_242 : gB G_237 = gB G_3 := gB_fr fr_241 (gr_q rfl) (gf_q rfl)
                have fr_243 : Fr [] [(66, 4), (66, 6), (66, 7), (66, 8), (66, 9)] G_230 G_237 := (Fr.call9 (rs := []) (fs := [(66, 4), (66, 6), (66, 7), (66, 8), (66, 9)]) Fr.rf hq_238 rfl rfl)
                have g_244 : gC G_237 = gC G_230 := gC_fr fr_243 (gr_q rfl) (gf_q rfl)
                have g_245 : gD G_237 = gD G_230 := gD_fr fr_243 (gr_q rfl) (gf_q rfl)
                have g_246 : gM G_237 = gM G_230 := gM_fr fr_243 (gr_q rfl) (gf_q rfl)
                have g_247 : (G_237.1 66 2).toInt = (G_209.1 66 2).toInt := (congrArg Int32.toInt (show G_237.1 66 2 = (G_209.1 66 2) from ((hq_238.i9 66 2 rfl rfl).trans ((hq_231.i9 66 2 rfl rfl).trans ((hq_219.i9 66 2 rfl rfl).trans (rfl))))))
                have g_248 : (G_237.1 66 20).toInt = (G_3.1 66 20).toInt := (congrArg Int32.toInt (show G_237.1 66 20 = (G_3.1 66 20) from ((hq_238.i9 66 20 rfl rfl).trans ((hq_231.i9 66 20 rfl rfl).trans ((hq_219.i9 66 20 rfl rfl).trans ((hq_210.i9 66 20 rfl rfl).trans ((hq_37.i9 66 20 rfl rfl).trans ((hq_32.i9 66 20 rfl rfl).trans (rfl)))))))))
                have b_249 : 0 ≤ (G_218.1 66 23).toInt ∧ (G_218.1 66 23).toInt ≤ 40 := bd_66_23 hB_G_218
                have g_250 : (G_237.1 66 23).toInt = (G_218.1 66 23).toInt := (congrArg Int32.toInt (show G_237.1 66 23 = (G_218.1 66 23) from ((hq_238.i9 66 23 rfl rfl).trans (hq_231.i9 66 23 rfl rfl))))
                have g_251 : (G_237.1 66 24).toInt = (G_3.1 66 24).toInt := (congrArg Int32.toInt (show G_237.1 66 24 = (G_3.1 66 24) from ((hq_238.i9 66 24 rfl rfl).trans ((hq_231.i9 66 24 rfl rfl).trans ((hq_219.i9 66 24 rfl rfl).trans ((hq_210.i9 66 24 rfl rfl).trans ((hq_37.i9 66 24 rfl rfl).trans ((hq_32.i9 66 24 rfl rfl).trans (rfl)))))))))
                have b_252 : 0 ≤ (G_237.1 66 4).toInt ∧ (G_237.1 66 4).toInt ≤ 1600 := bd_66_4 hB_G_237
                exact W.vret hx hb hr (fun t ht _ => ⟨⟨G_237, rfl, (Q_unit_mk ⟨hB_G_237, hF, ((by first | exact ⟨(by first | exact ok_862 hun.2.2.2.2.1 f_16 g_215 hp_220 b_249.1 g_250 | omega), ⟨(fun h9 => ⟨((by first | (clear hnf b_1 u_2 b_9 b_10 b_11 b_12 hn_18 f_14 f_15 f_16 f_17 d_5 d_9 d_10 b_23 b_25 b_27 c_34 f_40 c_41 c_206 c_222 c_223 g_234 g_235 d_45 d_46 b_249 b_252; omega) | omega)), ⟨(by first | exact ok_871 f_15.2.1 g_21 qc_226 g_228 d_41 g_242 g_245 | omega), ⟨(by first | exact ok_798 f_15.2.2.1 g_242 g_248 g_251 | omega), ⟨(by first | exact ok_872 hun.2.2.2.1 hun.2.2.2.2.1 f_15.2.2.2.1 g_21 g_215 hp_220 qc_226 g_228 d_41 g_245 b_249.1 g_250 | omega), ⟨((by first | (clear hnf b_1 u_2 b_9 b_10 b_12 hn_18 f_14 f_15 f_17 d_9 d_10 b_27 f_40 c_41 c_206 c_222 c_223 g_234 g_235 d_45 d_46 b_252; omega) | omega)), ⟨(by first | exact ok_866 f_15.2.2.2.2.2.1 f_15.2.2.2.2.2.2.1 g_22 g_215 hp_220 g_225 d_40 g_246 g_248 g_250 | omega), ⟨(by first | exact ok_874 f_15.2.2.2.2.2.1 f_15.2.2.2.2.2.2.2 b_23.1 c_34 g_251 | omega), (by first | exact ok_868 hun.2.2.2.2.1 f_16 g_215 hp_220 b_249.1 g_250 | omega)⟩⟩⟩⟩⟩⟩⟩), ⟨(by first | exact ok_869 b_12.2 f_17.1 g_234 d_45 b_252.1 | omega), (fun h9 => by have q0_ := d_10 (by first | (clear hnf hun b_1 u_2 b_9 b_10 b_11 hn_18 f_14 f_15 f_16 f_17 d_1 d_2 d_3 d_4 d_5 d_6 d_7 d_8 d_10 g_20 g_21 g_22 b_23 b_24 b_25 b_26 u_28 c_34 f_40 c_41 c_206 hp_211 b_213 c_214 g_215 g_216 hp_220 c_222 c_223 g_225 g_227 g_228 d_40 d_41 d_42 d_43 d_44 g_235 d_46 g_242 g_244 g_245 g_246 g_247 g_248 b_249 g_250 g_251; omega) | omega); have q1_ := d_46 (by first | (clear hnf hun b_1 u_2 b_9 b_10 b_11 hn_18 f_14 f_15 f_16 f_17 d_1 d_2 d_3 d_4 d_5 d_6 d_7 d_8 d_10 g_20 g_21 g_22 b_23 b_24 b_25 b_26 u_28 c_34 f_40 c_41 c_206 hp_211 b_213 c_214 g_215 g_216 hp_220 c_222 c_223 g_225 g_227 g_228 d_40 d_41 d_42 d_43 d_44 g_235 d_46 g_242 g_244 g_245 g_246 g_247 g_248 b_249 g_250 g_251; omega) | omega); (first | (clear hnf hun b_1 u_2 b_9 b_10 b_11 b_12 hn_18 f_14 f_15 f_16 f_17 d_1 d_2 d_3 d_4 d_5 d_6 d_7 d_8 d_9 d_10 g_20 g_21 g_22 b_23 b_24 b_25 b_26 b_27 u_28 c_34 f_40 c_41 c_206 hp_211 b_213 c_214 g_215 g_216 hp_220 c_222 c_223 g_225 g_227 g_228 d_40 d_41 d_42 d_43 d_44 g_234 d_45 d_46 g_242 g_244 g_245 g_246 g_247 g_248 b_249 g_250 g_251 b_252; omega) | omega))⟩⟩⟩ | omega)), ⟨x_7, G_3, hX_8, f_14, f_15, f_16, f_17, hB_G_3, hq_4, ⟨G_30, hX_33, hB_G_30, hq_32, (Or.inl ⟨c_34, ⟨r_35, G_36, hX_39, (Or.inr ⟨c_41, (Or.inl ⟨c_206, ⟨G_209, hX_212, (Or.inl ⟨c_214, ⟨G_218, hX_221, ⟨G_230, hX_233, ⟨G_237, hX_240, rfl⟩⟩⟩⟩)⟩⟩)⟩)⟩⟩)⟩⟩⟩), wd_t ht hW⟩, hS.F ht⟩) hS.2.2 dX12_unit_179
          · have c_214 : 0 < (G_209.1 66 2).toInt := xI_nle rfl rfl c_214
            have fr_253 : Fr [] [(66, 2), (66, 3)] G_3 G_209 := (Fr.call9 (rs := []) (fs := [(66, 2), (66, 3)]) (Fr.call9 (rs := []) (fs := [(66, 2), (66, 3)]) (Fr.call9 (rs := []) (fs := [(66, 2), (66, 3)]) Fr.rf hq_32 rfl rfl) hq_37 rfl rfl) hq_210 rfl rfl)
            have g_254 : gB G_209 = gB G_3 := gB_fr fr_253 (gr_q rfl) (gf_q rfl)
            have fr_255 : Fr [75] [(66, 2), (66, 3), (66, 4), (66, 6), (66, 7), (66, 8), (66, 9), (66, 20), (66, 21), (66, 23), (66, 24)] G G_209 := (Fr.call9 (rs := [75]) (fs := [(66, 2), (66, 3), (66, 4), (66, 6), (66, 7), (66, 8), (66, 9), (66, 20), (66, 21), (66, 23), (66, 24)]) (Fr.call9 (rs := [75]) (fs := [(66, 2), (66, 3), (66, 4), (66, 6), (66, 7), (66, 8), (66, 9), (66, 20), (66, 21), (66, 23), (66, 24)]) (Fr.call9 (rs := [75]) (fs := [(66, 2), (66, 3), (66, 4), (66, 6), (66, 7), (66, 8), (66, 9), (66, 20), (66, 21), (66, 23), (66, 24)]) (Fr.call9 (rs := [75]) (fs := [(66, 2), (66, 3), (66, 4), (66, 6), (66, 7), (66, 8), (66, 9), (66, 20), (66, 21), (66, 23), (66, 24)]) Fr.rf hq_4 rfl rfl) hq_32 rfl rfl) hq_37 rfl rfl) hq_210 rfl rfl)
            have g_256 : gC G_209 = gC G := gC_fr fr_255 (gr_q rfl) (gf_q rfl)
            have g_257 : gD G_209 = gD G := gD_fr fr_255 (gr_q rfl) (gf_q rfl)
            have g_258 : gM G_209 = gM G := gM_fr fr_255 (gr_q rfl) (gf_q rfl)
            have g_259 : (G_209.1 66 20).toInt = (G_3.1 66 20).toInt := (congrArg Int32.toInt (show G_209.1 66 20 = (G_3.1 66 20) from ((hq_210.i9 66 20 rfl rfl).trans ((hq_37.i9 66 20 rfl rfl).trans ((hq_32.i9 66 20 rfl rfl).trans (rfl))))))
            have g_260 : (G_209.1 66 23).toInt = (G_3.1 66 23).toInt := (congrArg Int32.toInt (show G_209.1 66 23 = (G_3.1 66 23) from ((hq_210.i9 66 23 rfl rfl).trans ((hq_37.i9 66 23 rfl rfl).trans ((hq_32.i9 66 23 rfl rfl).trans (rfl))))))
            have g_261 : (G_209.1 66 24).toInt = (G_3.1 66 24).toInt := (congrArg Int32.toInt (show G_209.1 66 24 = (G_3.1 66 24) from ((hq_210.i9 66 24 rfl rfl).trans ((hq_37.i9 66 24 rfl rfl).trans ((hq_32.i9 66 24 rfl rfl).trans (rfl))))))
            have g_262 : (G_209.1 66 4).toInt = (G_3.1 66 4).toInt := (congrArg Int32.toInt (show G_209.1 66 4 = (G_3.1 66 4) from ((hq_210.i9 66 4 rfl rfl).trans ((hq_37.i9 66 4 rfl rfl).trans ((hq_32.i9 66 4 rfl rfl).trans (rfl))))))
            have g_263 : (G_209.1 66 6).toInt = (G_3.1 66 6).toInt := (congrArg Int32.toInt (show G_209.1 66 6 = (G_3.1 66 6) from ((hq_210.i9 66 6 rfl rfl).trans ((hq_37.i9 66 6 rfl rfl).trans ((hq_32.i9 66 6 rfl rfl).trans (rfl))))))
            exact W.vret hx hb hr (fun t ht _ => ⟨⟨G_209, rfl, (Q_unit_mk ⟨hB_G_209, hF, ((by first | exact ⟨(by first | exact ok_347 f_16 g_260 | omega), ⟨(fun h9 => ⟨(by first | exact ok_796 hun.1 g_256 | omega), ⟨((by first | (clear hnf b_10 b_12 hn_18 f_14 f_15 f_17 d_9 d_10 b_27 f_40 c_41 c_206 g_262 g_263; omega) | omega)), ⟨(by first | exact ok_798 f_15.2.2.1 g_254 g_259 g_261 | omega), ⟨(by first | exact ok_876 f_15.2.2.2.1 g_21 g_257 g_260 | omega), ⟨(by first | exact ok_877 f_15.2.2.2.2.1 f_15.2.2.2.2.2.2.2 b_23.1 c_34 g_260 | omega), ⟨((by first | (clear hnf b_10 b_12 hn_18 f_14 f_15 f_17 d_9 d_10 b_27 f_40 c_41 c_206 g_262 g_263; omega) | omega)), ⟨(by first | exact ok_867 f_15.2.2.2.2.2.2.2 b_23.1 c_34 g_261 | omega), ((by first | (clear hnf b_10 b_12 hn_18 f_14 f_15 f_17 d_9 d_10 b_27 f_40 c_41 c_206 g_262 g_263; omega) | omega))⟩⟩⟩⟩⟩⟩⟩), ⟨(by first | exact ok_347 f_17.1 g_262 | omega), (fun h9 => by have q0_ := d_10 (by first | (clear hnf hun b_1 u_2 b_9 b_10 b_11 hn_18 f_14 f_15 f_16 f_17 d_1 d_2 d_3 d_4 d_5 d_6 d_7 d_8 d_10 g_20 g_21 g_22 b_23 b_24 b_25 b_26 u_28 c_34 f_40 c_41 c_206 hp_211 b_213 c_214 g_254 g_256 g_257 g_258 g_259 g_260 g_261 g_263; omega) | omega); (first | (clear hnf hun b_1 u_2 b_9 b_10 b_11 b_12 hn_18 f_14 f_15 f_16 f_17 d_1 d_2 d_3 d_4 d_5 d_6 d_7 d_8 d_9 d_10 g_20 g_21 g_22 b_23 b_24 b_25 b_26 b_27 u_28 c_34 f_40 c_41 c_206 hp_211 b_213 c_214 g_254 g_256 g_257 g_258 g_259 g_260 g_261 g_262; omega) | omega))⟩⟩⟩ | omega)), ⟨x_7, G_3, hX_8, f_14, f_15, f_16, f_17, hB_G_3, hq_4, ⟨G_30, hX_33, hB_G_30, hq_32, (Or.inl ⟨c_34, ⟨r_35, G_36, hX_39, (Or.inr ⟨c_41, (Or.inl ⟨c_206, ⟨G_209, hX_212, (Or.inr ⟨c_214, rfl⟩)⟩⟩)⟩)⟩⟩)⟩⟩⟩), wd_t ht hW⟩, hS.F ht⟩) hS.2.2 dX12_unit_145
        · have c_206 : 0 ≤ r_35.toInt := xI_nlt rfl rfl c_206
          refine lv_aload_n hx hb dX12_unit_126 rfl (lv_at hl 1 rfl) ?_
          have g_264 : (G_36.1 66 23).toInt = (G_3.1 66 23).toInt := (congrArg Int32.toInt (show G_36.1 66 23 = (G_3.1 66 23) from ((hq_37.i9 66 23 rfl rfl).trans ((hq_32.i9 66 23 rfl rfl).trans (rfl)))))
          refine S_calli (va_runV (As := []) (rest := []) ⟨hx, hb, hml, hown, hts⟩ (n_isFull l D k A a z G_36  ) (cwV 0 hts (gd_V hgd m1729 m1731 m73 m131 m1732) rfl rfl rfl hd_X12_isFull ⟨Nat.le_of_ble_eq_true rfl, Nat.le_of_ble_eq_true rfl⟩) (pre_W hW hB_G_36 hK hZ hS kd_66 rfl) rfl rfl hl.1 rfl (lv_room (Nat.le_of_ble_eq_true rfl)) dX12_unit_127 ⟨Nat.le_of_ble_eq_true rfl, Nat.le_of_ble_eq_true rfl⟩) hS (fun r_265 G_266 H locs hpo hW hS => ?_)
          have hX_269 : Q_isFull G_36 r_265 G_266 := hpo
          obtain ⟨hB_G_266, hq_267, f_270, hp_268, -⟩ := hpo
          have hF := hF.call9 hq_267 rfl rfl
          refine lv_if_eq (tgt := 138) hx hb dX12_unit_130 rfl (fun c_271 => ?_) (fun c_271 => ?_)
          · have c_271 : r_265.toInt = 0 := xI_eq rfl rfl c_271
            have d_47 := hp_268 c_271
            refine lv_aload_n hx hb dX12_unit_138 rfl (lv_at hl 1 rfl) ?_
            refine S_getI (v := (G_3.1 66 2)) (C := RX12) (T := TX12) (N := 89) hx hb hg iX12 hown hK hW kd_66 rfl 2 (lt_b rfl) (hg (Cond.fieldLink RX12 218 "SlabWalkModel" "fault" "I") m1316) (fun _ h9 => h9) rfl ((hq_267.i9 66 2 rfl rfl).trans ((hq_37.i9 66 2 rfl rfl).trans ((hq_32.i9 66 2 rfl rfl).trans (rfl)))) dX12_unit_139 ?_
            refine lv_if_le (tgt := 146) hx hb dX12_unit_142 rfl (fun c_272 => ?_) (fun c_272 => ?_)
            · have c_272 : (G_3.1 66 2).toInt ≤ 0 := xI_le rfl rfl c_272
              refine lv_aload_n hx hb dX12_unit_146 rfl (lv_at hl 1 rfl) ?_
              have g_273 : (G_266.1 66 23).toInt = (G_3.1 66 23).toInt := (congrArg Int32.toInt (show G_266.1 66 23 = (G_3.1 66 23) from ((hq_267.i9 66 23 rfl rfl).trans ((hq_37.i9 66 23 rfl rfl).trans ((hq_32.i9 66 23 rfl rfl).trans (rfl))))))
              have g_274 : (G_266.1 66 23).toInt = (G_3.1 66 23).toInt := (congrArg Int32.toInt (show G_266.1 66 23 = (G_3.1 66 23) from ((hq_267.i9 66 23 rfl rfl).trans ((hq_37.i9 66 23 rfl rfl).trans ((hq_32.i9 66 23 rfl rfl).trans (rfl))))))
              refine S_callv (va_runV (As := []) (rest := []) ⟨hx, hb, hml, hown, hts⟩ (n_countUnit l D k A a z G_266  ((by first | exact ok_860 f_15.2.2.2.2.1 g_273 | omega))) (cwV 0 hts (gd_V hgd m1733 m1735 m74 m131 m1736) rfl rfl rfl hd_X12_countUnit ⟨Nat.le_of_ble_eq_true rfl, Nat.le_of_ble_eq_true rfl⟩) (pre_W hW hB_G_266 hK hZ hS kd_66 rfl) rfl rfl hl.1 rfl (lv_room (Nat.le_of_ble_eq_true rfl)) dX12_unit_147 ⟨Nat.le_of_ble_eq_true rfl, Nat.le_of_ble_eq_true rfl⟩) hS (fun G_276 H locs hpo hW hS => ?_)
              have hX_279 : Q_countUnit G_266 G_276 := hpo
              obtain ⟨hB_G_276, hq_277, hp_278, -⟩ := hpo
              have hF := hF.call9 hq_277 rfl rfl
              refine lv_aload_n hx hb dX12_unit_150 rfl (lv_at hl 1 rfl) ?_
              refine lv_iload_n hx hb dX12_unit_151 rfl (lv_at hl 0 rfl) ?_
              refine lv_if_ge (tgt := 159) hx hb dX12_unit_152 rfl (fun c_280 => ?_) (fun c_280 => ?_)
              · have c_280 : 0 ≤ r_35.toInt := xI_le rfl rfl c_280
                refine ic_1 hx hb dX12_unit_159 ?_
                refine lv_iload_n hx hb dX12_unit_160 rfl (lv_at hl 0 rfl) ?_
                refine lv_if_ge (tgt := 171) hx hb dX12_unit_161 rfl (fun c_281 => ?_) (fun c_281 => ?_)
                · have c_281 : 0 ≤ r_35.toInt := xI_le rfl rfl c_281
                  refine lv_iload_n hx hb dX12_unit_171 rfl (lv_at hl 0 rfl) ?_
                  have fr_282 : Fr [75] [(66, 2), (66, 3), (66, 4), (66, 6), (66, 7), (66, 8), (66, 9), (66, 20), (66, 21), (66, 23), (66, 24)] G G_276 := (Fr.call9 (rs := [75]) (fs := [(66, 2), (66, 3), (66, 4), (66, 6), (66, 7), (66, 8), (66, 9), (66, 20), (66, 21), (66, 23), (66, 24)]) (Fr.call9 (rs := [75]) (fs := [(66, 2), (66, 3), (66, 4), (66, 6), (66, 7), (66, 8), (66, 9), (66, 20), (66, 21), (66, 23), (66, 24)]) (Fr.call9 (rs := [75]) (fs := [(66, 2), (66, 3), (66, 4), (66, 6), (66, 7), (66, 8), (66, 9), (66, 20), (66, 21), (66, 23), (66, 24)]) (Fr.call9 (rs := [75]) (fs := [(66, 2), (66, 3), (66, 4), (66, 6), (66, 7), (66, 8), (66, 9), (66, 20), (66, 21), (66, 23), (66, 24)]) (Fr.call9 (rs := [75]) (fs := [(66, 2), (66, 3), (66, 4), (66, 6), (66, 7), (66, 8), (66, 9), (66, 20), (66, 21), (66, 23), (66, 24)]) Fr.rf hq_4 rfl rfl) hq_32 rfl rfl) hq_37 rfl rfl) hq_267 rfl rfl) hq_277 rfl rfl)
                  have g_283 : gM G_276 = gM G := gM_fr fr_282 (gr_q rfl) (gf_q rfl)
                  have qc_284 : (1 : Int32).toInt = 1 := rfl
                  have g_285 : gC G_276 = gC G := gC_fr fr_282 (gr_q rfl) (gf_q rfl)
                  have g_286 : gD G_276 = gD G := gD_fr fr_282 (gr_q rfl) (gf_q rfl)
                  refine S_callv (va_runV (As := [.int 1, .int r_35]) (rest := []) ⟨hx, hb, hml, hown, hts⟩ (n_add l D k A a z G_276 1 r_35 ⟨by decide, by decide⟩ ((by first | exact ok_861 hun.2.2.2.2.1 hun.2.2.2.2.2.2 b_1.1 g_283 | omega))) (cwV 2 hts (gd_V hgd m1741 m1743 m76 m131 m1744) rfl rfl rfl hd_X12_add ⟨Nat.le_of_ble_eq_true rfl, Nat.le_of_ble_eq_true rfl⟩) (pre_W hW hB_G_276 hK hZ hS kd_66 rfl) rfl rfl hl.1 rfl (lv_room (Nat.le_of_ble_eq_true rfl)) dX12_unit_172 ⟨Nat.le_of_ble_eq_true rfl, Nat.le_of_ble_eq_true rfl⟩) hS (fun G_288 H locs hpo hW hS => ?_)
                  have hX_291 : Q_add 1 r_35 G_276 G_288 := hpo
                  obtain ⟨hB_G_288, hq_289, ⟨d_48, d_49, d_50, d_51, d_52⟩, -⟩ := hpo
                  have hF := hF.call9 hq_289 rfl rfl
                  refine lv_aload_n hx hb dX12_unit_175 rfl (lv_at hl 1 rfl) ?_
                  have g_292 : (G_288.1 66 4).toInt = (G_3.1 66 4).toInt := (congrArg Int32.toInt (show G_288.1 66 4 = (G_3.1 66 4) from ((hq_289.i9 66 4 rfl rfl).trans ((hq_277.i9 66 4 rfl rfl).trans ((hq_267.i9 66 4 rfl rfl).trans ((hq_37.i9 66 4 rfl rfl).trans ((hq_32.i9 66 4 rfl rfl).trans (rfl))))))))
                  have g_293 : (G_288.1 66 6).toInt = (G_3.1 66 6).toInt := (congrArg Int32.toInt (show G_288.1 66 6 = (G_3.1 66 6) from ((hq_289.i9 66 6 rfl rfl).trans ((hq_277.i9 66 6 rfl rfl).trans ((hq_267.i9 66 6 rfl rfl).trans ((hq_37.i9 66 6 rfl rfl).trans ((hq_32.i9 66 6 rfl rfl).trans (rfl))))))))
                  refine S_callv (va_runV (As := []) (rest := []) ⟨hx, hb, hml, hown, hts⟩ (n_token l D k A a z G_288  ) (cwV 0 hts (gd_V hgd m1602 m1604 m50 m131 m1605) rfl rfl rfl hd_X12_token ⟨Nat.le_of_ble_eq_true rfl, Nat.le_of_ble_eq_true rfl⟩) (pre_W hW hB_G_288 hK hZ hS kd_66 rfl) rfl rfl hl.1 rfl (lv_room (Nat.le_of_ble_eq_true rfl)) dX12_unit_176 ⟨Nat.le_of_ble_eq_true rfl, Nat.le_of_ble_eq_true rfl⟩) hS (fun G_295 H locs hpo hW hS => ?_)
                  have hX_298 : Q_token G_288 G_295 := hpo
                  obtain ⟨hB_G_295, hq_296, ⟨d_53, d_54⟩, -⟩ := hpo
                  have hF := hF.call9 hq_296 rfl rfl
                  have fr_299 : Fr [69, 70, 71] [(66, 4), (66, 6), (66, 7), (66, 8), (66, 9), (66, 21), (66, 23)] G_3 G_295 := (Fr.call9 (rs := [69, 70, 71]) (fs := [(66, 4), (66, 6), (66, 7), (66, 8), (66, 9), (66, 21), (66, 23)]) (Fr.call9 (rs := [69, 70, 71]) (fs := [(66, 4), (66, 6), (66, 7), (66, 8), (66, 9), (66, 21), (66, 23)]) (Fr.call9 (rs := [69, 70, 71]) (fs := [(66, 4), (66, 6), (66, 7), (66, 8), (66, 9), (66, 21), (66, 23)]) (Fr.call9 (rs := [69, 70, 71]) (fs := [(66, 4), (66, 6), (66, 7), (66, 8), (66, 9), (66, 21), (66, 23)]) (Fr.call9 (rs := [69, 70, 71]) (fs := [(66, 4), (66, 6), (66, 7), (66, 8), (66, 9), (66, 21), (66, 23)]) (Fr.call9 (rs := [69, 70, 71]) (fs := [(66, 4), (66, 6), (66, 7), (66, 8), (66, 9), (66, 21), (66, 23)]) Fr.rf hq_32 rfl rfl) hq_37 rfl rfl) hq_267 rfl rfl) hq_277 rfl rfl) hq_289 rfl rfl) hq_296 rfl rfl)
                  have g_300 : gB G_295 = gB G_3 := gB_fr fr_299 (gr_q rfl) (gf_q rfl)
                  have fr_301 : Fr [] [(66, 4), (66, 6), (66, 7), (66, 8), (66, 9)] G_288 G_295 := (Fr.call9 (rs := []) (fs := [(66, 4), (66, 6), (66, 7), (66, 8), (66, 9)]) Fr.rf hq_296 rfl rfl)
                  have g_302 : gC G_295 = gC G_288 := gC_fr fr_301 (gr_q rfl) (gf_q rfl)
                  have g_303 : gD G_295 = gD G_288 := gD_fr fr_301 (gr_q rfl) (gf_q rfl)
                  have g_304 : gM G_295 = gM G_288 := gM_fr fr_301 (gr_q rfl) (gf_q rfl)
                  have g_305 : (G_295.1 66 2).toInt = (G_3.1 66 2).toInt := (congrArg Int32.toInt (show G_295.1 66 2 = (G_3.1 66 2) from ((hq_296.i9 66 2 rfl rfl).trans ((hq_289.i9 66 2 rfl rfl).trans ((hq_277.i9 66 2 rfl rfl).trans ((hq_267.i9 66 2 rfl rfl).trans ((hq_37.i9 66 2 rfl rfl).trans ((hq_32.i9 66 2 rfl rfl).trans (rfl)))))))))
                  have g_306 : (G_295.1 66 20).toInt = (G_3.1 66 20).toInt := (congrArg Int32.toInt (show G_295.1 66 20 = (G_3.1 66 20) from ((hq_296.i9 66 20 rfl rfl).trans ((hq_289.i9 66 20 rfl rfl).trans ((hq_277.i9 66 20 rfl rfl).trans ((hq_267.i9 66 20 rfl rfl).trans ((hq_37.i9 66 20 rfl rfl).trans ((hq_32.i9 66 20 rfl rfl).trans (rfl)))))))))
                  have b_307 : 0 ≤ (G_276.1 66 23).toInt ∧ (G_276.1 66 23).toInt ≤ 40 := bd_66_23 hB_G_276
                  have g_308 : (G_295.1 66 23).toInt = (G_276.1 66 23).toInt := (congrArg Int32.toInt (show G_295.1 66 23 = (G_276.1 66 23) from ((hq_296.i9 66 23 rfl rfl).trans (hq_289.i9 66 23 rfl rfl))))
                  have g_309 : (G_295.1 66 24).toInt = (G_3.1 66 24).toInt := (congrArg Int32.toInt (show G_295.1 66 24 = (G_3.1 66 24) from ((hq_296.i9 66 24 rfl rfl).trans ((hq_289.i9 66 24 rfl rfl).trans ((hq_277.i9 66 24 rfl rfl).trans ((hq_267.i9 66 24 rfl rfl).trans ((hq_37.i9 66 24 rfl rfl).trans ((hq_32.i9 66 24 rfl rfl).trans (rfl)))))))))
                  have b_310 : 0 ≤ (G_295.1 66 4).toInt ∧ (G_295.1 66 4).toInt ≤ 1600 := bd_66_4 hB_G_295
                  exact W.vret hx hb hr (fun t ht _ => ⟨⟨G_295, rfl, (Q_unit_mk ⟨hB_G_295, hF, ((by first | exact ⟨(by first | exact ok_862 hun.2.2.2.2.1 f_16 g_273 hp_278 b_307.1 g_308 | omega), ⟨(fun h9 => ⟨((by first | (clear hnf b_1 u_2 b_9 b_10 b_11 b_12 hn_18 f_14 f_15 f_17 d_9 d_10 b_27 f_40 c_41 c_206 f_270 hp_268 c_280 c_281 g_292 g_293 d_53 d_54 b_310; omega) | omega)), ⟨(by first | exact ok_863 qc_13 f_15.2.1 g_21 g_286 d_49 g_300 g_303 | omega), ⟨(by first | exact ok_798 f_15.2.2.1 g_300 g_306 g_309 | omega), ⟨(by first | exact ok_864 hun.2.2.2.1 hun.2.2.2.2.1 qc_13 f_15.2.2.2.1 g_21 g_273 hp_278 g_286 d_49 g_303 b_307.1 g_308 | omega), ⟨(by first | exact ok_865 f_15.2.2.2.2.1 f_15.2.2.2.2.2.2.2 b_23.1 c_34 g_264 d_47 g_273 hp_278 g_308 | omega), ⟨(by first | exact ok_866 f_15.2.2.2.2.2.1 f_15.2.2.2.2.2.2.1 g_22 g_273 hp_278 g_283 d_48 g_304 g_306 g_308 | omega), ⟨(by first | exact ok_867 f_15.2.2.2.2.2.2.2 b_23.1 c_34 g_309 | omega), (by first | exact ok_868 hun.2.2.2.2.1 f_16 g_273 hp_278 b_307.1 g_308 | omega)⟩⟩⟩⟩⟩⟩⟩), ⟨(by first | exact ok_869 b_12.2 f_17.1 g_292 d_53 b_310.1 | omega), (fun h9 => by have q0_ := d_10 (by first | (clear hnf hun b_1 u_2 b_9 b_10 b_11 hn_18 f_14 f_15 f_16 f_17 d_1 d_2 d_3 d_4 d_5 d_6 d_7 d_8 d_10 g_20 g_21 g_22 b_23 b_24 b_25 b_26 u_28 c_34 f_40 c_41 c_206 g_264 f_270 hp_268 c_271 d_47 c_272 g_273 g_274 hp_278 c_280 c_281 g_283 g_285 g_286 d_48 d_49 d_50 d_51 d_52 g_293 d_54 g_300 g_302 g_303 g_304 g_305 g_306 b_307 g_308 g_309; omega) | omega); have q1_ := d_54 (by first | (clear hnf hun b_1 u_2 b_9 b_10 b_11 hn_18 f_14 f_15 f_16 f_17 d_1 d_2 d_3 d_4 d_5 d_6 d_7 d_8 d_10 g_20 g_21 g_22 b_23 b_24 b_25 b_26 u_28 c_34 f_40 c_41 c_206 g_264 f_270 hp_268 c_271 d_47 c_272 g_273 g_274 hp_278 c_280 c_281 g_283 g_285 g_286 d_48 d_49 d_50 d_51 d_52 g_293 d_54 g_300 g_302 g_303 g_304 g_305 g_306 b_307 g_308 g_309; omega) | omega); (first | (clear hnf hun b_1 u_2 b_9 b_10 b_11 b_12 hn_18 f_14 f_15 f_16 f_17 d_1 d_2 d_3 d_4 d_5 d_6 d_7 d_8 d_9 d_10 g_20 g_21 g_22 b_23 b_24 b_25 b_26 b_27 u_28 c_34 f_40 c_41 c_206 g_264 f_270 hp_268 c_271 d_47 c_272 g_273 g_274 hp_278 c_280 c_281 g_283 g_285 g_286 d_48 d_49 d_50 d_51 d_52 g_292 d_53 d_54 g_300 g_302 g_303 g_304 g_305 g_306 b_307 g_308 g_309 b_310; omega) | omega))⟩⟩⟩ | omega)), ⟨x_7, G_3, hX_8, f_14, f_15, f_16, f_17, hB_G_3, hq_4, ⟨G_30, hX_33, hB_G_30, hq_32, (Or.inl ⟨c_34, ⟨r_35, G_36, hX_39, (Or.inr ⟨c_41, (Or.inr ⟨c_206, ⟨r_265, G_266, hX_269, (Or.inl ⟨c_271, ⟨G_276, hX_279, ⟨G_288, hX_291, ⟨G_295, hX_298, rfl⟩⟩⟩⟩)⟩⟩)⟩)⟩⟩)⟩⟩⟩), wd_t ht hW⟩, hS.F ht⟩) hS.2.2 dX12_unit_179
                · have c_281 : r_35.toInt < 0 := xI_nle rfl rfl c_281
                  exfalso; first | exact ok_528 c_206 c_281 | omega
              · have c_280 : r_35.toInt < 0 := xI_nle rfl rfl c_280
                exfalso; first | exact ok_528 c_206 c_280 | omega
            · have c_272 : 0 < (G_3.1 66 2).toInt := xI_nle rfl rfl c_272
              exfalso; first | exact ok_873 c_34 c_272 | omega
          · have c_271 : r_265.toInt ≠ 0 := xI_ne rfl rfl c_271
            refine lv_aload_n hx hb dX12_unit_133 rfl (lv_at hl 1 rfl) ?_
            refine ic_2 hx hb dX12_unit_134 ?_
            have qc_311 : (2 : Int32).toInt = 2 := rfl
            refine S_callv (va_runV (As := [.int 2]) (rest := []) ⟨hx, hb, hml, hown, hts⟩ (n_wrong l D k A a z G_266 2 ⟨by decide, by decide⟩) (cwV 1 hts (gd_V hgd m1670 m1672 m59 m131 m1673) rfl rfl rfl hd_X12_wrong ⟨Nat.le_of_ble_eq_true rfl, Nat.le_of_ble_eq_true rfl⟩) (pre_W hW hB_G_266 hK hZ hS kd_66 rfl) rfl rfl hl.1 rfl (lv_room (Nat.le_of_ble_eq_true rfl)) dX12_unit_135 ⟨Nat.le_of_ble_eq_true rfl, Nat.le_of_ble_eq_true rfl⟩) hS (fun G_313 H locs hpo hW hS => ?_)
            have hX_316 : Q_wrong 2 G_266 G_313 := hpo
            obtain ⟨hB_G_313, hq_314, hp_315, -⟩ := hpo
            have hF := hF.call9 hq_314 rfl rfl
            refine lv_aload_n hx hb dX12_unit_138 rfl (lv_at hl 1 rfl) ?_
            have b_317 : 0 ≤ (G_313.1 66 2).toInt ∧ (G_313.1 66 2).toInt ≤ 4 := bd_66_2 hB_G_313
            refine S_getI (v := (G_313.1 66 2)) (C := RX12) (T := TX12) (N := 89) hx hb hg iX12 hown hK hW kd_66 rfl 2 (lt_b rfl) (hg (Cond.fieldLink RX12 218 "SlabWalkModel" "fault" "I") m1316) (fun _ h9 => h9) rfl rfl dX12_unit_139 ?_
            refine lv_if_le (tgt := 146) hx hb dX12_unit_142 rfl (fun c_318 => ?_) (fun c_318 => ?_)
            · have c_318 : (G_313.1 66 2).toInt ≤ 0 := xI_le rfl rfl c_318
              refine lv_aload_n hx hb dX12_unit_146 rfl (lv_at hl 1 rfl) ?_
              have g_319 : (G_313.1 66 23).toInt = (G_3.1 66 23).toInt := (congrArg Int32.toInt (show G_313.1 66 23 = (G_3.1 66 23) from ((hq_314.i9 66 23 rfl rfl).trans ((hq_267.i9 66 23 rfl rfl).trans ((hq_37.i9 66 23 rfl rfl).trans ((hq_32.i9 66 23 rfl rfl).trans (rfl)))))))
              have g_320 : (G_313.1 66 23).toInt = (G_3.1 66 23).toInt := (congrArg Int32.toInt (show G_313.1 66 23 = (G_3.1 66 23) from ((hq_314.i9 66 23 rfl rfl).trans ((hq_267.i9 66 23 rfl rfl).trans ((hq_37.i9 66 23 rfl rfl).trans ((hq_32.i9 66 23 rfl rfl).trans (rfl)))))))
              refine S_callv (va_runV (As := []) (rest := []) ⟨hx, hb, hml, hown, hts⟩ (n_countUnit l D k A a z G_313  ((by first | exact ok_860 f_15.2.2.2.2.1 g_319 | omega))) (cwV 0 hts (gd_V hgd m1733 m1735 m74 m131 m1736) rfl rfl rfl hd_X12_countUnit ⟨Nat.le_of_ble_eq_true rfl, Nat.le_of_ble_eq_true rfl⟩) (pre_W hW hB_G_313 hK hZ hS kd_66 rfl) rfl rfl hl.1 rfl (lv_room (Nat.le_of_ble_eq_true rfl)) dX12_unit_147 ⟨Nat.le_of_ble_eq_true rfl, Nat.le_of_ble_eq_true rfl⟩) hS (fun G_322 H locs hpo hW hS => ?_)
              have hX_325 : Q_countUnit G_313 G_322 := hpo
              obtain ⟨hB_G_322, hq_323, hp_324, -⟩ := hpo
              have hF := hF.call9 hq_323 rfl rfl
              refine lv_aload_n hx hb dX12_unit_150 rfl (lv_at hl 1 rfl) ?_
              refine lv_iload_n hx hb dX12_unit_151 rfl (lv_at hl 0 rfl) ?_
              refine lv_if_ge (tgt := 159) hx hb dX12_unit_152 rfl (fun c_326 => ?_) (fun c_326 => ?_)
              · have c_326 : 0 ≤ r_35.toInt := xI_le rfl rfl c_326
                refine ic_1 hx hb dX12_unit_159 ?_
                refine lv_iload_n hx hb dX12_unit_160 rfl (lv_at hl 0 rfl) ?_
                refine lv_if_ge (tgt := 171) hx hb dX12_unit_161 rfl (fun c_327 => ?_) (fun c_327 => ?_)
                · have c_327 : 0 ≤ r_35.toInt := xI_le rfl rfl c_327
                  refine lv_iload_n hx hb dX12_unit_171 rfl (lv_at hl 0 rfl) ?_
                  have fr_328 : Fr [75] [(66, 2), (66, 3), (66, 4), (66, 6), (66, 7), (66, 8), (66, 9), (66, 20), (66, 21), (66, 23), (66, 24)] G G_322 := (Fr.call9 (rs := [75]) (fs := [(66, 2), (66, 3), (66, 4), (66, 6), (66, 7), (66, 8), (66, 9), (66, 20), (66, 21), (66, 23), (66, 24)]) (Fr.call9 (rs := [75]) (fs := [(66, 2), (66, 3), (66, 4), (66, 6), (66, 7), (66, 8), (66, 9), (66, 20), (66, 21), (66, 23), (66, 24)]) (Fr.call9 (rs := [75]) (fs := [(66, 2), (66, 3), (66, 4), (66, 6), (66, 7), (66, 8), (66, 9), (66, 20), (66, 21), (66, 23), (66, 24)]) (Fr.call9 (rs := [75]) (fs := [(66, 2), (66, 3), (66, 4), (66, 6), (66, 7), (66, 8), (66, 9), (66, 20), (66, 21), (66, 23), (66, 24)]) (Fr.call9 (rs := [75]) (fs := [(66, 2), (66, 3), (66, 4), (66, 6), (66, 7), (66, 8), (66, 9), (66, 20), (66, 21), (66, 23), (66, 24)]) (Fr.call9 (rs := [75]) (fs := [(66, 2), (66, 3), (66, 4), (66, 6), (66, 7), (66, 8), (66, 9), (66, 20), (66, 21), (66, 23), (66, 24)]) Fr.rf hq_4 rfl rfl) hq_32 rfl rfl) hq_37 rfl rfl) hq_267 rfl rfl) hq_314 rfl rfl) hq_323 rfl rfl)
                  have g_329 : gM G_322 = gM G := gM_fr fr_328 (gr_q rfl) (gf_q rfl)
                  have qc_330 : (1 : Int32).toInt = 1 := rfl
                  have g_331 : gC G_322 = gC G := gC_fr fr_328 (gr_q rfl) (gf_q rfl)
                  have g_332 : gD G_322 = gD G := gD_fr fr_328 (gr_q rfl) (gf_q rfl)
                  refine S_callv (va_runV (As := [.int 1, .int r_35]) (rest := []) ⟨hx, hb, hml, hown, hts⟩ (n_add l D k A a z G_322 1 r_35 ⟨by decide, by decide⟩ ((by first | exact ok_861 hun.2.2.2.2.1 hun.2.2.2.2.2.2 b_1.1 g_329 | omega))) (cwV 2 hts (gd_V hgd m1741 m1743 m76 m131 m1744) rfl rfl rfl hd_X12_add ⟨Nat.le_of_ble_eq_true rfl, Nat.le_of_ble_eq_true rfl⟩) (pre_W hW hB_G_322 hK hZ hS kd_66 rfl) rfl rfl hl.1 rfl (lv_room (Nat.le_of_ble_eq_true rfl)) dX12_unit_172 ⟨Nat.le_of_ble_eq_true rfl, Nat.le_of_ble_eq_true rfl⟩) hS (fun G_334 H locs hpo hW hS => ?_)
                  have hX_337 : Q_add 1 r_35 G_322 G_334 := hpo
                  obtain ⟨hB_G_334, hq_335, ⟨d_55, d_56, d_57, d_58, d_59⟩, -⟩ := hpo
                  have hF := hF.call9 hq_335 rfl rfl
                  refine lv_aload_n hx hb dX12_unit_175 rfl (lv_at hl 1 rfl) ?_
                  have g_338 : (G_334.1 66 4).toInt = (G_3.1 66 4).toInt := (congrArg Int32.toInt (show G_334.1 66 4 = (G_3.1 66 4) from ((hq_335.i9 66 4 rfl rfl).trans ((hq_323.i9 66 4 rfl rfl).trans ((hq_314.i9 66 4 rfl rfl).trans ((hq_267.i9 66 4 rfl rfl).trans ((hq_37.i9 66 4 rfl rfl).trans ((hq_32.i9 66 4 rfl rfl).trans (rfl)))))))))
                  have g_339 : (G_334.1 66 6).toInt = (G_3.1 66 6).toInt := (congrArg Int32.toInt (show G_334.1 66 6 = (G_3.1 66 6) from ((hq_335.i9 66 6 rfl rfl).trans ((hq_323.i9 66 6 rfl rfl).trans ((hq_314.i9 66 6 rfl rfl).trans ((hq_267.i9 66 6 rfl rfl).trans ((hq_37.i9 66 6 rfl rfl).trans ((hq_32.i9 66 6 rfl rfl).trans (rfl)))))))))
                  refine S_callv (va_runV (As := []) (rest := []) ⟨hx, hb, hml, hown, hts⟩ (n_token l D k A a z G_334  ) (cwV 0 hts (gd_V hgd m1602 m1604 m50 m131 m1605) rfl rfl rfl hd_X12_token ⟨Nat.le_of_ble_eq_true rfl, Nat.le_of_ble_eq_true rfl⟩) (pre_W hW hB_G_334 hK hZ hS kd_66 rfl) rfl rfl hl.1 rfl (lv_room (Nat.le_of_ble_eq_true rfl)) dX12_unit_176 ⟨Nat.le_of_ble_eq_true rfl, Nat.le_of_ble_eq_true rfl⟩) hS (fun G_341 H locs hpo hW hS => ?_)
                  have hX_344 : Q_token G_334 G_341 := hpo
                  obtain ⟨hB_G_341, hq_342, ⟨d_60, d_61⟩, -⟩ := hpo
                  have hF := hF.call9 hq_342 rfl rfl
                  have fr_345 : Fr [69, 70, 71] [(66, 2), (66, 3), (66, 4), (66, 6), (66, 7), (66, 8), (66, 9), (66, 21), (66, 23)] G_3 G_341 := (Fr.call9 (rs := [69, 70, 71]) (fs := [(66, 2), (66, 3), (66, 4), (66, 6), (66, 7), (66, 8), (66, 9), (66, 21), (66, 23)]) (Fr.call9 (rs := [69, 70, 71]) (fs := [(66, 2), (66, 3), (66, 4), (66, 6), (66, 7), (66, 8), (66, 9), (66, 21), (66, 23)]) (Fr.call9 (rs := [69, 70, 71]) (fs := [(66, 2), (66, 3), (66, 4), (66, 6), (66, 7), (66, 8), (66, 9), (66, 21), (66, 23)]) (Fr.call9 (rs := [69, 70, 71]) (fs := [(66, 2), (66, 3), (66, 4), (66, 6), (66, 7), (66, 8), (66, 9), (66, 21), (66, 23)]) (Fr.call9 (rs := [69, 70, 71]) (fs := [(66, 2), (66, 3), (66, 4), (66, 6), (66, 7), (66, 8), (66, 9), (66, 21), (66, 23)]) (Fr.call9 (rs := [69, 70, 71]) (fs := [(66, 2), (66, 3), (66, 4), (66, 6), (66, 7), (66, 8), (66, 9), (66, 21), (66, 23)]) (Fr.call9 (rs := [69, 70, 71]) (fs := [(66, 2), (66, 3), (66, 4), (66, 6), (66, 7), (66, 8), (66, 9), (66, 21), (66, 23)]) Fr.rf hq_32 rfl rfl) hq_37 rfl rfl) hq_267 rfl rfl) hq_314 rfl rfl) hq_323 rfl rfl) hq_335 rfl rfl) hq_342 rfl rfl)
                  have g_346 : gB G_341 = gB G_3 := gB_fr fr_345 (gr_q rfl) (gf_q rfl)
                  have fr_347 : Fr [] [(66, 4), (66, 6), (66, 7), (66, 8), (66, 9)] G_334 G_341 := (Fr.call9 (rs := []) (fs := [(66, 4), (66, 6), (66, 7), (66, 8), (66, 9)]) Fr.rf hq_342 rfl rfl)
                  have g_348 : gC G_341 = gC G_334 := gC_fr fr_347 (gr_q rfl) (gf_q rfl)
                  have g_349 : gD G_341 = gD G_334 := gD_fr fr_347 (gr_q rfl) (gf_q rfl)
                  have g_350 : gM G_341 = gM G_334 := gM_fr fr_347 (gr_q rfl) (gf_q rfl)
                  have g_351 : (G_341.1 66 2).toInt = (G_313.1 66 2).toInt := (congrArg Int32.toInt (show G_341.1 66 2 = (G_313.1 66 2) from ((hq_342.i9 66 2 rfl rfl).trans ((hq_335.i9 66 2 rfl rfl).trans ((hq_323.i9 66 2 rfl rfl).trans (rfl))))))
                  have g_352 : (G_341.1 66 20).toInt = (G_3.1 66 20).toInt := (congrArg Int32.toInt (show G_341.1 66 20 = (G_3.1 66 20) from ((hq_342.i9 66 20 rfl rfl).trans ((hq_335.i9 66 20 rfl rfl).trans ((hq_323.i9 66 20 rfl rfl).trans ((hq_314.i9 66 20 rfl rfl).trans ((hq_267.i9 66 20 rfl rfl).trans ((hq_37.i9 66 20 rfl rfl).trans ((hq_32.i9 66 20 rfl rfl).trans (rfl))))))))))
                  have b_353 : 0 ≤ (G_322.1 66 23).toInt ∧ (G_322.1 66 23).toInt ≤ 40 := bd_66_23 hB_G_322
                  have g_354 : (G_341.1 66 23).toInt = (G_322.1 66 23).toInt := (congrArg Int32.toInt (show G_341.1 66 23 = (G_322.1 66 23) from ((hq_342.i9 66 23 rfl rfl).trans (hq_335.i9 66 23 rfl rfl))))
                  have g_355 : (G_341.1 66 24).toInt = (G_3.1 66 24).toInt := (congrArg Int32.toInt (show G_341.1 66 24 = (G_3.1 66 24) from ((hq_342.i9 66 24 rfl rfl).trans ((hq_335.i9 66 24 rfl rfl).trans ((hq_323.i9 66 24 rfl rfl).trans ((hq_314.i9 66 24 rfl rfl).trans ((hq_267.i9 66 24 rfl rfl).trans ((hq_37.i9 66 24 rfl rfl).trans ((hq_32.i9 66 24 rfl rfl).trans (rfl))))))))))
                  have b_356 : 0 ≤ (G_341.1 66 4).toInt ∧ (G_341.1 66 4).toInt ≤ 1600 := bd_66_4 hB_G_341
                  exact W.vret hx hb hr (fun t ht _ => ⟨⟨G_341, rfl, (Q_unit_mk ⟨hB_G_341, hF, ((by first | exact ⟨(by first | exact ok_862 hun.2.2.2.2.1 f_16 g_319 hp_324 b_353.1 g_354 | omega), ⟨(fun h9 => ⟨((by first | (clear hnf b_1 u_2 b_9 b_10 b_11 b_12 hn_18 f_14 f_15 f_16 f_17 d_5 d_9 d_10 b_23 b_25 b_27 c_34 f_40 c_41 c_206 f_270 hp_268 c_271 c_326 c_327 g_338 g_339 d_60 d_61 b_353 b_356; omega) | omega)), ⟨(by first | exact ok_863 qc_13 f_15.2.1 g_21 g_332 d_56 g_346 g_349 | omega), ⟨(by first | exact ok_798 f_15.2.2.1 g_346 g_352 g_355 | omega), ⟨(by first | exact ok_864 hun.2.2.2.1 hun.2.2.2.2.1 qc_13 f_15.2.2.2.1 g_21 g_319 hp_324 g_332 d_56 g_349 b_353.1 g_354 | omega), ⟨((by first | (clear hnf b_1 u_2 b_9 b_10 b_12 hn_18 f_14 f_15 f_17 d_9 d_10 b_27 f_40 c_41 c_206 hp_268 c_326 c_327 g_338 g_339 d_60 d_61 b_356; omega) | omega)), ⟨(by first | exact ok_866 f_15.2.2.2.2.2.1 f_15.2.2.2.2.2.2.1 g_22 g_319 hp_324 g_329 d_55 g_350 g_352 g_354 | omega), ⟨(by first | exact ok_874 f_15.2.2.2.2.2.1 f_15.2.2.2.2.2.2.2 b_23.1 c_34 g_355 | omega), (by first | exact ok_868 hun.2.2.2.2.1 f_16 g_319 hp_324 b_353.1 g_354 | omega)⟩⟩⟩⟩⟩⟩⟩), ⟨(by first | exact ok_869 b_12.2 f_17.1 g_338 d_60 b_356.1 | omega), (fun h9 => by have q0_ := d_10 (by first | (clear hnf hun b_1 u_2 b_9 b_10 b_11 hn_18 f_14 f_15 f_16 f_17 d_1 d_2 d_3 d_4 d_5 d_6 d_7 d_8 d_10 g_20 g_21 g_22 b_23 b_24 b_25 b_26 u_28 c_34 f_40 c_41 c_206 g_264 f_270 hp_268 c_271 hp_315 b_317 c_318 g_319 g_320 hp_324 c_326 c_327 g_329 g_331 g_332 d_55 d_56 d_57 d_58 d_59 g_339 d_61 g_346 g_348 g_349 g_350 g_351 g_352 b_353 g_354 g_355; omega) | omega); have q1_ := d_61 (by first | (clear hnf hun b_1 u_2 b_9 b_10 b_11 hn_18 f_14 f_15 f_16 f_17 d_1 d_2 d_3 d_4 d_5 d_6 d_7 d_8 d_10 g_20 g_21 g_22 b_23 b_24 b_25 b_26 u_28 c_34 f_40 c_41 c_206 g_264 f_270 hp_268 c_271 hp_315 b_317 c_318 g_319 g_320 hp_324 c_326 c_327 g_329 g_331 g_332 d_55 d_56 d_57 d_58 d_59 g_339 d_61 g_346 g_348 g_349 g_350 g_351 g_352 b_353 g_354 g_355; omega) | omega); (first | (clear hnf hun b_1 u_2 b_9 b_10 b_11 b_12 hn_18 f_14 f_15 f_16 f_17 d_1 d_2 d_3 d_4 d_5 d_6 d_7 d_8 d_9 d_10 g_20 g_21 g_22 b_23 b_24 b_25 b_26 b_27 u_28 c_34 f_40 c_41 c_206 g_264 f_270 hp_268 c_271 hp_315 b_317 c_318 g_319 g_320 hp_324 c_326 c_327 g_329 g_331 g_332 d_55 d_56 d_57 d_58 d_59 g_338 d_60 d_61 g_346 g_348 g_349 g_350 g_351 g_352 b_353 g_354 g_355 b_356; omega) | omega))⟩⟩⟩ | omega)), ⟨x_7, G_3, hX_8, f_14, f_15, f_16, f_17, hB_G_3, hq_4, ⟨G_30, hX_33, hB_G_30, hq_32, (Or.inl ⟨c_34, ⟨r_35, G_36, hX_39, (Or.inr ⟨c_41, (Or.inr ⟨c_206, ⟨r_265, G_266, hX_269, (Or.inr ⟨c_271, ⟨G_313, hX_316, (Or.inl ⟨c_318, ⟨G_322, hX_325, ⟨G_334, hX_337, ⟨G_341, hX_344, rfl⟩⟩⟩⟩)⟩⟩)⟩⟩)⟩)⟩⟩)⟩⟩⟩), wd_t ht hW⟩, hS.F ht⟩) hS.2.2 dX12_unit_179
                · have c_327 : r_35.toInt < 0 := xI_nle rfl rfl c_327
                  exfalso; first | exact ok_528 c_206 c_327 | omega
              · have c_326 : r_35.toInt < 0 := xI_nle rfl rfl c_326
                exfalso; first | exact ok_528 c_206 c_326 | omega
            · have c_318 : 0 < (G_313.1 66 2).toInt := xI_nle rfl rfl c_318
              have fr_357 : Fr [] [(66, 2), (66, 3)] G_3 G_313 := (Fr.call9 (rs := []) (fs := [(66, 2), (66, 3)]) (Fr.call9 (rs := []) (fs := [(66, 2), (66, 3)]) (Fr.call9 (rs := []) (fs := [(66, 2), (66, 3)]) (Fr.call9 (rs := []) (fs := [(66, 2), (66, 3)]) Fr.rf hq_32 rfl rfl) hq_37 rfl rfl) hq_267 rfl rfl) hq_314 rfl rfl)
              have g_358 : gB G_313 = gB G_3 := gB_fr fr_357 (gr_q rfl) (gf_q rfl)
              have fr_359 : Fr [75] [(66, 2), (66, 3), (66, 4), (66, 6), (66, 7), (66, 8), (66, 9), (66, 20), (66, 21), (66, 23), (66, 24)] G G_313 := (Fr.call9 (rs := [75]) (fs := [(66, 2), (66, 3), (66, 4), (66, 6), (66, 7), (66, 8), (66, 9), (66, 20), (66, 21), (66, 23), (66, 24)]) (Fr.call9 (rs := [75]) (fs := [(66, 2), (66, 3), (66, 4), (66, 6), (66, 7), (66, 8), (66, 9), (66, 20), (66, 21), (66, 23), (66, 24)]) (Fr.call9 (rs := [75]) (fs := [(66, 2), (66, 3), (66, 4), (66, 6), (66, 7), (66, 8), (66, 9), (66, 20), (66, 21), (66, 23), (66, 24)]) (Fr.call9 (rs := [75]) (fs := [(66, 2), (66, 3), (66, 4), (66, 6), (66, 7), (66, 8), (66, 9), (66, 20), (66, 21), (66, 23), (66, 24)]) (Fr.call9 (rs := [75]) (fs := [(66, 2), (66, 3), (66, 4), (66, 6), (66, 7), (66, 8), (66, 9), (66, 20), (66, 21), (66, 23), (66, 24)]) Fr.rf hq_4 rfl rfl) hq_32 rfl rfl) hq_37 rfl rfl) hq_267 rfl rfl) hq_314 rfl rfl)
              have g_360 : gC G_313 = gC G := gC_fr fr_359 (gr_q rfl) (gf_q rfl)
              have g_361 : gD G_313 = gD G := gD_fr fr_359 (gr_q rfl) (gf_q rfl)
              have g_362 : gM G_313 = gM G := gM_fr fr_359 (gr_q rfl) (gf_q rfl)
              have g_363 : (G_313.1 66 20).toInt = (G_3.1 66 20).toInt := (congrArg Int32.toInt (show G_313.1 66 20 = (G_3.1 66 20) from ((hq_314.i9 66 20 rfl rfl).trans ((hq_267.i9 66 20 rfl rfl).trans ((hq_37.i9 66 20 rfl rfl).trans ((hq_32.i9 66 20 rfl rfl).trans (rfl)))))))
              have g_364 : (G_313.1 66 23).toInt = (G_3.1 66 23).toInt := (congrArg Int32.toInt (show G_313.1 66 23 = (G_3.1 66 23) from ((hq_314.i9 66 23 rfl rfl).trans ((hq_267.i9 66 23 rfl rfl).trans ((hq_37.i9 66 23 rfl rfl).trans ((hq_32.i9 66 23 rfl rfl).trans (rfl)))))))
              have g_365 : (G_313.1 66 24).toInt = (G_3.1 66 24).toInt := (congrArg Int32.toInt (show G_313.1 66 24 = (G_3.1 66 24) from ((hq_314.i9 66 24 rfl rfl).trans ((hq_267.i9 66 24 rfl rfl).trans ((hq_37.i9 66 24 rfl rfl).trans ((hq_32.i9 66 24 rfl rfl).trans (rfl)))))))
              have g_366 : (G_313.1 66 4).toInt = (G_3.1 66 4).toInt := (congrArg Int32.toInt (show G_313.1 66 4 = (G_3.1 66 4) from ((hq_314.i9 66 4 rfl rfl).trans ((hq_267.i9 66 4 rfl rfl).trans ((hq_37.i9 66 4 rfl rfl).trans ((hq_32.i9 66 4 rfl rfl).trans (rfl)))))))
              have g_367 : (G_313.1 66 6).toInt = (G_3.1 66 6).toInt := (congrArg Int32.toInt (show G_313.1 66 6 = (G_3.1 66 6) from ((hq_314.i9 66 6 rfl rfl).trans ((hq_267.i9 66 6 rfl rfl).trans ((hq_37.i9 66 6 rfl rfl).trans ((hq_32.i9 66 6 rfl rfl).trans (rfl)))))))
              exact W.vret hx hb hr (fun t ht _ => ⟨⟨G_313, rfl, (Q_unit_mk ⟨hB_G_313, hF, ((by first | exact ⟨(by first | exact ok_347 f_16 g_364 | omega), ⟨(fun h9 => ⟨(by first | exact ok_796 hun.1 g_360 | omega), ⟨((by first | (clear hnf b_10 b_12 hn_18 f_14 f_15 f_17 d_9 d_10 b_27 f_40 c_41 c_206 f_270 hp_268 c_271 g_366 g_367; omega) | omega)), ⟨(by first | exact ok_798 f_15.2.2.1 g_358 g_363 g_365 | omega), ⟨(by first | exact ok_876 f_15.2.2.2.1 g_21 g_361 g_364 | omega), ⟨(by first | exact ok_877 f_15.2.2.2.2.1 f_15.2.2.2.2.2.2.2 b_23.1 c_34 g_364 | omega), ⟨((by first | (clear hnf b_10 b_12 hn_18 f_14 f_15 f_17 d_9 d_10 b_27 f_40 c_41 c_206 hp_268 g_366 g_367; omega) | omega)), ⟨(by first | exact ok_867 f_15.2.2.2.2.2.2.2 b_23.1 c_34 g_365 | omega), ((by first | (clear hnf b_10 b_12 hn_18 f_14 f_15 f_17 d_9 d_10 b_27 f_40 c_41 c_206 hp_268 g_366 g_367; omega) | omega))⟩⟩⟩⟩⟩⟩⟩), ⟨(by first | exact ok_347 f_17.1 g_366 | omega), (fun h9 => by have q0_ := d_10 (by first | (clear hnf hun b_1 u_2 b_9 b_10 b_11 hn_18 f_14 f_15 f_16 f_17 d_1 d_2 d_3 d_4 d_5 d_6 d_7 d_8 d_10 g_20 g_21 g_22 b_23 b_24 b_25 b_26 u_28 c_34 f_40 c_41 c_206 g_264 f_270 hp_268 c_271 hp_315 b_317 c_318 g_358 g_360 g_361 g_362 g_363 g_364 g_365 g_367; omega) | omega); (first | (clear hnf hun b_1 u_2 b_9 b_10 b_11 b_12 hn_18 f_14 f_15 f_16 f_17 d_1 d_2 d_3 d_4 d_5 d_6 d_7 d_8 d_9 d_10 g_20 g_21 g_22 b_23 b_24 b_25 b_26 b_27 u_28 c_34 f_40 c_41 c_206 g_264 f_270 hp_268 c_271 hp_315 b_317 c_318 g_358 g_360 g_361 g_362 g_363 g_364 g_365 g_366; omega) | omega))⟩⟩⟩ | omega)), ⟨x_7, G_3, hX_8, f_14, f_15, f_16, f_17, hB_G_3, hq_4, ⟨G_30, hX_33, hB_G_30, hq_32, (Or.inl ⟨c_34, ⟨r_35, G_36, hX_39, (Or.inr ⟨c_41, (Or.inr ⟨c_206, ⟨r_265, G_266, hX_269, (Or.inr ⟨c_271, ⟨G_313, hX_316, (Or.inr ⟨c_318, rfl⟩)⟩⟩)⟩⟩)⟩)⟩⟩)⟩⟩⟩), wd_t ht hW⟩, hS.F ht⟩) hS.2.2 dX12_unit_145
    · have c_34 : 0 < (G_3.1 66 2).toInt := xI_nle rfl rfl c_34
      have fr_368 : Fr [] [] G_3 G_30 := (Fr.call9 (rs := []) (fs := []) Fr.rf hq_32 rfl rfl)
      have g_369 : gB G_30 = gB G_3 := gB_fr fr_368 (gr_q rfl) (gf_q rfl)
      have fr_370 : Fr [75] [(66, 2), (66, 3), (66, 4), (66, 6), (66, 7), (66, 8), (66, 9), (66, 20), (66, 21), (66, 23), (66, 24)] G G_30 := (Fr.call9 (rs := [75]) (fs := [(66, 2), (66, 3), (66, 4), (66, 6), (66, 7), (66, 8), (66, 9), (66, 20), (66, 21), (66, 23), (66, 24)]) (Fr.call9 (rs := [75]) (fs := [(66, 2), (66, 3), (66, 4), (66, 6), (66, 7), (66, 8), (66, 9), (66, 20), (66, 21), (66, 23), (66, 24)]) Fr.rf hq_4 rfl rfl) hq_32 rfl rfl)
      have g_371 : gC G_30 = gC G := gC_fr fr_370 (gr_q rfl) (gf_q rfl)
      have g_372 : gD G_30 = gD G := gD_fr fr_370 (gr_q rfl) (gf_q rfl)
      have g_373 : gM G_30 = gM G := gM_fr fr_370 (gr_q rfl) (gf_q rfl)
      have g_374 : (G_30.1 66 2).toInt = (G_3.1 66 2).toInt := (congrArg Int32.toInt (show G_30.1 66 2 = (G_3.1 66 2) from ((hq_32.i9 66 2 rfl rfl).trans (rfl))))
      have g_375 : (G_30.1 66 20).toInt = (G_3.1 66 20).toInt := (congrArg Int32.toInt (show G_30.1 66 20 = (G_3.1 66 20) from ((hq_32.i9 66 20 rfl rfl).trans (rfl))))
      have g_376 : (G_30.1 66 23).toInt = (G_3.1 66 23).toInt := (congrArg Int32.toInt (show G_30.1 66 23 = (G_3.1 66 23) from ((hq_32.i9 66 23 rfl rfl).trans (rfl))))
      have g_377 : (G_30.1 66 24).toInt = (G_3.1 66 24).toInt := (congrArg Int32.toInt (show G_30.1 66 24 = (G_3.1 66 24) from ((hq_32.i9 66 24 rfl rfl).trans (rfl))))
      have g_378 : (G_30.1 66 4).toInt = (G_3.1 66 4).toInt := (congrArg Int32.toInt (show G_30.1 66 4 = (G_3.1 66 4) from ((hq_32.i9 66 4 rfl rfl).trans (rfl))))
      have g_379 : (G_30.1 66 6).toInt = (G_3.1 66 6).toInt := (congrArg Int32.toInt (show G_30.1 66 6 = (G_3.1 66 6) from ((hq_32.i9 66 6 rfl rfl).trans (rfl))))
      exact W.vret hx hb hr (fun t ht _ => ⟨⟨G_30, rfl, (Q_unit_mk ⟨hB_G_30, hF, ((by first | exact ⟨(by first | exact ok_347 f_16 g_376 | omega), ⟨(fun h9 => ⟨(by first | exact ok_796 hun.1 g_371 | omega), ⟨((by first | (clear hnf b_10 b_12 hn_18 f_14 f_15 f_17 d_9 d_10 b_27 g_378 g_379; omega) | omega)), ⟨(by first | exact ok_798 f_15.2.2.1 g_369 g_375 g_377 | omega), ⟨(by first | exact ok_876 f_15.2.2.2.1 g_21 g_372 g_376 | omega), ⟨(by first | exact ok_878 f_15.2.2.2.2.1 f_15.2.2.2.2.2.2.2 b_23.1 b_23.2 g_374 g_376 h9 | omega), ⟨((by first | (clear hnf b_10 b_12 hn_18 f_14 f_15 f_17 d_9 d_10 b_27 g_378 g_379; omega) | omega)), ⟨(by first | exact ok_879 f_15.2.2.2.2.2.2.2 b_23.1 b_23.2 g_374 g_377 h9 | omega), ((by first | (clear hnf b_10 b_12 hn_18 f_14 f_15 f_17 d_9 d_10 b_27 g_378 g_379; omega) | omega))⟩⟩⟩⟩⟩⟩⟩), ⟨(by first | exact ok_347 f_17.1 g_378 | omega), (fun h9 => by have q0_ := d_10 (by first | (clear hnf hun b_1 u_2 b_9 b_10 b_11 hn_18 f_14 f_15 f_16 f_17 d_1 d_2 d_3 d_4 d_5 d_6 d_7 d_8 d_10 g_20 g_21 g_22 b_23 b_24 b_25 b_26 u_28 c_34 g_369 g_371 g_372 g_373 g_374 g_375 g_376 g_377 g_379; omega) | omega); (first | (clear hnf hun b_1 u_2 b_9 b_10 b_11 b_12 hn_18 f_14 f_15 f_16 f_17 d_1 d_2 d_3 d_4 d_5 d_6 d_7 d_8 d_9 d_10 g_20 g_21 g_22 b_23 b_24 b_25 b_26 b_27 u_28 c_34 g_369 g_371 g_372 g_373 g_374 g_375 g_376 g_377 g_378; omega) | omega))⟩⟩⟩ | omega)), ⟨x_7, G_3, hX_8, f_14, f_15, f_16, f_17, hB_G_3, hq_4, ⟨G_30, hX_33, hB_G_30, hq_32, (Or.inr ⟨c_34, rfl⟩)⟩⟩⟩), wd_t ht hW⟩, hS.F ht⟩) hS.2.2 dX12_unit_108
  refine lv_if_eq (tgt := 101) hx hb dX12_unit_3 rfl (fun c_380 => ?_) (fun c_380 => ?_)
  · have c_380 : x_7.toInt = 0 := xI_eq rfl rfl c_380
    exact hJ_31 () _ _ _ ⟨G_3, (Jn_n_unit_2_mk (Or.inl ⟨c_380, rfl⟩)), hW, hB_G_3, hF, (Fr.rf (rs := []) (fs := [])), hS, lv_sub hl [1] rfl⟩
  · have c_380 : x_7.toInt ≠ 0 := xI_ne rfl rfl c_380
    refine lv_aload_n hx hb dX12_unit_6 rfl (lv_at hl 1 rfl) ?_
    refine S_getI (v := (G_3.1 66 2)) (C := RX12) (T := TX12) (N := 89) hx hb hg iX12 hown hK hW kd_66 rfl 2 (lt_b rfl) (hg (Cond.fieldLink RX12 218 "SlabWalkModel" "fault" "I") m1316) (fun _ h9 => h9) rfl rfl dX12_unit_7 ?_
    refine lv_if_ne (tgt := 101) hx hb dX12_unit_10 rfl (fun c_381 => ?_) (fun c_381 => ?_)
    · have c_381 : (G_3.1 66 2).toInt ≠ 0 := xI_ne rfl rfl c_381
      exact hJ_31 () _ _ _ ⟨G_3, (Jn_n_unit_2_mk (Or.inr ⟨c_380, ⟨c_381, rfl⟩⟩)), hW, hB_G_3, hF, (Fr.rf (rs := []) (fs := [])), hS, lv_sub hl [1] rfl⟩
    · have c_381 : (G_3.1 66 2).toInt = 0 := xI_eq rfl rfl c_381
      have d_62 := d_8 c_381
      refine lv_aload_n hx hb dX12_unit_13 rfl (lv_at hl 1 rfl) ?_
      refine lv_ldc2 (v := 7237492) hx hb hown (hg (Cond.constantLong RX12 261 7237492) m1669) dX12_unit_14 ?_
      refine S_calli (va_runV (As := [.long 7237492]) (rest := []) ⟨hx, hb, hml, hown, hts⟩ (n_isWord l D k A a z G_3 7237492 ) (cwV 1 hts (gd_V hgd m1624 m1626 m53 m131 m1627) rfl rfl rfl hd_X12_isWord ⟨Nat.le_of_ble_eq_true rfl, Nat.le_of_ble_eq_true rfl⟩) (pre_W hW hB_G_3 hK hZ hS kd_66 rfl) rfl rfl hl.1 rfl (lv_room (Nat.le_of_ble_eq_true rfl)) dX12_unit_17 ⟨Nat.le_of_ble_eq_true rfl, Nat.le_of_ble_eq_true rfl⟩) hS (fun r_382 G_383 H locs hpo hW hS => ?_)
      have hX_386 : Q_isWord 7237492 G_3 r_382 G_383 := hpo
      obtain ⟨hB_G_383, hq_384, f_387, hp_385, -⟩ := hpo
      have hF := hF.call9 hq_384 rfl rfl
      refine W.cut (σ := Unit) (pcJ := 53) (J := fun y H locs ls => ∃ (G_390 : GS), Jn_n_unit_3 r_382 G_383 G_390 ∧ Wd D k A a G_390 H ∧ Bd G_390 ∧ Fr [69, 70, 71, 75] [(66, 2), (66, 3), (66, 4), (66, 6), (66, 7), (66, 8), (66, 9), (66, 20), (66, 21), (66, 23), (66, 24)] G G_390 ∧ Fr [] [] G_383 G_390 ∧ va_S A s.heap H locs ∧ lv_has ls 3 [(1, .int x_7), (0, .ref (a 66))]) (stJ := fun _ => []) ?_ (fun hJ_391 => ?_)
      · intro y H locs ls hI
        obtain ⟨G_390, hX_393, hW, hB_G_390, hF, hq_392, hS, hl⟩ := hI
        refine lv_aload_n hx hb dX12_unit_53 rfl (lv_at hl 1 rfl) ?_
        refine S_getI (v := (G_3.1 66 6)) (C := RX12) (T := TX12) (N := 89) hx hb hg iX12 hown hK hW kd_66 rfl 6 (lt_b rfl) (hg (Cond.fieldLink RX12 205 "SlabWalkModel" "sort" "I") m1320) (fun _ h9 => h9) rfl ((hq_392.i9 66 6 rfl rfl).trans ((hq_384.i9 66 6 rfl rfl).trans (rfl))) dX12_unit_54 ?_
        refine lv_bipush (v := 40) hx hb dX12_unit_57 (by decide) ?_
        refine lv_icmp_ne (tgt := 96) hx hb dX12_unit_59 rfl (fun c_394 => ?_) (fun c_394 => ?_)
        · have c_394 : (G_3.1 66 6).toInt ≠ 40 := xI_ne rfl rfl c_394
          refine ic_0 hx hb dX12_unit_96 ?_
          refine lv_istore_n (lv' := [(1, .int 0), (0, .ref (a 66))]) hx hb dX12_unit_97 rfl hl (lt_b rfl) rfl (fun ls hl => ?_)
          refine lv_goto (tgt := 2) hx hb dX12_unit_98 rfl ?_
          have g_395 : (G_390.1 66 24).toInt = (G_3.1 66 24).toInt := (congrArg Int32.toInt (show G_390.1 66 24 = (G_3.1 66 24) from ((hq_392.i9 66 24 rfl rfl).trans ((hq_384.i9 66 24 rfl rfl).trans (rfl)))))
          have fr_396 : Fr [] [] G_3 G_390 := (Fr.call9 (rs := []) (fs := []) (Fr.call9 (rs := []) (fs := []) Fr.rf hq_384 rfl rfl) hq_392 rfl rfl)
          have g_397 : gB G_390 = gB G_3 := gB_fr fr_396 (gr_q rfl) (gf_q rfl)
          have fr_398 : Fr [75] [(66, 2), (66, 3), (66, 4), (66, 6), (66, 7), (66, 8), (66, 9), (66, 20), (66, 21), (66, 23), (66, 24)] G G_390 := (Fr.call9 (rs := [75]) (fs := [(66, 2), (66, 3), (66, 4), (66, 6), (66, 7), (66, 8), (66, 9), (66, 20), (66, 21), (66, 23), (66, 24)]) (Fr.call9 (rs := [75]) (fs := [(66, 2), (66, 3), (66, 4), (66, 6), (66, 7), (66, 8), (66, 9), (66, 20), (66, 21), (66, 23), (66, 24)]) (Fr.call9 (rs := [75]) (fs := [(66, 2), (66, 3), (66, 4), (66, 6), (66, 7), (66, 8), (66, 9), (66, 20), (66, 21), (66, 23), (66, 24)]) Fr.rf hq_4 rfl rfl) hq_384 rfl rfl) hq_392 rfl rfl)
          have g_399 : gC G_390 = gC G := gC_fr fr_398 (gr_q rfl) (gf_q rfl)
          have g_400 : gD G_390 = gD G := gD_fr fr_398 (gr_q rfl) (gf_q rfl)
          have g_401 : gM G_390 = gM G := gM_fr fr_398 (gr_q rfl) (gf_q rfl)
          have g_402 : (G_390.1 66 2).toInt = (G_3.1 66 2).toInt := (congrArg Int32.toInt (show G_390.1 66 2 = (G_3.1 66 2) from ((hq_392.i9 66 2 rfl rfl).trans ((hq_384.i9 66 2 rfl rfl).trans (rfl)))))
          have g_403 : (G_390.1 66 20).toInt = (G_3.1 66 20).toInt := (congrArg Int32.toInt (show G_390.1 66 20 = (G_3.1 66 20) from ((hq_392.i9 66 20 rfl rfl).trans ((hq_384.i9 66 20 rfl rfl).trans (rfl)))))
          have g_404 : (G_390.1 66 23).toInt = (G_3.1 66 23).toInt := (congrArg Int32.toInt (show G_390.1 66 23 = (G_3.1 66 23) from ((hq_392.i9 66 23 rfl rfl).trans ((hq_384.i9 66 23 rfl rfl).trans (rfl)))))
          have g_405 : (G_390.1 66 24).toInt = (G_3.1 66 24).toInt := (congrArg Int32.toInt (show G_390.1 66 24 = (G_3.1 66 24) from ((hq_392.i9 66 24 rfl rfl).trans ((hq_384.i9 66 24 rfl rfl).trans (rfl)))))
          have g_406 : (G_390.1 66 23).toInt = (G_3.1 66 23).toInt := (congrArg Int32.toInt (show G_390.1 66 23 = (G_3.1 66 23) from ((hq_392.i9 66 23 rfl rfl).trans ((hq_384.i9 66 23 rfl rfl).trans (rfl)))))
          have g_407 : (G_390.1 66 4).toInt = (G_3.1 66 4).toInt := (congrArg Int32.toInt (show G_390.1 66 4 = (G_3.1 66 4) from ((hq_392.i9 66 4 rfl rfl).trans ((hq_384.i9 66 4 rfl rfl).trans (rfl)))))
          have g_408 : (G_390.1 66 6).toInt = (G_3.1 66 6).toInt := (congrArg Int32.toInt (show G_390.1 66 6 = (G_3.1 66 6) from ((hq_392.i9 66 6 rfl rfl).trans ((hq_384.i9 66 6 rfl rfl).trans (rfl)))))
          have qc_409 : (0 : Int32).toInt = 0 := rfl
          exact ih_5 (9 - (G_390.1 66 24).toInt + 0 : Int).toNat ((by first | (clear hnf b_10 b_12 f_15 f_17 d_8 d_9 d_10 b_27 f_387 hp_385 c_394 g_407 g_408; omega) | omega)) _ _ _ ⟨G_390, 0, (Int.toNat_of_nonneg ((by first | exact ok_880 d_62.2 g_395 | omega))), ⟨(by decide), (by decide)⟩, ((by first | exact ⟨(by first | exact ok_796 hun.1 g_399 | omega), ⟨(by first | exact ok_881 f_15.2.1 g_21 g_397 g_400 | omega), ⟨(by first | exact ok_882 f_15.2.2.1 g_395 g_397 g_403 | omega), ⟨(by first | exact ok_876 f_15.2.2.2.1 g_21 g_400 g_404 | omega), ⟨(by first | exact ok_883 f_15.2.2.2.2.1 b_25.2 g_404 | omega), ⟨(by first | exact ok_884 d_62.2 g_395 | omega), ⟨(by first | exact ok_885 f_15.2.2.2.2.2.2.1 g_22 g_395 g_401 g_403 g_404 | omega), (fun h9 => ⟨(by first | exact ok_886 f_15.2.2.2.2.1 d_62.1 g_404 | omega), (by first | exact ok_887 d_62.2 g_395 | omega)⟩)⟩⟩⟩⟩⟩⟩⟩ | omega)), ((by first | exact ok_347 f_16 g_404 | omega)), ((by first | exact ⟨(by first | exact ok_347 f_17.1 g_407 | omega), (fun h9 => by have q0_ := d_10 (by first | (clear hnf hun b_1 u_2 b_9 b_10 b_11 hn_18 f_14 f_15 f_16 f_17 d_1 d_2 d_3 d_4 d_5 d_6 d_7 d_8 d_10 g_20 g_21 g_22 b_23 b_24 b_25 b_26 u_28 c_380 c_381 d_62 f_387 hp_385 c_394 g_395 g_397 g_399 g_400 g_401 g_402 g_403 g_404 g_405 g_406 g_408; omega) | omega); (first | (clear hnf hun b_1 u_2 b_9 b_10 b_11 b_12 hn_18 f_14 f_15 f_16 f_17 d_1 d_2 d_3 d_4 d_5 d_6 d_7 d_8 d_9 d_10 g_20 g_21 g_22 b_23 b_24 b_25 b_26 b_27 u_28 c_380 c_381 d_62 f_387 hp_385 c_394 g_395 g_397 g_399 g_400 g_401 g_402 g_403 g_404 g_405 g_406 g_407; omega) | omega))⟩ | omega)), (hX_8.st (St_n_unit_1_mk ⟨x_7, G_3, 0, G_390, rfl, rfl, f_14, f_15, f_16, f_17, hB_G_3, ⟨c_380, ⟨c_381, ⟨r_382, G_383, hX_386, (Or.inr ⟨G_390, hX_393, hB_G_390, hq_392, (Or.inr ⟨c_394, ⟨rfl, rfl⟩⟩)⟩)⟩⟩⟩⟩)), hW, hB_G_390, hF, (Fr.call9 (rs := [75]) (fs := [(66, 2), (66, 3), (66, 4), (66, 6), (66, 7), (66, 8), (66, 9), (66, 20), (66, 21), (66, 23), (66, 24)]) (Fr.call9 (rs := [75]) (fs := [(66, 2), (66, 3), (66, 4), (66, 6), (66, 7), (66, 8), (66, 9), (66, 20), (66, 21), (66, 23), (66, 24)]) (Fr.call9 (rs := [75]) (fs := [(66, 2), (66, 3), (66, 4), (66, 6), (66, 7), (66, 8), (66, 9), (66, 20), (66, 21), (66, 23), (66, 24)]) Fr.rf hq_4 rfl rfl) hq_384 rfl rfl) hq_392 rfl rfl), hS, lv_sub hl [0, 1] rfl⟩
        · have c_394 : (G_3.1 66 6).toInt = 40 := xI_eq rfl rfl c_394
          refine lv_aload_n hx hb dX12_unit_62 rfl (lv_at hl 1 rfl) ?_
          have g_410 : (G_390.1 66 23).toInt = (G_3.1 66 23).toInt := (congrArg Int32.toInt (show G_390.1 66 23 = (G_3.1 66 23) from ((hq_392.i9 66 23 rfl rfl).trans ((hq_384.i9 66 23 rfl rfl).trans (rfl)))))
          refine S_calli (va_runV (As := []) (rest := []) ⟨hx, hb, hml, hown, hts⟩ (n_isFull l D k A a z G_390  ) (cwV 0 hts (gd_V hgd m1729 m1731 m73 m131 m1732) rfl rfl rfl hd_X12_isFull ⟨Nat.le_of_ble_eq_true rfl, Nat.le_of_ble_eq_true rfl⟩) (pre_W hW hB_G_390 hK hZ hS kd_66 rfl) rfl rfl hl.1 rfl (lv_room (Nat.le_of_ble_eq_true rfl)) dX12_unit_63 ⟨Nat.le_of_ble_eq_true rfl, Nat.le_of_ble_eq_true rfl⟩) hS (fun r_411 G_412 H locs hpo hW hS => ?_)
          have hX_415 : Q_isFull G_390 r_411 G_412 := hpo
          obtain ⟨hB_G_412, hq_413, f_416, hp_414, -⟩ := hpo
          have hF := hF.call9 hq_413 rfl rfl
          refine lv_if_ne (tgt := 78) hx hb dX12_unit_66 rfl (fun c_417 => ?_) (fun c_417 => ?_)
          · have c_417 : r_411.toInt ≠ 0 := xI_ne rfl rfl c_417
            refine lv_aload_n hx hb dX12_unit_78 rfl (lv_at hl 1 rfl) ?_
            refine ic_2 hx hb dX12_unit_79 ?_
            have qc_418 : (2 : Int32).toInt = 2 := rfl
            refine S_callv (va_runV (As := [.int 2]) (rest := []) ⟨hx, hb, hml, hown, hts⟩ (n_wrong l D k A a z G_412 2 ⟨by decide, by decide⟩) (cwV 1 hts (gd_V hgd m1670 m1672 m59 m131 m1673) rfl rfl rfl hd_X12_wrong ⟨Nat.le_of_ble_eq_true rfl, Nat.le_of_ble_eq_true rfl⟩) (pre_W hW hB_G_412 hK hZ hS kd_66 rfl) rfl rfl hl.1 rfl (lv_room (Nat.le_of_ble_eq_true rfl)) dX12_unit_80 ⟨Nat.le_of_ble_eq_true rfl, Nat.le_of_ble_eq_true rfl⟩) hS (fun G_420 H locs hpo hW hS => ?_)
            have hX_423 : Q_wrong 2 G_412 G_420 := hpo
            obtain ⟨hB_G_420, hq_421, hp_422, -⟩ := hpo
            have hF := hF.call9 hq_421 rfl rfl
            refine lv_aload_n hx hb dX12_unit_83 rfl (lv_at hl 1 rfl) ?_
            have g_424 : (G_420.1 66 23).toInt = (G_3.1 66 23).toInt := (congrArg Int32.toInt (show G_420.1 66 23 = (G_3.1 66 23) from ((hq_421.i9 66 23 rfl rfl).trans ((hq_413.i9 66 23 rfl rfl).trans ((hq_392.i9 66 23 rfl rfl).trans ((hq_384.i9 66 23 rfl rfl).trans (rfl)))))))
            have g_425 : (G_420.1 66 23).toInt = (G_3.1 66 23).toInt := (congrArg Int32.toInt (show G_420.1 66 23 = (G_3.1 66 23) from ((hq_421.i9 66 23 rfl rfl).trans ((hq_413.i9 66 23 rfl rfl).trans ((hq_392.i9 66 23 rfl rfl).trans ((hq_384.i9 66 23 rfl rfl).trans (rfl)))))))
            refine S_callv (va_runV (As := []) (rest := []) ⟨hx, hb, hml, hown, hts⟩ (n_countUnit l D k A a z G_420  ((by first | exact ok_888 f_15.2.2.2.2.1 b_25.2 g_424 | omega))) (cwV 0 hts (gd_V hgd m1733 m1735 m74 m131 m1736) rfl rfl rfl hd_X12_countUnit ⟨Nat.le_of_ble_eq_true rfl, Nat.le_of_ble_eq_true rfl⟩) (pre_W hW hB_G_420 hK hZ hS kd_66 rfl) rfl rfl hl.1 rfl (lv_room (Nat.le_of_ble_eq_true rfl)) dX12_unit_84 ⟨Nat.le_of_ble_eq_true rfl, Nat.le_of_ble_eq_true rfl⟩) hS (fun G_427 H locs hpo hW hS => ?_)
            have hX_430 : Q_countUnit G_420 G_427 := hpo
            obtain ⟨hB_G_427, hq_428, hp_429, -⟩ := hpo
            have hF := hF.call9 hq_428 rfl rfl
            refine lv_aload_n hx hb dX12_unit_87 rfl (lv_at hl 1 rfl) ?_
            refine lv_bipush (v := 20) hx hb dX12_unit_88 (by decide) ?_
            have g_431 : (G_427.1 66 20).toInt = (G_3.1 66 20).toInt := (congrArg Int32.toInt (show G_427.1 66 20 = (G_3.1 66 20) from ((hq_428.i9 66 20 rfl rfl).trans ((hq_421.i9 66 20 rfl rfl).trans ((hq_413.i9 66 20 rfl rfl).trans ((hq_392.i9 66 20 rfl rfl).trans ((hq_384.i9 66 20 rfl rfl).trans (rfl))))))))
            have g_432 : (G_427.1 66 24).toInt = (G_3.1 66 24).toInt := (congrArg Int32.toInt (show G_427.1 66 24 = (G_3.1 66 24) from ((hq_428.i9 66 24 rfl rfl).trans ((hq_421.i9 66 24 rfl rfl).trans ((hq_413.i9 66 24 rfl rfl).trans ((hq_392.i9 66 24 rfl rfl).trans ((hq_384.i9 66 24 rfl rfl).trans (rfl))))))))
            have qc_433 : (20 : Int32).toInt = 20 := rfl
            have fr_434 : Fr [] [(66, 2), (66, 3), (66, 21), (66, 23)] G_3 G_427 := (Fr.call9 (rs := []) (fs := [(66, 2), (66, 3), (66, 21), (66, 23)]) (Fr.call9 (rs := []) (fs := [(66, 2), (66, 3), (66, 21), (66, 23)]) (Fr.call9 (rs := []) (fs := [(66, 2), (66, 3), (66, 21), (66, 23)]) (Fr.call9 (rs := []) (fs := [(66, 2), (66, 3), (66, 21), (66, 23)]) (Fr.call9 (rs := []) (fs := [(66, 2), (66, 3), (66, 21), (66, 23)]) Fr.rf hq_384 rfl rfl) hq_392 rfl rfl) hq_413 rfl rfl) hq_421 rfl rfl) hq_428 rfl rfl)
            have g_435 : gB G_427 = gB G_3 := gB_fr fr_434 (gr_q rfl) (gf_q rfl)
            have g_436 : (G_427.1 66 20).toInt = (G_3.1 66 20).toInt := (congrArg Int32.toInt (show G_427.1 66 20 = (G_3.1 66 20) from ((hq_428.i9 66 20 rfl rfl).trans ((hq_421.i9 66 20 rfl rfl).trans ((hq_413.i9 66 20 rfl rfl).trans ((hq_392.i9 66 20 rfl rfl).trans ((hq_384.i9 66 20 rfl rfl).trans (rfl))))))))
            have g_437 : (G_427.1 66 24).toInt = (G_3.1 66 24).toInt := (congrArg Int32.toInt (show G_427.1 66 24 = (G_3.1 66 24) from ((hq_428.i9 66 24 rfl rfl).trans ((hq_421.i9 66 24 rfl rfl).trans ((hq_413.i9 66 24 rfl rfl).trans ((hq_392.i9 66 24 rfl rfl).trans ((hq_384.i9 66 24 rfl rfl).trans (rfl))))))))
            have g_438 : (G_427.1 66 4).toInt = (G_3.1 66 4).toInt := (congrArg Int32.toInt (show G_427.1 66 4 = (G_3.1 66 4) from ((hq_428.i9 66 4 rfl rfl).trans ((hq_421.i9 66 4 rfl rfl).trans ((hq_413.i9 66 4 rfl rfl).trans ((hq_392.i9 66 4 rfl rfl).trans ((hq_384.i9 66 4 rfl rfl).trans (rfl))))))))
            have g_439 : (G_427.1 66 6).toInt = (G_3.1 66 6).toInt := (congrArg Int32.toInt (show G_427.1 66 6 = (G_3.1 66 6) from ((hq_428.i9 66 6 rfl rfl).trans ((hq_421.i9 66 6 rfl rfl).trans ((hq_413.i9 66 6 rfl rfl).trans ((hq_392.i9 66 6 rfl rfl).trans ((hq_384.i9 66 6 rfl rfl).trans (rfl))))))))
            refine S_callv (va_runV (As := [.int 20]) (rest := []) ⟨hx, hb, hml, hown, hts⟩ (n_openUp l D k A a z G_427 20 ⟨by decide, by decide⟩ ((by first | exact ⟨(by first | exact ok_889 f_15.2.1 f_15.2.2.1 f_15.2.2.2.1 b_24.2 d_62.1 d_62.2 g_431 | omega), (by first | exact ok_890 d_62.2 g_432 | omega)⟩ | omega))) (cwV 1 hts (gd_V hgd m1725 m1727 m72 m131 m1728) rfl rfl rfl hd_X12_openUp ⟨Nat.le_of_ble_eq_true rfl, Nat.le_of_ble_eq_true rfl⟩) (pre_W hW hB_G_427 hK hZ hS kd_66 rfl) rfl rfl hl.1 rfl (lv_room (Nat.le_of_ble_eq_true rfl)) dX12_unit_90 ⟨Nat.le_of_ble_eq_true rfl, Nat.le_of_ble_eq_true rfl⟩) hS (fun G_441 H locs hpo hW hS => ?_)
            have hX_444 : Q_openUp 20 G_427 G_441 := hpo
            obtain ⟨hB_G_441, hq_442, ⟨d_63, d_64, d_65, d_66, d_67⟩, -⟩ := hpo
            have hF := hF.call9 hq_442 rfl rfl
            refine lv_goto (tgt := 2) hx hb dX12_unit_93 rfl ?_
            have b_445 : (-1) ≤ (G_441.1 66 24).toInt ∧ (G_441.1 66 24).toInt ≤ 200 := bd_66_24 hB_G_441
            have fr_446 : Fr [75] [(66, 2), (66, 3), (66, 4), (66, 6), (66, 7), (66, 8), (66, 9), (66, 20), (66, 21), (66, 23), (66, 24)] G G_441 := (Fr.call9 (rs := [75]) (fs := [(66, 2), (66, 3), (66, 4), (66, 6), (66, 7), (66, 8), (66, 9), (66, 20), (66, 21), (66, 23), (66, 24)]) (Fr.call9 (rs := [75]) (fs := [(66, 2), (66, 3), (66, 4), (66, 6), (66, 7), (66, 8), (66, 9), (66, 20), (66, 21), (66, 23), (66, 24)]) (Fr.call9 (rs := [75]) (fs := [(66, 2), (66, 3), (66, 4), (66, 6), (66, 7), (66, 8), (66, 9), (66, 20), (66, 21), (66, 23), (66, 24)]) (Fr.call9 (rs := [75]) (fs := [(66, 2), (66, 3), (66, 4), (66, 6), (66, 7), (66, 8), (66, 9), (66, 20), (66, 21), (66, 23), (66, 24)]) (Fr.call9 (rs := [75]) (fs := [(66, 2), (66, 3), (66, 4), (66, 6), (66, 7), (66, 8), (66, 9), (66, 20), (66, 21), (66, 23), (66, 24)]) (Fr.call9 (rs := [75]) (fs := [(66, 2), (66, 3), (66, 4), (66, 6), (66, 7), (66, 8), (66, 9), (66, 20), (66, 21), (66, 23), (66, 24)]) (Fr.call9 (rs := [75]) (fs := [(66, 2), (66, 3), (66, 4), (66, 6), (66, 7), (66, 8), (66, 9), (66, 20), (66, 21), (66, 23), (66, 24)]) Fr.rf hq_4 rfl rfl) hq_384 rfl rfl) hq_392 rfl rfl) hq_413 rfl rfl) hq_421 rfl rfl) hq_428 rfl rfl) hq_442 rfl rfl)
            have g_447 : gC G_441 = gC G := gC_fr fr_446 (gr_q rfl) (gf_q rfl)
            have g_448 : gD G_441 = gD G := gD_fr fr_446 (gr_q rfl) (gf_q rfl)
            have g_449 : gM G_441 = gM G := gM_fr fr_446 (gr_q rfl) (gf_q rfl)
            have b_450 : 0 ≤ (G_420.1 66 2).toInt ∧ (G_420.1 66 2).toInt ≤ 4 := bd_66_2 hB_G_420
            have g_451 : (G_441.1 66 2).toInt = (G_420.1 66 2).toInt := (congrArg Int32.toInt (show G_441.1 66 2 = (G_420.1 66 2) from ((hq_442.i9 66 2 rfl rfl).trans (hq_428.i9 66 2 rfl rfl))))
            have b_452 : 0 ≤ (G_441.1 66 20).toInt ∧ (G_441.1 66 20).toInt ≤ 160 := bd_66_20 hB_G_441
            have b_453 : 0 ≤ (G_427.1 66 23).toInt ∧ (G_427.1 66 23).toInt ≤ 40 := bd_66_23 hB_G_427
            have g_454 : (G_441.1 66 23).toInt = (G_427.1 66 23).toInt := (congrArg Int32.toInt (show G_441.1 66 23 = (G_427.1 66 23) from (hq_442.i9 66 23 rfl rfl)))
            have g_455 : (G_441.1 66 23).toInt = (G_427.1 66 23).toInt := (congrArg Int32.toInt (show G_441.1 66 23 = (G_427.1 66 23) from ((hq_442.i9 66 23 rfl rfl).trans (rfl))))
            have b_456 : 0 ≤ (G_441.1 66 4).toInt ∧ (G_441.1 66 4).toInt ≤ 1600 := bd_66_4 hB_G_441
            exact ih_5 (9 - (G_441.1 66 24).toInt + x_7.toInt : Int).toNat ((by first | (clear hnf b_10 b_12 f_15 f_17 d_8 d_9 d_10 b_27 f_387 hp_385 c_394 f_416 hp_414 c_417 hp_422 g_438 g_439 d_66 d_67 b_450 g_451 b_456; omega) | omega)) _ _ _ ⟨G_441, x_7, (Int.toNat_of_nonneg ((by first | exact ok_891 f_14.1 d_62.2 g_432 d_64 b_445.2 | omega))), ⟨(by first | exact f_14.1 | omega), (by first | exact f_14.2 | omega)⟩, ((by first | exact ⟨(by first | exact ok_796 hun.1 g_447 | omega), ⟨(by first | exact ok_892 f_15.2.1 g_21 g_435 d_65 g_448 | omega), ⟨(by first | exact ok_893 f_15.2.2.1 u_28.1 u_28.2.1 g_431 g_432 g_435 d_63 d_64 d_65 b_445.1 b_445.2 b_452.2 | omega), ⟨(by first | exact ok_894 hun.2.2.2.1 hun.2.2.2.2.1 f_15.2.2.2.1 g_21 g_424 hp_429 g_448 b_453.1 g_454 | omega), ⟨(by first | exact ok_895 d_62.1 g_424 hp_429 b_453.2 g_454 | omega), ⟨(by first | exact ok_896 d_62.2 g_432 d_64 b_445.2 | omega), ⟨((by first | (clear hnf b_10 b_12 hn_18 f_14 f_15 f_17 d_8 d_9 d_10 b_27 c_380 f_387 hp_385 c_394 hp_414 hp_422 g_438 g_439 d_66 d_67 b_450 g_451 b_456; omega) | omega)), (fun h9 => ⟨((by first | (clear hnf b_1 u_2 b_9 b_10 b_12 hn_18 f_14 f_15 f_17 d_8 d_9 d_10 b_27 c_380 f_387 hp_385 c_394 hp_414 g_438 g_439 d_66 d_67 b_456; omega) | omega)), ((by first | (clear hnf b_10 b_12 hn_18 f_14 f_15 f_17 d_8 d_9 d_10 b_27 c_380 f_387 hp_385 c_394 f_416 hp_414 c_417 g_438 g_439 d_66 d_67 b_456; omega) | omega))⟩)⟩⟩⟩⟩⟩⟩⟩ | omega)), ((by first | exact ok_862 hun.2.2.2.2.1 f_16 g_424 hp_429 b_453.1 g_454 | omega)), ((by first | exact ⟨(by first | exact ok_869 b_12.2 f_17.1 g_438 d_66 b_456.1 | omega), (fun h9 => by have q0_ := d_10 (by first | (clear hnf hun b_1 u_2 b_9 b_10 b_11 hn_18 f_14 f_15 f_16 f_17 d_1 d_2 d_3 d_4 d_5 d_6 d_7 d_8 d_10 g_20 g_21 g_22 b_23 b_24 b_25 b_26 u_28 c_380 c_381 d_62 f_387 hp_385 c_394 g_410 f_416 hp_414 c_417 hp_422 g_424 g_425 hp_429 g_431 g_432 g_435 g_436 g_437 g_439 d_63 d_64 d_65 d_67 b_445 g_447 g_448 g_449 b_450 g_451 b_452 b_453 g_454 g_455; omega) | omega); have q1_ := d_67 (by first | (clear hnf hun b_1 u_2 b_9 b_10 b_11 hn_18 f_14 f_15 f_16 f_17 d_1 d_2 d_3 d_4 d_5 d_6 d_7 d_8 d_10 g_20 g_21 g_22 b_23 b_24 b_25 b_26 u_28 c_380 c_381 d_62 f_387 hp_385 c_394 g_410 f_416 hp_414 c_417 hp_422 g_424 g_425 hp_429 g_431 g_432 g_435 g_436 g_437 g_439 d_63 d_64 d_65 d_67 b_445 g_447 g_448 g_449 b_450 g_451 b_452 b_453 g_454 g_455; omega) | omega); (first | (clear hnf hun b_1 u_2 b_9 b_10 b_11 b_12 hn_18 f_14 f_15 f_16 f_17 d_1 d_2 d_3 d_4 d_5 d_6 d_7 d_8 d_9 d_10 g_20 g_21 g_22 b_23 b_24 b_25 b_26 b_27 u_28 c_380 c_381 d_62 f_387 hp_385 g_410 f_416 hp_414 c_417 hp_422 g_424 g_425 hp_429 g_431 g_432 g_435 g_436 g_437 g_438 d_63 d_64 d_65 d_66 d_67 b_445 g_447 g_448 g_449 b_450 g_451 b_452 b_453 g_454 g_455 b_456; omega) | omega))⟩ | omega)), (hX_8.st (St_n_unit_1_mk ⟨x_7, G_3, x_7, G_441, rfl, rfl, f_14, f_15, f_16, f_17, hB_G_3, ⟨c_380, ⟨c_381, ⟨r_382, G_383, hX_386, (Or.inr ⟨G_390, hX_393, hB_G_390, hq_392, (Or.inl ⟨c_394, ⟨r_411, G_412, hX_415, (Or.inr ⟨c_417, ⟨G_420, hX_423, ⟨G_427, hX_430, ⟨G_441, hX_444, ⟨rfl, rfl⟩⟩⟩⟩⟩)⟩⟩)⟩)⟩⟩⟩⟩)), hW, hB_G_441, hF, (Fr.call9 (rs := [75]) (fs := [(66, 2), (66, 3), (66, 4), (66, 6), (66, 7), (66, 8), (66, 9), (66, 20), (66, 21), (66, 23), (66, 24)]) (Fr.call9 (rs := [75]) (fs := [(66, 2), (66, 3), (66, 4), (66, 6), (66, 7), (66, 8), (66, 9), (66, 20), (66, 21), (66, 23), (66, 24)]) (Fr.call9 (rs := [75]) (fs := [(66, 2), (66, 3), (66, 4), (66, 6), (66, 7), (66, 8), (66, 9), (66, 20), (66, 21), (66, 23), (66, 24)]) (Fr.call9 (rs := [75]) (fs := [(66, 2), (66, 3), (66, 4), (66, 6), (66, 7), (66, 8), (66, 9), (66, 20), (66, 21), (66, 23), (66, 24)]) (Fr.call9 (rs := [75]) (fs := [(66, 2), (66, 3), (66, 4), (66, 6), (66, 7), (66, 8), (66, 9), (66, 20), (66, 21), (66, 23), (66, 24)]) (Fr.call9 (rs := [75]) (fs := [(66, 2), (66, 3), (66, 4), (66, 6), (66, 7), (66, 8), (66, 9), (66, 20), (66, 21), (66, 23), (66, 24)]) (Fr.call9 (rs := [75]) (fs := [(66, 2), (66, 3), (66, 4), (66, 6), (66, 7), (66, 8), (66, 9), (66, 20), (66, 21), (66, 23), (66, 24)]) Fr.rf hq_4 rfl rfl) hq_384 rfl rfl) hq_392 rfl rfl) hq_413 rfl rfl) hq_421 rfl rfl) hq_428 rfl rfl) hq_442 rfl rfl), hS, lv_sub hl [0, 1] rfl⟩
          · have c_417 : r_411.toInt = 0 := xI_eq rfl rfl c_417
            have d_68 := hp_414 c_417
            refine lv_aload_n hx hb dX12_unit_69 rfl (lv_at hl 1 rfl) ?_
            refine S_getI (v := (G_3.1 66 24)) (C := RX12) (T := TX12) (N := 89) hx hb hg iX12 hown hK hW kd_66 rfl 24 (lt_b rfl) (hg (Cond.fieldLink RX12 309 "SlabWalkModel" "deep" "I") m1338) (fun _ h9 => h9) rfl ((hq_413.i9 66 24 rfl rfl).trans ((hq_392.i9 66 24 rfl rfl).trans ((hq_384.i9 66 24 rfl rfl).trans (rfl)))) dX12_unit_70 ?_
            refine lv_bipush (v := 6) hx hb dX12_unit_73 (by decide) ?_
            refine lv_icmp_le (tgt := 83) hx hb dX12_unit_75 rfl (fun c_457 => ?_) (fun c_457 => ?_)
            · have c_457 : (G_3.1 66 24).toInt ≤ 6 := xI_le rfl rfl c_457
              refine lv_aload_n hx hb dX12_unit_83 rfl (lv_at hl 1 rfl) ?_
              have g_458 : (G_412.1 66 23).toInt = (G_3.1 66 23).toInt := (congrArg Int32.toInt (show G_412.1 66 23 = (G_3.1 66 23) from ((hq_413.i9 66 23 rfl rfl).trans ((hq_392.i9 66 23 rfl rfl).trans ((hq_384.i9 66 23 rfl rfl).trans (rfl))))))
              have g_459 : (G_412.1 66 23).toInt = (G_3.1 66 23).toInt := (congrArg Int32.toInt (show G_412.1 66 23 = (G_3.1 66 23) from ((hq_413.i9 66 23 rfl rfl).trans ((hq_392.i9 66 23 rfl rfl).trans ((hq_384.i9 66 23 rfl rfl).trans (rfl))))))
              refine S_callv (va_runV (As := []) (rest := []) ⟨hx, hb, hml, hown, hts⟩ (n_countUnit l D k A a z G_412  ((by first | exact ok_897 d_62.1 g_458 | omega))) (cwV 0 hts (gd_V hgd m1733 m1735 m74 m131 m1736) rfl rfl rfl hd_X12_countUnit ⟨Nat.le_of_ble_eq_true rfl, Nat.le_of_ble_eq_true rfl⟩) (pre_W hW hB_G_412 hK hZ hS kd_66 rfl) rfl rfl hl.1 rfl (lv_room (Nat.le_of_ble_eq_true rfl)) dX12_unit_84 ⟨Nat.le_of_ble_eq_true rfl, Nat.le_of_ble_eq_true rfl⟩) hS (fun G_461 H locs hpo hW hS => ?_)
              have hX_464 : Q_countUnit G_412 G_461 := hpo
              obtain ⟨hB_G_461, hq_462, hp_463, -⟩ := hpo
              have hF := hF.call9 hq_462 rfl rfl
              refine lv_aload_n hx hb dX12_unit_87 rfl (lv_at hl 1 rfl) ?_
              refine lv_bipush (v := 20) hx hb dX12_unit_88 (by decide) ?_
              have g_465 : (G_461.1 66 20).toInt = (G_3.1 66 20).toInt := (congrArg Int32.toInt (show G_461.1 66 20 = (G_3.1 66 20) from ((hq_462.i9 66 20 rfl rfl).trans ((hq_413.i9 66 20 rfl rfl).trans ((hq_392.i9 66 20 rfl rfl).trans ((hq_384.i9 66 20 rfl rfl).trans (rfl)))))))
              have g_466 : (G_461.1 66 24).toInt = (G_3.1 66 24).toInt := (congrArg Int32.toInt (show G_461.1 66 24 = (G_3.1 66 24) from ((hq_462.i9 66 24 rfl rfl).trans ((hq_413.i9 66 24 rfl rfl).trans ((hq_392.i9 66 24 rfl rfl).trans ((hq_384.i9 66 24 rfl rfl).trans (rfl)))))))
              have qc_467 : (20 : Int32).toInt = 20 := rfl
              have fr_468 : Fr [] [(66, 21), (66, 23)] G_3 G_461 := (Fr.call9 (rs := []) (fs := [(66, 21), (66, 23)]) (Fr.call9 (rs := []) (fs := [(66, 21), (66, 23)]) (Fr.call9 (rs := []) (fs := [(66, 21), (66, 23)]) (Fr.call9 (rs := []) (fs := [(66, 21), (66, 23)]) Fr.rf hq_384 rfl rfl) hq_392 rfl rfl) hq_413 rfl rfl) hq_462 rfl rfl)
              have g_469 : gB G_461 = gB G_3 := gB_fr fr_468 (gr_q rfl) (gf_q rfl)
              have g_470 : (G_461.1 66 20).toInt = (G_3.1 66 20).toInt := (congrArg Int32.toInt (show G_461.1 66 20 = (G_3.1 66 20) from ((hq_462.i9 66 20 rfl rfl).trans ((hq_413.i9 66 20 rfl rfl).trans ((hq_392.i9 66 20 rfl rfl).trans ((hq_384.i9 66 20 rfl rfl).trans (rfl)))))))
              have g_471 : (G_461.1 66 24).toInt = (G_3.1 66 24).toInt := (congrArg Int32.toInt (show G_461.1 66 24 = (G_3.1 66 24) from ((hq_462.i9 66 24 rfl rfl).trans ((hq_413.i9 66 24 rfl rfl).trans ((hq_392.i9 66 24 rfl rfl).trans ((hq_384.i9 66 24 rfl rfl).trans (rfl)))))))
              have g_472 : (G_461.1 66 4).toInt = (G_3.1 66 4).toInt := (congrArg Int32.toInt (show G_461.1 66 4 = (G_3.1 66 4) from ((hq_462.i9 66 4 rfl rfl).trans ((hq_413.i9 66 4 rfl rfl).trans ((hq_392.i9 66 4 rfl rfl).trans ((hq_384.i9 66 4 rfl rfl).trans (rfl)))))))
              have g_473 : (G_461.1 66 6).toInt = (G_3.1 66 6).toInt := (congrArg Int32.toInt (show G_461.1 66 6 = (G_3.1 66 6) from ((hq_462.i9 66 6 rfl rfl).trans ((hq_413.i9 66 6 rfl rfl).trans ((hq_392.i9 66 6 rfl rfl).trans ((hq_384.i9 66 6 rfl rfl).trans (rfl)))))))
              refine S_callv (va_runV (As := [.int 20]) (rest := []) ⟨hx, hb, hml, hown, hts⟩ (n_openUp l D k A a z G_461 20 ⟨by decide, by decide⟩ ((by first | exact ⟨(by first | exact ok_898 f_15.2.1 f_15.2.2.1 f_15.2.2.2.1 b_24.2 d_62.1 c_457 g_465 | omega), (by first | exact ok_890 d_62.2 g_466 | omega)⟩ | omega))) (cwV 1 hts (gd_V hgd m1725 m1727 m72 m131 m1728) rfl rfl rfl hd_X12_openUp ⟨Nat.le_of_ble_eq_true rfl, Nat.le_of_ble_eq_true rfl⟩) (pre_W hW hB_G_461 hK hZ hS kd_66 rfl) rfl rfl hl.1 rfl (lv_room (Nat.le_of_ble_eq_true rfl)) dX12_unit_90 ⟨Nat.le_of_ble_eq_true rfl, Nat.le_of_ble_eq_true rfl⟩) hS (fun G_475 H locs hpo hW hS => ?_)
              have hX_478 : Q_openUp 20 G_461 G_475 := hpo
              obtain ⟨hB_G_475, hq_476, ⟨d_69, d_70, d_71, d_72, d_73⟩, -⟩ := hpo
              have hF := hF.call9 hq_476 rfl rfl
              refine lv_goto (tgt := 2) hx hb dX12_unit_93 rfl ?_
              have b_479 : (-1) ≤ (G_475.1 66 24).toInt ∧ (G_475.1 66 24).toInt ≤ 200 := bd_66_24 hB_G_475
              have fr_480 : Fr [75] [(66, 2), (66, 3), (66, 4), (66, 6), (66, 7), (66, 8), (66, 9), (66, 20), (66, 21), (66, 23), (66, 24)] G G_475 := (Fr.call9 (rs := [75]) (fs := [(66, 2), (66, 3), (66, 4), (66, 6), (66, 7), (66, 8), (66, 9), (66, 20), (66, 21), (66, 23), (66, 24)]) (Fr.call9 (rs := [75]) (fs := [(66, 2), (66, 3), (66, 4), (66, 6), (66, 7), (66, 8), (66, 9), (66, 20), (66, 21), (66, 23), (66, 24)]) (Fr.call9 (rs := [75]) (fs := [(66, 2), (66, 3), (66, 4), (66, 6), (66, 7), (66, 8), (66, 9), (66, 20), (66, 21), (66, 23), (66, 24)]) (Fr.call9 (rs := [75]) (fs := [(66, 2), (66, 3), (66, 4), (66, 6), (66, 7), (66, 8), (66, 9), (66, 20), (66, 21), (66, 23), (66, 24)]) (Fr.call9 (rs := [75]) (fs := [(66, 2), (66, 3), (66, 4), (66, 6), (66, 7), (66, 8), (66, 9), (66, 20), (66, 21), (66, 23), (66, 24)]) (Fr.call9 (rs := [75]) (fs := [(66, 2), (66, 3), (66, 4), (66, 6), (66, 7), (66, 8), (66, 9), (66, 20), (66, 21), (66, 23), (66, 24)]) Fr.rf hq_4 rfl rfl) hq_384 rfl rfl) hq_392 rfl rfl) hq_413 rfl rfl) hq_462 rfl rfl) hq_476 rfl rfl)
              have g_481 : gC G_475 = gC G := gC_fr fr_480 (gr_q rfl) (gf_q rfl)
              have g_482 : gD G_475 = gD G := gD_fr fr_480 (gr_q rfl) (gf_q rfl)
              have g_483 : gM G_475 = gM G := gM_fr fr_480 (gr_q rfl) (gf_q rfl)
              have g_484 : (G_475.1 66 2).toInt = (G_3.1 66 2).toInt := (congrArg Int32.toInt (show G_475.1 66 2 = (G_3.1 66 2) from ((hq_476.i9 66 2 rfl rfl).trans ((hq_462.i9 66 2 rfl rfl).trans ((hq_413.i9 66 2 rfl rfl).trans ((hq_392.i9 66 2 rfl rfl).trans ((hq_384.i9 66 2 rfl rfl).trans (rfl))))))))
              have b_485 : 0 ≤ (G_475.1 66 20).toInt ∧ (G_475.1 66 20).toInt ≤ 160 := bd_66_20 hB_G_475
              have b_486 : 0 ≤ (G_461.1 66 23).toInt ∧ (G_461.1 66 23).toInt ≤ 40 := bd_66_23 hB_G_461
              have g_487 : (G_475.1 66 23).toInt = (G_461.1 66 23).toInt := (congrArg Int32.toInt (show G_475.1 66 23 = (G_461.1 66 23) from (hq_476.i9 66 23 rfl rfl)))
              have g_488 : (G_475.1 66 23).toInt = (G_461.1 66 23).toInt := (congrArg Int32.toInt (show G_475.1 66 23 = (G_461.1 66 23) from ((hq_476.i9 66 23 rfl rfl).trans (rfl))))
              have b_489 : 0 ≤ (G_475.1 66 4).toInt ∧ (G_475.1 66 4).toInt ≤ 1600 := bd_66_4 hB_G_475
              exact ih_5 (9 - (G_475.1 66 24).toInt + x_7.toInt : Int).toNat ((by first | (clear hnf b_10 b_12 f_15 f_17 d_8 d_9 d_10 b_27 f_387 hp_385 c_394 f_416 hp_414 g_472 g_473 d_72 d_73 b_489; omega) | omega)) _ _ _ ⟨G_475, x_7, (Int.toNat_of_nonneg ((by first | exact ok_899 f_14.1 c_457 g_466 d_70 b_479.2 | omega))), ⟨(by first | exact f_14.1 | omega), (by first | exact f_14.2 | omega)⟩, ((by first | exact ⟨(by first | exact ok_796 hun.1 g_481 | omega), ⟨(by first | exact ok_892 f_15.2.1 g_21 g_469 d_71 g_482 | omega), ⟨(by first | exact ok_893 f_15.2.2.1 u_28.1 u_28.2.1 g_465 g_466 g_469 d_69 d_70 d_71 b_479.1 b_479.2 b_485.2 | omega), ⟨(by first | exact ok_894 hun.2.2.2.1 hun.2.2.2.2.1 f_15.2.2.2.1 g_21 g_458 hp_463 g_482 b_486.1 g_487 | omega), ⟨(by first | exact ok_895 d_62.1 g_458 hp_463 b_486.2 g_487 | omega), ⟨(by first | exact ok_900 c_457 g_466 d_70 b_479.2 | omega), ⟨((by first | (clear hnf b_10 b_12 hn_18 f_14 f_15 f_17 d_8 d_9 d_10 b_27 c_380 f_387 hp_385 c_394 hp_414 g_472 g_473 d_72 d_73 b_489; omega) | omega)), (fun h9 => ⟨(by first | exact ok_901 f_15.2.2.2.2.1 d_62.1 g_410 d_68 g_458 hp_463 g_487 | omega), (by first | exact ok_902 c_457 g_466 d_70 b_479.2 | omega)⟩)⟩⟩⟩⟩⟩⟩⟩ | omega)), ((by first | exact ok_862 hun.2.2.2.2.1 f_16 g_458 hp_463 b_486.1 g_487 | omega)), ((by first | exact ⟨(by first | exact ok_869 b_12.2 f_17.1 g_472 d_72 b_489.1 | omega), (fun h9 => by have q0_ := d_10 (by first | (clear hnf hun b_1 u_2 b_9 b_10 b_11 hn_18 f_14 f_15 f_16 f_17 d_1 d_2 d_3 d_4 d_5 d_6 d_7 d_8 d_10 g_20 g_21 g_22 b_23 b_24 b_25 b_26 u_28 c_380 c_381 d_62 f_387 hp_385 c_394 g_410 f_416 hp_414 c_417 d_68 c_457 g_458 g_459 hp_463 g_465 g_466 g_469 g_470 g_471 g_473 d_69 d_70 d_71 d_73 b_479 g_481 g_482 g_483 g_484 b_485 b_486 g_487 g_488; omega) | omega); have q1_ := d_73 (by first | (clear hnf hun b_1 u_2 b_9 b_10 b_11 hn_18 f_14 f_15 f_16 f_17 d_1 d_2 d_3 d_4 d_5 d_6 d_7 d_8 d_10 g_20 g_21 g_22 b_23 b_24 b_25 b_26 u_28 c_380 c_381 d_62 f_387 hp_385 c_394 g_410 f_416 hp_414 c_417 d_68 c_457 g_458 g_459 hp_463 g_465 g_466 g_469 g_470 g_471 g_473 d_69 d_70 d_71 d_73 b_479 g_481 g_482 g_483 g_484 b_485 b_486 g_487 g_488; omega) | omega); (first | (clear hnf hun b_1 u_2 b_9 b_10 b_11 b_12 hn_18 f_14 f_15 f_16 f_17 d_1 d_2 d_3 d_4 d_5 d_6 d_7 d_8 d_9 d_10 g_20 g_21 g_22 b_23 b_24 b_25 b_26 b_27 u_28 c_380 c_381 d_62 f_387 hp_385 g_410 f_416 hp_414 c_417 d_68 c_457 g_458 g_459 hp_463 g_465 g_466 g_469 g_470 g_471 g_472 d_69 d_70 d_71 d_72 d_73 b_479 g_481 g_482 g_483 g_484 b_485 b_486 g_487 g_488 b_489; omega) | omega))⟩ | omega)), (hX_8.st (St_n_unit_1_mk ⟨x_7, G_3, x_7, G_475, rfl, rfl, f_14, f_15, f_16, f_17, hB_G_3, ⟨c_380, ⟨c_381, ⟨r_382, G_383, hX_386, (Or.inr ⟨G_390, hX_393, hB_G_390, hq_392, (Or.inl ⟨c_394, ⟨r_411, G_412, hX_415, (Or.inl ⟨c_417, (Or.inl ⟨c_457, ⟨G_461, hX_464, ⟨G_475, hX_478, ⟨rfl, rfl⟩⟩⟩⟩)⟩)⟩⟩)⟩)⟩⟩⟩⟩)), hW, hB_G_475, hF, (Fr.call9 (rs := [75]) (fs := [(66, 2), (66, 3), (66, 4), (66, 6), (66, 7), (66, 8), (66, 9), (66, 20), (66, 21), (66, 23), (66, 24)]) (Fr.call9 (rs := [75]) (fs := [(66, 2), (66, 3), (66, 4), (66, 6), (66, 7), (66, 8), (66, 9), (66, 20), (66, 21), (66, 23), (66, 24)]) (Fr.call9 (rs := [75]) (fs := [(66, 2), (66, 3), (66, 4), (66, 6), (66, 7), (66, 8), (66, 9), (66, 20), (66, 21), (66, 23), (66, 24)]) (Fr.call9 (rs := [75]) (fs := [(66, 2), (66, 3), (66, 4), (66, 6), (66, 7), (66, 8), (66, 9), (66, 20), (66, 21), (66, 23), (66, 24)]) (Fr.call9 (rs := [75]) (fs := [(66, 2), (66, 3), (66, 4), (66, 6), (66, 7), (66, 8), (66, 9), (66, 20), (66, 21), (66, 23), (66, 24)]) (Fr.call9 (rs := [75]) (fs := [(66, 2), (66, 3), (66, 4), (66, 6), (66, 7), (66, 8), (66, 9), (66, 20), (66, 21), (66, 23), (66, 24)]) Fr.rf hq_4 rfl rfl) hq_384 rfl rfl) hq_392 rfl rfl) hq_413 rfl rfl) hq_462 rfl rfl) hq_476 rfl rfl), hS, lv_sub hl [0, 1] rfl⟩
            · have c_457 : 6 < (G_3.1 66 24).toInt := xI_nle rfl rfl c_457
              refine lv_aload_n hx hb dX12_unit_78 rfl (lv_at hl 1 rfl) ?_
              refine ic_2 hx hb dX12_unit_79 ?_
              have qc_490 : (2 : Int32).toInt = 2 := rfl
              refine S_callv (va_runV (As := [.int 2]) (rest := []) ⟨hx, hb, hml, hown, hts⟩ (n_wrong l D k A a z G_412 2 ⟨by decide, by decide⟩) (cwV 1 hts (gd_V hgd m1670 m1672 m59 m131 m1673) rfl rfl rfl hd_X12_wrong ⟨Nat.le_of_ble_eq_true rfl, Nat.le_of_ble_eq_true rfl⟩) (pre_W hW hB_G_412 hK hZ hS kd_66 rfl) rfl rfl hl.1 rfl (lv_room (Nat.le_of_ble_eq_true rfl)) dX12_unit_80 ⟨Nat.le_of_ble_eq_true rfl, Nat.le_of_ble_eq_true rfl⟩) hS (fun G_492 H locs hpo hW hS => ?_)
              have hX_495 : Q_wrong 2 G_412 G_492 := hpo
              obtain ⟨hB_G_492, hq_493, hp_494, -⟩ := hpo
              have hF := hF.call9 hq_493 rfl rfl
              refine lv_aload_n hx hb dX12_unit_83 rfl (lv_at hl 1 rfl) ?_
              have g_496 : (G_492.1 66 23).toInt = (G_3.1 66 23).toInt := (congrArg Int32.toInt (show G_492.1 66 23 = (G_3.1 66 23) from ((hq_493.i9 66 23 rfl rfl).trans ((hq_413.i9 66 23 rfl rfl).trans ((hq_392.i9 66 23 rfl rfl).trans ((hq_384.i9 66 23 rfl rfl).trans (rfl)))))))
              have g_497 : (G_492.1 66 23).toInt = (G_3.1 66 23).toInt := (congrArg Int32.toInt (show G_492.1 66 23 = (G_3.1 66 23) from ((hq_493.i9 66 23 rfl rfl).trans ((hq_413.i9 66 23 rfl rfl).trans ((hq_392.i9 66 23 rfl rfl).trans ((hq_384.i9 66 23 rfl rfl).trans (rfl)))))))
              refine S_callv (va_runV (As := []) (rest := []) ⟨hx, hb, hml, hown, hts⟩ (n_countUnit l D k A a z G_492  ((by first | exact ok_888 f_15.2.2.2.2.1 b_25.2 g_496 | omega))) (cwV 0 hts (gd_V hgd m1733 m1735 m74 m131 m1736) rfl rfl rfl hd_X12_countUnit ⟨Nat.le_of_ble_eq_true rfl, Nat.le_of_ble_eq_true rfl⟩) (pre_W hW hB_G_492 hK hZ hS kd_66 rfl) rfl rfl hl.1 rfl (lv_room (Nat.le_of_ble_eq_true rfl)) dX12_unit_84 ⟨Nat.le_of_ble_eq_true rfl, Nat.le_of_ble_eq_true rfl⟩) hS (fun G_499 H locs hpo hW hS => ?_)
              have hX_502 : Q_countUnit G_492 G_499 := hpo
              obtain ⟨hB_G_499, hq_500, hp_501, -⟩ := hpo
              have hF := hF.call9 hq_500 rfl rfl
              refine lv_aload_n hx hb dX12_unit_87 rfl (lv_at hl 1 rfl) ?_
              refine lv_bipush (v := 20) hx hb dX12_unit_88 (by decide) ?_
              have g_503 : (G_499.1 66 20).toInt = (G_3.1 66 20).toInt := (congrArg Int32.toInt (show G_499.1 66 20 = (G_3.1 66 20) from ((hq_500.i9 66 20 rfl rfl).trans ((hq_493.i9 66 20 rfl rfl).trans ((hq_413.i9 66 20 rfl rfl).trans ((hq_392.i9 66 20 rfl rfl).trans ((hq_384.i9 66 20 rfl rfl).trans (rfl))))))))
              have g_504 : (G_499.1 66 24).toInt = (G_3.1 66 24).toInt := (congrArg Int32.toInt (show G_499.1 66 24 = (G_3.1 66 24) from ((hq_500.i9 66 24 rfl rfl).trans ((hq_493.i9 66 24 rfl rfl).trans ((hq_413.i9 66 24 rfl rfl).trans ((hq_392.i9 66 24 rfl rfl).trans ((hq_384.i9 66 24 rfl rfl).trans (rfl))))))))
              have qc_505 : (20 : Int32).toInt = 20 := rfl
              have fr_506 : Fr [] [(66, 2), (66, 3), (66, 21), (66, 23)] G_3 G_499 := (Fr.call9 (rs := []) (fs := [(66, 2), (66, 3), (66, 21), (66, 23)]) (Fr.call9 (rs := []) (fs := [(66, 2), (66, 3), (66, 21), (66, 23)]) (Fr.call9 (rs := []) (fs := [(66, 2), (66, 3), (66, 21), (66, 23)]) (Fr.call9 (rs := []) (fs := [(66, 2), (66, 3), (66, 21), (66, 23)]) (Fr.call9 (rs := []) (fs := [(66, 2), (66, 3), (66, 21), (66, 23)]) Fr.rf hq_384 rfl rfl) hq_392 rfl rfl) hq_413 rfl rfl) hq_493 rfl rfl) hq_500 rfl rfl)
              have g_507 : gB G_499 = gB G_3 := gB_fr fr_506 (gr_q rfl) (gf_q rfl)
              have g_508 : (G_499.1 66 20).toInt = (G_3.1 66 20).toInt := (congrArg Int32.toInt (show G_499.1 66 20 = (G_3.1 66 20) from ((hq_500.i9 66 20 rfl rfl).trans ((hq_493.i9 66 20 rfl rfl).trans ((hq_413.i9 66 20 rfl rfl).trans ((hq_392.i9 66 20 rfl rfl).trans ((hq_384.i9 66 20 rfl rfl).trans (rfl))))))))
              have g_509 : (G_499.1 66 24).toInt = (G_3.1 66 24).toInt := (congrArg Int32.toInt (show G_499.1 66 24 = (G_3.1 66 24) from ((hq_500.i9 66 24 rfl rfl).trans ((hq_493.i9 66 24 rfl rfl).trans ((hq_413.i9 66 24 rfl rfl).trans ((hq_392.i9 66 24 rfl rfl).trans ((hq_384.i9 66 24 rfl rfl).trans (rfl))))))))
              have g_510 : (G_499.1 66 4).toInt = (G_3.1 66 4).toInt := (congrArg Int32.toInt (show G_499.1 66 4 = (G_3.1 66 4) from ((hq_500.i9 66 4 rfl rfl).trans ((hq_493.i9 66 4 rfl rfl).trans ((hq_413.i9 66 4 rfl rfl).trans ((hq_392.i9 66 4 rfl rfl).trans ((hq_384.i9 66 4 rfl rfl).trans (rfl))))))))
              have g_511 : (G_499.1 66 6).toInt = (G_3.1 66 6).toInt := (congrArg Int32.toInt (show G_499.1 66 6 = (G_3.1 66 6) from ((hq_500.i9 66 6 rfl rfl).trans ((hq_493.i9 66 6 rfl rfl).trans ((hq_413.i9 66 6 rfl rfl).trans ((hq_392.i9 66 6 rfl rfl).trans ((hq_384.i9 66 6 rfl rfl).trans (rfl))))))))
              refine S_callv (va_runV (As := [.int 20]) (rest := []) ⟨hx, hb, hml, hown, hts⟩ (n_openUp l D k A a z G_499 20 ⟨by decide, by decide⟩ ((by first | exact ⟨(by first | exact ok_889 f_15.2.1 f_15.2.2.1 f_15.2.2.2.1 b_24.2 d_62.1 d_62.2 g_503 | omega), (by first | exact ok_903 f_15.2.2.2.2.2.1 g_504 | omega)⟩ | omega))) (cwV 1 hts (gd_V hgd m1725 m1727 m72 m131 m1728) rfl rfl rfl hd_X12_openUp ⟨Nat.le_of_ble_eq_true rfl, Nat.le_of_ble_eq_true rfl⟩) (pre_W hW hB_G_499 hK hZ hS kd_66 rfl) rfl rfl hl.1 rfl (lv_room (Nat.le_of_ble_eq_true rfl)) dX12_unit_90 ⟨Nat.le_of_ble_eq_true rfl, Nat.le_of_ble_eq_true rfl⟩) hS (fun G_513 H locs hpo hW hS => ?_)
              have hX_516 : Q_openUp 20 G_499 G_513 := hpo
              obtain ⟨hB_G_513, hq_514, ⟨d_74, d_75, d_76, d_77, d_78⟩, -⟩ := hpo
              have hF := hF.call9 hq_514 rfl rfl
              refine lv_goto (tgt := 2) hx hb dX12_unit_93 rfl ?_
              have b_517 : (-1) ≤ (G_513.1 66 24).toInt ∧ (G_513.1 66 24).toInt ≤ 200 := bd_66_24 hB_G_513
              have fr_518 : Fr [75] [(66, 2), (66, 3), (66, 4), (66, 6), (66, 7), (66, 8), (66, 9), (66, 20), (66, 21), (66, 23), (66, 24)] G G_513 := (Fr.call9 (rs := [75]) (fs := [(66, 2), (66, 3), (66, 4), (66, 6), (66, 7), (66, 8), (66, 9), (66, 20), (66, 21), (66, 23), (66, 24)]) (Fr.call9 (rs := [75]) (fs := [(66, 2), (66, 3), (66, 4), (66, 6), (66, 7), (66, 8), (66, 9), (66, 20), (66, 21), (66, 23), (66, 24)]) (Fr.call9 (rs := [75]) (fs := [(66, 2), (66, 3), (66, 4), (66, 6), (66, 7), (66, 8), (66, 9), (66, 20), (66, 21), (66, 23), (66, 24)]) (Fr.call9 (rs := [75]) (fs := [(66, 2), (66, 3), (66, 4), (66, 6), (66, 7), (66, 8), (66, 9), (66, 20), (66, 21), (66, 23), (66, 24)]) (Fr.call9 (rs := [75]) (fs := [(66, 2), (66, 3), (66, 4), (66, 6), (66, 7), (66, 8), (66, 9), (66, 20), (66, 21), (66, 23), (66, 24)]) (Fr.call9 (rs := [75]) (fs := [(66, 2), (66, 3), (66, 4), (66, 6), (66, 7), (66, 8), (66, 9), (66, 20), (66, 21), (66, 23), (66, 24)]) (Fr.call9 (rs := [75]) (fs := [(66, 2), (66, 3), (66, 4), (66, 6), (66, 7), (66, 8), (66, 9), (66, 20), (66, 21), (66, 23), (66, 24)]) Fr.rf hq_4 rfl rfl) hq_384 rfl rfl) hq_392 rfl rfl) hq_413 rfl rfl) hq_493 rfl rfl) hq_500 rfl rfl) hq_514 rfl rfl)
              have g_519 : gC G_513 = gC G := gC_fr fr_518 (gr_q rfl) (gf_q rfl)
              have g_520 : gD G_513 = gD G := gD_fr fr_518 (gr_q rfl) (gf_q rfl)
              have g_521 : gM G_513 = gM G := gM_fr fr_518 (gr_q rfl) (gf_q rfl)
              have b_522 : 0 ≤ (G_492.1 66 2).toInt ∧ (G_492.1 66 2).toInt ≤ 4 := bd_66_2 hB_G_492
              have g_523 : (G_513.1 66 2).toInt = (G_492.1 66 2).toInt := (congrArg Int32.toInt (show G_513.1 66 2 = (G_492.1 66 2) from ((hq_514.i9 66 2 rfl rfl).trans (hq_500.i9 66 2 rfl rfl))))
              have b_524 : 0 ≤ (G_513.1 66 20).toInt ∧ (G_513.1 66 20).toInt ≤ 160 := bd_66_20 hB_G_513
              have b_525 : 0 ≤ (G_499.1 66 23).toInt ∧ (G_499.1 66 23).toInt ≤ 40 := bd_66_23 hB_G_499
              have g_526 : (G_513.1 66 23).toInt = (G_499.1 66 23).toInt := (congrArg Int32.toInt (show G_513.1 66 23 = (G_499.1 66 23) from (hq_514.i9 66 23 rfl rfl)))
              have g_527 : (G_513.1 66 23).toInt = (G_499.1 66 23).toInt := (congrArg Int32.toInt (show G_513.1 66 23 = (G_499.1 66 23) from ((hq_514.i9 66 23 rfl rfl).trans (rfl))))
              have b_528 : 0 ≤ (G_513.1 66 4).toInt ∧ (G_513.1 66 4).toInt ≤ 1600 := bd_66_4 hB_G_513
              exact ih_5 (9 - (G_513.1 66 24).toInt + x_7.toInt : Int).toNat ((by first | (clear hnf b_10 b_12 f_15 f_17 d_8 d_9 d_10 b_27 f_387 hp_385 c_394 f_416 hp_414 hp_494 g_510 g_511 d_77 d_78 b_522 g_523 b_528; omega) | omega)) _ _ _ ⟨G_513, x_7, (Int.toNat_of_nonneg ((by first | exact ok_891 f_14.1 d_62.2 g_504 d_75 b_517.2 | omega))), ⟨(by first | exact f_14.1 | omega), (by first | exact f_14.2 | omega)⟩, ((by first | exact ⟨(by first | exact ok_796 hun.1 g_519 | omega), ⟨(by first | exact ok_892 f_15.2.1 g_21 g_507 d_76 g_520 | omega), ⟨(by first | exact ok_893 f_15.2.2.1 u_28.1 u_28.2.1 g_503 g_504 g_507 d_74 d_75 d_76 b_517.1 b_517.2 b_524.2 | omega), ⟨(by first | exact ok_894 hun.2.2.2.1 hun.2.2.2.2.1 f_15.2.2.2.1 g_21 g_496 hp_501 g_520 b_525.1 g_526 | omega), ⟨(by first | exact ok_895 d_62.1 g_496 hp_501 b_525.2 g_526 | omega), ⟨(by first | exact ok_896 d_62.2 g_504 d_75 b_517.2 | omega), ⟨((by first | (clear hnf b_10 b_12 hn_18 f_14 f_15 f_17 d_8 d_9 d_10 b_27 c_380 f_387 hp_385 c_394 hp_414 hp_494 g_510 g_511 d_77 d_78 b_522 g_523 b_528; omega) | omega)), (fun h9 => ⟨(by first | exact ok_904 d_62.1 g_410 d_68 g_496 hp_501 g_526 | omega), ((by first | (clear hnf b_10 b_12 hn_18 f_14 f_15 f_17 d_8 d_9 d_10 b_27 c_380 f_387 hp_385 c_394 f_416 hp_414 g_510 g_511 d_77 d_78 b_528; omega) | omega))⟩)⟩⟩⟩⟩⟩⟩⟩ | omega)), ((by first | exact ok_862 hun.2.2.2.2.1 f_16 g_496 hp_501 b_525.1 g_526 | omega)), ((by first | exact ⟨(by first | exact ok_869 b_12.2 f_17.1 g_510 d_77 b_528.1 | omega), (fun h9 => by have q0_ := d_10 (by first | (clear hnf hun b_1 u_2 b_9 b_10 b_11 hn_18 f_14 f_15 f_16 f_17 d_1 d_2 d_3 d_4 d_5 d_6 d_7 d_8 d_10 g_20 g_21 g_22 b_23 b_24 b_25 b_26 u_28 c_380 c_381 d_62 f_387 hp_385 c_394 g_410 f_416 hp_414 c_417 d_68 c_457 hp_494 g_496 g_497 hp_501 g_503 g_504 g_507 g_508 g_509 g_511 d_74 d_75 d_76 d_78 b_517 g_519 g_520 g_521 b_522 g_523 b_524 b_525 g_526 g_527; omega) | omega); have q1_ := d_78 (by first | (clear hnf hun b_1 u_2 b_9 b_10 b_11 hn_18 f_14 f_15 f_16 f_17 d_1 d_2 d_3 d_4 d_5 d_6 d_7 d_8 d_10 g_20 g_21 g_22 b_23 b_24 b_25 b_26 u_28 c_380 c_381 d_62 f_387 hp_385 c_394 g_410 f_416 hp_414 c_417 d_68 c_457 hp_494 g_496 g_497 hp_501 g_503 g_504 g_507 g_508 g_509 g_511 d_74 d_75 d_76 d_78 b_517 g_519 g_520 g_521 b_522 g_523 b_524 b_525 g_526 g_527; omega) | omega); (first | (clear hnf hun b_1 u_2 b_9 b_10 b_11 b_12 hn_18 f_14 f_15 f_16 f_17 d_1 d_2 d_3 d_4 d_5 d_6 d_7 d_8 d_9 d_10 g_20 g_21 g_22 b_23 b_24 b_25 b_26 b_27 u_28 c_380 c_381 d_62 f_387 hp_385 g_410 f_416 hp_414 c_417 d_68 c_457 hp_494 g_496 g_497 hp_501 g_503 g_504 g_507 g_508 g_509 g_510 d_74 d_75 d_76 d_77 d_78 b_517 g_519 g_520 g_521 b_522 g_523 b_524 b_525 g_526 g_527 b_528; omega) | omega))⟩ | omega)), (hX_8.st (St_n_unit_1_mk ⟨x_7, G_3, x_7, G_513, rfl, rfl, f_14, f_15, f_16, f_17, hB_G_3, ⟨c_380, ⟨c_381, ⟨r_382, G_383, hX_386, (Or.inr ⟨G_390, hX_393, hB_G_390, hq_392, (Or.inl ⟨c_394, ⟨r_411, G_412, hX_415, (Or.inl ⟨c_417, (Or.inr ⟨c_457, ⟨G_492, hX_495, ⟨G_499, hX_502, ⟨G_513, hX_516, ⟨rfl, rfl⟩⟩⟩⟩⟩)⟩)⟩⟩)⟩)⟩⟩⟩⟩)), hW, hB_G_513, hF, (Fr.call9 (rs := [75]) (fs := [(66, 2), (66, 3), (66, 4), (66, 6), (66, 7), (66, 8), (66, 9), (66, 20), (66, 21), (66, 23), (66, 24)]) (Fr.call9 (rs := [75]) (fs := [(66, 2), (66, 3), (66, 4), (66, 6), (66, 7), (66, 8), (66, 9), (66, 20), (66, 21), (66, 23), (66, 24)]) (Fr.call9 (rs := [75]) (fs := [(66, 2), (66, 3), (66, 4), (66, 6), (66, 7), (66, 8), (66, 9), (66, 20), (66, 21), (66, 23), (66, 24)]) (Fr.call9 (rs := [75]) (fs := [(66, 2), (66, 3), (66, 4), (66, 6), (66, 7), (66, 8), (66, 9), (66, 20), (66, 21), (66, 23), (66, 24)]) (Fr.call9 (rs := [75]) (fs := [(66, 2), (66, 3), (66, 4), (66, 6), (66, 7), (66, 8), (66, 9), (66, 20), (66, 21), (66, 23), (66, 24)]) (Fr.call9 (rs := [75]) (fs := [(66, 2), (66, 3), (66, 4), (66, 6), (66, 7), (66, 8), (66, 9), (66, 20), (66, 21), (66, 23), (66, 24)]) (Fr.call9 (rs := [75]) (fs := [(66, 2), (66, 3), (66, 4), (66, 6), (66, 7), (66, 8), (66, 9), (66, 20), (66, 21), (66, 23), (66, 24)]) Fr.rf hq_4 rfl rfl) hq_384 rfl rfl) hq_392 rfl rfl) hq_413 rfl rfl) hq_493 rfl rfl) hq_500 rfl rfl) hq_514 rfl rfl), hS, lv_sub hl [0, 1] rfl⟩
      refine lv_if_eq (tgt := 53) hx hb dX12_unit_20 rfl (fun c_529 => ?_) (fun c_529 => ?_)
      · have c_529 : r_382.toInt = 0 := xI_eq rfl rfl c_529
        exact hJ_391 () _ _ _ ⟨G_383, (Jn_n_unit_3_mk (Or.inl ⟨c_529, rfl⟩)), hW, hB_G_383, hF, (Fr.rf (rs := []) (fs := [])), hS, lv_sub hl [0, 1] rfl⟩
      · have c_529 : r_382.toInt ≠ 0 := xI_ne rfl rfl c_529
        refine lv_aload_n hx hb dX12_unit_23 rfl (lv_at hl 1 rfl) ?_
        refine S_calli (va_runV (As := []) (rest := []) ⟨hx, hb, hml, hown, hts⟩ (n_mayNot l D k A a z G_383  ) (cwV 0 hts (gd_V hgd m1718 m1720 m71 m131 m1721) rfl rfl rfl hd_X12_mayNot ⟨Nat.le_of_ble_eq_true rfl, Nat.le_of_ble_eq_true rfl⟩) (pre_W hW hB_G_383 hK hZ hS kd_66 rfl) rfl rfl hl.1 rfl (lv_room (Nat.le_of_ble_eq_true rfl)) dX12_unit_24 ⟨Nat.le_of_ble_eq_true rfl, Nat.le_of_ble_eq_true rfl⟩) hS (fun r_530 G_531 H locs hpo hW hS => ?_)
        have hX_534 : Q_mayNot G_383 r_530 G_531 := hpo
        obtain ⟨hB_G_531, hq_532, f_535, -⟩ := hpo
        have hF := hF.call9 hq_532 rfl rfl
        refine lv_if_eq (tgt := 53) hx hb dX12_unit_27 rfl (fun c_536 => ?_) (fun c_536 => ?_)
        · have c_536 : r_530.toInt = 0 := xI_eq rfl rfl c_536
          exact hJ_391 () _ _ _ ⟨G_531, (Jn_n_unit_3_mk (Or.inr ⟨c_529, ⟨r_530, G_531, hX_534, ⟨c_536, rfl⟩⟩⟩)), hW, hB_G_531, hF, (Fr.call9 (rs := []) (fs := []) Fr.rf hq_532 rfl rfl), hS, lv_sub hl [0, 1] rfl⟩
        · have c_536 : r_530.toInt ≠ 0 := xI_ne rfl rfl c_536
          refine lv_aload_n hx hb dX12_unit_30 rfl (lv_at hl 1 rfl) ?_
          refine S_getI (v := (G_3.1 66 24)) (C := RX12) (T := TX12) (N := 89) hx hb hg iX12 hown hK hW kd_66 rfl 24 (lt_b rfl) (hg (Cond.fieldLink RX12 309 "SlabWalkModel" "deep" "I") m1338) (fun _ h9 => h9) rfl ((hq_532.i9 66 24 rfl rfl).trans ((hq_384.i9 66 24 rfl rfl).trans (rfl))) dX12_unit_31 ?_
          refine lv_bipush (v := 6) hx hb dX12_unit_34 (by decide) ?_
          refine lv_icmp_le (tgt := 44) hx hb dX12_unit_36 rfl (fun c_537 => ?_) (fun c_537 => ?_)
          · have c_537 : (G_3.1 66 24).toInt ≤ 6 := xI_le rfl rfl c_537
            refine lv_aload_n hx hb dX12_unit_44 rfl (lv_at hl 1 rfl) ?_
            refine lv_bipush (v := 21) hx hb dX12_unit_45 (by decide) ?_
            have g_538 : (G_531.1 66 20).toInt = (G_3.1 66 20).toInt := (congrArg Int32.toInt (show G_531.1 66 20 = (G_3.1 66 20) from ((hq_532.i9 66 20 rfl rfl).trans ((hq_384.i9 66 20 rfl rfl).trans (rfl)))))
            have g_539 : (G_531.1 66 24).toInt = (G_3.1 66 24).toInt := (congrArg Int32.toInt (show G_531.1 66 24 = (G_3.1 66 24) from ((hq_532.i9 66 24 rfl rfl).trans ((hq_384.i9 66 24 rfl rfl).trans (rfl)))))
            have qc_540 : (21 : Int32).toInt = 21 := rfl
            have fr_541 : Fr [] [] G_3 G_531 := (Fr.call9 (rs := []) (fs := []) (Fr.call9 (rs := []) (fs := []) Fr.rf hq_384 rfl rfl) hq_532 rfl rfl)
            have g_542 : gB G_531 = gB G_3 := gB_fr fr_541 (gr_q rfl) (gf_q rfl)
            have g_543 : (G_531.1 66 20).toInt = (G_3.1 66 20).toInt := (congrArg Int32.toInt (show G_531.1 66 20 = (G_3.1 66 20) from ((hq_532.i9 66 20 rfl rfl).trans ((hq_384.i9 66 20 rfl rfl).trans (rfl)))))
            have g_544 : (G_531.1 66 24).toInt = (G_3.1 66 24).toInt := (congrArg Int32.toInt (show G_531.1 66 24 = (G_3.1 66 24) from ((hq_532.i9 66 24 rfl rfl).trans ((hq_384.i9 66 24 rfl rfl).trans (rfl)))))
            have g_545 : (G_531.1 66 4).toInt = (G_3.1 66 4).toInt := (congrArg Int32.toInt (show G_531.1 66 4 = (G_3.1 66 4) from ((hq_532.i9 66 4 rfl rfl).trans ((hq_384.i9 66 4 rfl rfl).trans (rfl)))))
            have g_546 : (G_531.1 66 6).toInt = (G_3.1 66 6).toInt := (congrArg Int32.toInt (show G_531.1 66 6 = (G_3.1 66 6) from ((hq_532.i9 66 6 rfl rfl).trans ((hq_384.i9 66 6 rfl rfl).trans (rfl)))))
            refine S_callv (va_runV (As := [.int 21]) (rest := []) ⟨hx, hb, hml, hown, hts⟩ (n_openUp l D k A a z G_531 21 ⟨by decide, by decide⟩ ((by first | exact ⟨(by first | exact ok_898 f_15.2.1 f_15.2.2.1 f_15.2.2.2.1 b_24.2 d_62.1 c_537 g_538 | omega), (by first | exact ok_890 d_62.2 g_539 | omega)⟩ | omega))) (cwV 1 hts (gd_V hgd m1725 m1727 m72 m131 m1728) rfl rfl rfl hd_X12_openUp ⟨Nat.le_of_ble_eq_true rfl, Nat.le_of_ble_eq_true rfl⟩) (pre_W hW hB_G_531 hK hZ hS kd_66 rfl) rfl rfl hl.1 rfl (lv_room (Nat.le_of_ble_eq_true rfl)) dX12_unit_47 ⟨Nat.le_of_ble_eq_true rfl, Nat.le_of_ble_eq_true rfl⟩) hS (fun G_548 H locs hpo hW hS => ?_)
            have hX_551 : Q_openUp 21 G_531 G_548 := hpo
            obtain ⟨hB_G_548, hq_549, ⟨d_79, d_80, d_81, d_82, d_83⟩, -⟩ := hpo
            have hF := hF.call9 hq_549 rfl rfl
            refine lv_goto (tgt := 2) hx hb dX12_unit_50 rfl ?_
            have b_552 : (-1) ≤ (G_548.1 66 24).toInt ∧ (G_548.1 66 24).toInt ≤ 200 := bd_66_24 hB_G_548
            have fr_553 : Fr [75] [(66, 2), (66, 3), (66, 4), (66, 6), (66, 7), (66, 8), (66, 9), (66, 20), (66, 21), (66, 23), (66, 24)] G G_548 := (Fr.call9 (rs := [75]) (fs := [(66, 2), (66, 3), (66, 4), (66, 6), (66, 7), (66, 8), (66, 9), (66, 20), (66, 21), (66, 23), (66, 24)]) (Fr.call9 (rs := [75]) (fs := [(66, 2), (66, 3), (66, 4), (66, 6), (66, 7), (66, 8), (66, 9), (66, 20), (66, 21), (66, 23), (66, 24)]) (Fr.call9 (rs := [75]) (fs := [(66, 2), (66, 3), (66, 4), (66, 6), (66, 7), (66, 8), (66, 9), (66, 20), (66, 21), (66, 23), (66, 24)]) (Fr.call9 (rs := [75]) (fs := [(66, 2), (66, 3), (66, 4), (66, 6), (66, 7), (66, 8), (66, 9), (66, 20), (66, 21), (66, 23), (66, 24)]) Fr.rf hq_4 rfl rfl) hq_384 rfl rfl) hq_532 rfl rfl) hq_549 rfl rfl)
            have g_554 : gC G_548 = gC G := gC_fr fr_553 (gr_q rfl) (gf_q rfl)
            have g_555 : gD G_548 = gD G := gD_fr fr_553 (gr_q rfl) (gf_q rfl)
            have g_556 : gM G_548 = gM G := gM_fr fr_553 (gr_q rfl) (gf_q rfl)
            have g_557 : (G_548.1 66 2).toInt = (G_3.1 66 2).toInt := (congrArg Int32.toInt (show G_548.1 66 2 = (G_3.1 66 2) from ((hq_549.i9 66 2 rfl rfl).trans ((hq_532.i9 66 2 rfl rfl).trans ((hq_384.i9 66 2 rfl rfl).trans (rfl))))))
            have b_558 : 0 ≤ (G_548.1 66 20).toInt ∧ (G_548.1 66 20).toInt ≤ 160 := bd_66_20 hB_G_548
            have g_559 : (G_548.1 66 23).toInt = (G_3.1 66 23).toInt := (congrArg Int32.toInt (show G_548.1 66 23 = (G_3.1 66 23) from ((hq_549.i9 66 23 rfl rfl).trans ((hq_532.i9 66 23 rfl rfl).trans ((hq_384.i9 66 23 rfl rfl).trans (rfl))))))
            have g_560 : (G_548.1 66 23).toInt = (G_3.1 66 23).toInt := (congrArg Int32.toInt (show G_548.1 66 23 = (G_3.1 66 23) from ((hq_549.i9 66 23 rfl rfl).trans ((hq_532.i9 66 23 rfl rfl).trans ((hq_384.i9 66 23 rfl rfl).trans (rfl))))))
            have b_561 : 0 ≤ (G_548.1 66 4).toInt ∧ (G_548.1 66 4).toInt ≤ 1600 := bd_66_4 hB_G_548
            exact ih_5 (9 - (G_548.1 66 24).toInt + x_7.toInt : Int).toNat ((by first | (clear hnf b_10 b_12 f_15 f_17 d_8 d_9 d_10 b_27 f_387 hp_385 c_529 f_535 c_536 g_545 g_546 d_82 d_83 b_561; omega) | omega)) _ _ _ ⟨G_548, x_7, (Int.toNat_of_nonneg ((by first | exact ok_899 f_14.1 c_537 g_539 d_80 b_552.2 | omega))), ⟨(by first | exact f_14.1 | omega), (by first | exact f_14.2 | omega)⟩, ((by first | exact ⟨(by first | exact ok_796 hun.1 g_554 | omega), ⟨(by first | exact ok_892 f_15.2.1 g_21 g_542 d_81 g_555 | omega), ⟨(by first | exact ok_893 f_15.2.2.1 u_28.1 u_28.2.1 g_538 g_539 g_542 d_79 d_80 d_81 b_552.1 b_552.2 b_558.2 | omega), ⟨(by first | exact ok_876 f_15.2.2.2.1 g_21 g_555 g_559 | omega), ⟨(by first | exact ok_905 b_25.2 d_62.1 g_559 | omega), ⟨(by first | exact ok_900 c_537 g_539 d_80 b_552.2 | omega), ⟨(by first | exact ok_906 f_15.2.2.2.2.2.2.1 g_22 d_62.2 g_538 g_539 d_79 d_80 b_552.1 g_556 g_559 | omega), (fun h9 => ⟨(by first | exact ok_907 b_25.2 d_62.1 g_559 | omega), (by first | exact ok_902 c_537 g_539 d_80 b_552.2 | omega)⟩)⟩⟩⟩⟩⟩⟩⟩ | omega)), ((by first | exact ok_347 f_16 g_559 | omega)), ((by first | exact ⟨(by first | exact ok_869 b_12.2 f_17.1 g_545 d_82 b_561.1 | omega), (fun h9 => by have q0_ := d_10 (by first | (clear hnf hun b_1 u_2 b_9 b_10 b_11 hn_18 f_14 f_15 f_16 f_17 d_1 d_2 d_3 d_4 d_5 d_6 d_7 d_8 d_10 g_20 g_21 g_22 b_23 b_24 b_25 b_26 u_28 c_380 c_381 d_62 f_387 hp_385 c_529 f_535 c_536 c_537 g_538 g_539 g_542 g_543 g_544 g_546 d_79 d_80 d_81 d_83 b_552 g_554 g_555 g_556 g_557 b_558 g_559 g_560; omega) | omega); have q1_ := d_83 (by first | (clear hnf hun b_1 u_2 b_9 b_10 b_11 hn_18 f_14 f_15 f_16 f_17 d_1 d_2 d_3 d_4 d_5 d_6 d_7 d_8 d_10 g_20 g_21 g_22 b_23 b_24 b_25 b_26 u_28 c_380 c_381 d_62 f_387 hp_385 c_529 f_535 c_536 c_537 g_538 g_539 g_542 g_543 g_544 g_546 d_79 d_80 d_81 d_83 b_552 g_554 g_555 g_556 g_557 b_558 g_559 g_560; omega) | omega); (first | (clear hnf hun b_1 u_2 b_9 b_10 b_11 b_12 hn_18 f_14 f_15 f_16 f_17 d_1 d_2 d_3 d_4 d_5 d_6 d_7 d_8 d_9 d_10 g_20 g_21 g_22 b_23 b_24 b_25 b_26 b_27 u_28 c_380 c_381 d_62 f_387 hp_385 c_529 f_535 c_536 c_537 g_538 g_539 g_542 g_543 g_544 g_545 d_79 d_80 d_81 d_82 d_83 b_552 g_554 g_555 g_556 g_557 b_558 g_559 g_560 b_561; omega) | omega))⟩ | omega)), (hX_8.st (St_n_unit_1_mk ⟨x_7, G_3, x_7, G_548, rfl, rfl, f_14, f_15, f_16, f_17, hB_G_3, ⟨c_380, ⟨c_381, ⟨r_382, G_383, hX_386, (Or.inl ⟨c_529, ⟨r_530, G_531, hX_534, ⟨c_536, (Or.inl ⟨c_537, ⟨G_548, hX_551, ⟨rfl, rfl⟩⟩⟩)⟩⟩⟩)⟩⟩⟩⟩)), hW, hB_G_548, hF, (Fr.call9 (rs := [75]) (fs := [(66, 2), (66, 3), (66, 4), (66, 6), (66, 7), (66, 8), (66, 9), (66, 20), (66, 21), (66, 23), (66, 24)]) (Fr.call9 (rs := [75]) (fs := [(66, 2), (66, 3), (66, 4), (66, 6), (66, 7), (66, 8), (66, 9), (66, 20), (66, 21), (66, 23), (66, 24)]) (Fr.call9 (rs := [75]) (fs := [(66, 2), (66, 3), (66, 4), (66, 6), (66, 7), (66, 8), (66, 9), (66, 20), (66, 21), (66, 23), (66, 24)]) (Fr.call9 (rs := [75]) (fs := [(66, 2), (66, 3), (66, 4), (66, 6), (66, 7), (66, 8), (66, 9), (66, 20), (66, 21), (66, 23), (66, 24)]) Fr.rf hq_4 rfl rfl) hq_384 rfl rfl) hq_532 rfl rfl) hq_549 rfl rfl), hS, lv_sub hl [0, 1] rfl⟩
          · have c_537 : 6 < (G_3.1 66 24).toInt := xI_nle rfl rfl c_537
            refine lv_aload_n hx hb dX12_unit_39 rfl (lv_at hl 1 rfl) ?_
            refine ic_2 hx hb dX12_unit_40 ?_
            have qc_562 : (2 : Int32).toInt = 2 := rfl
            refine S_callv (va_runV (As := [.int 2]) (rest := []) ⟨hx, hb, hml, hown, hts⟩ (n_wrong l D k A a z G_531 2 ⟨by decide, by decide⟩) (cwV 1 hts (gd_V hgd m1670 m1672 m59 m131 m1673) rfl rfl rfl hd_X12_wrong ⟨Nat.le_of_ble_eq_true rfl, Nat.le_of_ble_eq_true rfl⟩) (pre_W hW hB_G_531 hK hZ hS kd_66 rfl) rfl rfl hl.1 rfl (lv_room (Nat.le_of_ble_eq_true rfl)) dX12_unit_41 ⟨Nat.le_of_ble_eq_true rfl, Nat.le_of_ble_eq_true rfl⟩) hS (fun G_564 H locs hpo hW hS => ?_)
            have hX_567 : Q_wrong 2 G_531 G_564 := hpo
            obtain ⟨hB_G_564, hq_565, hp_566, -⟩ := hpo
            have hF := hF.call9 hq_565 rfl rfl
            refine lv_aload_n hx hb dX12_unit_44 rfl (lv_at hl 1 rfl) ?_
            refine lv_bipush (v := 21) hx hb dX12_unit_45 (by decide) ?_
            have g_568 : (G_564.1 66 20).toInt = (G_3.1 66 20).toInt := (congrArg Int32.toInt (show G_564.1 66 20 = (G_3.1 66 20) from ((hq_565.i9 66 20 rfl rfl).trans ((hq_532.i9 66 20 rfl rfl).trans ((hq_384.i9 66 20 rfl rfl).trans (rfl))))))
            have g_569 : (G_564.1 66 24).toInt = (G_3.1 66 24).toInt := (congrArg Int32.toInt (show G_564.1 66 24 = (G_3.1 66 24) from ((hq_565.i9 66 24 rfl rfl).trans ((hq_532.i9 66 24 rfl rfl).trans ((hq_384.i9 66 24 rfl rfl).trans (rfl))))))
            have qc_570 : (21 : Int32).toInt = 21 := rfl
            have fr_571 : Fr [] [(66, 2), (66, 3)] G_3 G_564 := (Fr.call9 (rs := []) (fs := [(66, 2), (66, 3)]) (Fr.call9 (rs := []) (fs := [(66, 2), (66, 3)]) (Fr.call9 (rs := []) (fs := [(66, 2), (66, 3)]) Fr.rf hq_384 rfl rfl) hq_532 rfl rfl) hq_565 rfl rfl)
            have g_572 : gB G_564 = gB G_3 := gB_fr fr_571 (gr_q rfl) (gf_q rfl)
            have g_573 : (G_564.1 66 20).toInt = (G_3.1 66 20).toInt := (congrArg Int32.toInt (show G_564.1 66 20 = (G_3.1 66 20) from ((hq_565.i9 66 20 rfl rfl).trans ((hq_532.i9 66 20 rfl rfl).trans ((hq_384.i9 66 20 rfl rfl).trans (rfl))))))
            have g_574 : (G_564.1 66 24).toInt = (G_3.1 66 24).toInt := (congrArg Int32.toInt (show G_564.1 66 24 = (G_3.1 66 24) from ((hq_565.i9 66 24 rfl rfl).trans ((hq_532.i9 66 24 rfl rfl).trans ((hq_384.i9 66 24 rfl rfl).trans (rfl))))))
            have g_575 : (G_564.1 66 4).toInt = (G_3.1 66 4).toInt := (congrArg Int32.toInt (show G_564.1 66 4 = (G_3.1 66 4) from ((hq_565.i9 66 4 rfl rfl).trans ((hq_532.i9 66 4 rfl rfl).trans ((hq_384.i9 66 4 rfl rfl).trans (rfl))))))
            have g_576 : (G_564.1 66 6).toInt = (G_3.1 66 6).toInt := (congrArg Int32.toInt (show G_564.1 66 6 = (G_3.1 66 6) from ((hq_565.i9 66 6 rfl rfl).trans ((hq_532.i9 66 6 rfl rfl).trans ((hq_384.i9 66 6 rfl rfl).trans (rfl))))))
            refine S_callv (va_runV (As := [.int 21]) (rest := []) ⟨hx, hb, hml, hown, hts⟩ (n_openUp l D k A a z G_564 21 ⟨by decide, by decide⟩ ((by first | exact ⟨(by first | exact ok_889 f_15.2.1 f_15.2.2.1 f_15.2.2.2.1 b_24.2 d_62.1 d_62.2 g_568 | omega), (by first | exact ok_903 f_15.2.2.2.2.2.1 g_569 | omega)⟩ | omega))) (cwV 1 hts (gd_V hgd m1725 m1727 m72 m131 m1728) rfl rfl rfl hd_X12_openUp ⟨Nat.le_of_ble_eq_true rfl, Nat.le_of_ble_eq_true rfl⟩) (pre_W hW hB_G_564 hK hZ hS kd_66 rfl) rfl rfl hl.1 rfl (lv_room (Nat.le_of_ble_eq_true rfl)) dX12_unit_47 ⟨Nat.le_of_ble_eq_true rfl, Nat.le_of_ble_eq_true rfl⟩) hS (fun G_578 H locs hpo hW hS => ?_)
            have hX_581 : Q_openUp 21 G_564 G_578 := hpo
            obtain ⟨hB_G_578, hq_579, ⟨d_84, d_85, d_86, d_87, d_88⟩, -⟩ := hpo
            have hF := hF.call9 hq_579 rfl rfl
            refine lv_goto (tgt := 2) hx hb dX12_unit_50 rfl ?_
            have b_582 : (-1) ≤ (G_578.1 66 24).toInt ∧ (G_578.1 66 24).toInt ≤ 200 := bd_66_24 hB_G_578
            have fr_583 : Fr [75] [(66, 2), (66, 3), (66, 4), (66, 6), (66, 7), (66, 8), (66, 9), (66, 20), (66, 21), (66, 23), (66, 24)] G G_578 := (Fr.call9 (rs := [75]) (fs := [(66, 2), (66, 3), (66, 4), (66, 6), (66, 7), (66, 8), (66, 9), (66, 20), (66, 21), (66, 23), (66, 24)]) (Fr.call9 (rs := [75]) (fs := [(66, 2), (66, 3), (66, 4), (66, 6), (66, 7), (66, 8), (66, 9), (66, 20), (66, 21), (66, 23), (66, 24)]) (Fr.call9 (rs := [75]) (fs := [(66, 2), (66, 3), (66, 4), (66, 6), (66, 7), (66, 8), (66, 9), (66, 20), (66, 21), (66, 23), (66, 24)]) (Fr.call9 (rs := [75]) (fs := [(66, 2), (66, 3), (66, 4), (66, 6), (66, 7), (66, 8), (66, 9), (66, 20), (66, 21), (66, 23), (66, 24)]) (Fr.call9 (rs := [75]) (fs := [(66, 2), (66, 3), (66, 4), (66, 6), (66, 7), (66, 8), (66, 9), (66, 20), (66, 21), (66, 23), (66, 24)]) Fr.rf hq_4 rfl rfl) hq_384 rfl rfl) hq_532 rfl rfl) hq_565 rfl rfl) hq_579 rfl rfl)
            have g_584 : gC G_578 = gC G := gC_fr fr_583 (gr_q rfl) (gf_q rfl)
            have g_585 : gD G_578 = gD G := gD_fr fr_583 (gr_q rfl) (gf_q rfl)
            have g_586 : gM G_578 = gM G := gM_fr fr_583 (gr_q rfl) (gf_q rfl)
            have b_587 : 0 ≤ (G_564.1 66 2).toInt ∧ (G_564.1 66 2).toInt ≤ 4 := bd_66_2 hB_G_564
            have g_588 : (G_578.1 66 2).toInt = (G_564.1 66 2).toInt := (congrArg Int32.toInt (show G_578.1 66 2 = (G_564.1 66 2) from (hq_579.i9 66 2 rfl rfl)))
            have b_589 : 0 ≤ (G_578.1 66 20).toInt ∧ (G_578.1 66 20).toInt ≤ 160 := bd_66_20 hB_G_578
            have g_590 : (G_578.1 66 23).toInt = (G_3.1 66 23).toInt := (congrArg Int32.toInt (show G_578.1 66 23 = (G_3.1 66 23) from ((hq_579.i9 66 23 rfl rfl).trans ((hq_565.i9 66 23 rfl rfl).trans ((hq_532.i9 66 23 rfl rfl).trans ((hq_384.i9 66 23 rfl rfl).trans (rfl)))))))
            have g_591 : (G_578.1 66 23).toInt = (G_3.1 66 23).toInt := (congrArg Int32.toInt (show G_578.1 66 23 = (G_3.1 66 23) from ((hq_579.i9 66 23 rfl rfl).trans ((hq_565.i9 66 23 rfl rfl).trans ((hq_532.i9 66 23 rfl rfl).trans ((hq_384.i9 66 23 rfl rfl).trans (rfl)))))))
            have b_592 : 0 ≤ (G_578.1 66 4).toInt ∧ (G_578.1 66 4).toInt ≤ 1600 := bd_66_4 hB_G_578
            exact ih_5 (9 - (G_578.1 66 24).toInt + x_7.toInt : Int).toNat ((by first | (clear hnf b_10 b_12 f_15 f_17 d_8 d_9 d_10 b_27 f_387 hp_385 c_529 f_535 c_536 hp_566 g_575 g_576 d_87 d_88 b_587 g_588 b_592; omega) | omega)) _ _ _ ⟨G_578, x_7, (Int.toNat_of_nonneg ((by first | exact ok_891 f_14.1 d_62.2 g_569 d_85 b_582.2 | omega))), ⟨(by first | exact f_14.1 | omega), (by first | exact f_14.2 | omega)⟩, ((by first | exact ⟨(by first | exact ok_796 hun.1 g_584 | omega), ⟨(by first | exact ok_892 f_15.2.1 g_21 g_572 d_86 g_585 | omega), ⟨(by first | exact ok_893 f_15.2.2.1 u_28.1 u_28.2.1 g_568 g_569 g_572 d_84 d_85 d_86 b_582.1 b_582.2 b_589.2 | omega), ⟨(by first | exact ok_876 f_15.2.2.2.1 g_21 g_585 g_590 | omega), ⟨(by first | exact ok_908 d_62.1 g_590 | omega), ⟨(by first | exact ok_896 d_62.2 g_569 d_85 b_582.2 | omega), ⟨(by first | exact ok_909 f_15.2.2.2.2.2.2.1 g_22 g_568 g_569 d_84 d_85 g_586 g_590 | omega), (fun h9 => ⟨(by first | exact ok_910 d_62.1 g_590 | omega), ((by first | (clear hnf b_10 b_12 hn_18 f_14 f_15 f_17 d_8 d_9 d_10 b_27 c_380 f_387 hp_385 c_529 f_535 c_536 g_575 g_576 d_87 d_88 b_592; omega) | omega))⟩)⟩⟩⟩⟩⟩⟩⟩ | omega)), ((by first | exact ok_347 f_16 g_590 | omega)), ((by first | exact ⟨(by first | exact ok_869 b_12.2 f_17.1 g_575 d_87 b_592.1 | omega), (fun h9 => by have q0_ := d_10 (by first | (clear hnf hun b_1 u_2 b_9 b_10 b_11 hn_18 f_14 f_15 f_16 f_17 d_1 d_2 d_3 d_4 d_5 d_6 d_7 d_8 d_10 g_20 g_21 g_22 b_23 b_24 b_25 b_26 u_28 c_380 c_381 d_62 f_387 hp_385 c_529 f_535 c_536 c_537 hp_566 g_568 g_569 g_572 g_573 g_574 g_576 d_84 d_85 d_86 d_88 b_582 g_584 g_585 g_586 b_587 g_588 b_589 g_590 g_591; omega) | omega); have q1_ := d_88 (by first | (clear hnf hun b_1 u_2 b_9 b_10 b_11 hn_18 f_14 f_15 f_16 f_17 d_1 d_2 d_3 d_4 d_5 d_6 d_7 d_8 d_10 g_20 g_21 g_22 b_23 b_24 b_25 b_26 u_28 c_380 c_381 d_62 f_387 hp_385 c_529 f_535 c_536 c_537 hp_566 g_568 g_569 g_572 g_573 g_574 g_576 d_84 d_85 d_86 d_88 b_582 g_584 g_585 g_586 b_587 g_588 b_589 g_590 g_591; omega) | omega); (first | (clear hnf hun b_1 u_2 b_9 b_10 b_11 b_12 hn_18 f_14 f_15 f_16 f_17 d_1 d_2 d_3 d_4 d_5 d_6 d_7 d_8 d_9 d_10 g_20 g_21 g_22 b_23 b_24 b_25 b_26 b_27 u_28 c_380 c_381 d_62 f_387 hp_385 c_529 f_535 c_536 c_537 hp_566 g_568 g_569 g_572 g_573 g_574 g_575 d_84 d_85 d_86 d_87 d_88 b_582 g_584 g_585 g_586 b_587 g_588 b_589 g_590 g_591 b_592; omega) | omega))⟩ | omega)), (hX_8.st (St_n_unit_1_mk ⟨x_7, G_3, x_7, G_578, rfl, rfl, f_14, f_15, f_16, f_17, hB_G_3, ⟨c_380, ⟨c_381, ⟨r_382, G_383, hX_386, (Or.inl ⟨c_529, ⟨r_530, G_531, hX_534, ⟨c_536, (Or.inr ⟨c_537, ⟨G_564, hX_567, ⟨G_578, hX_581, ⟨rfl, rfl⟩⟩⟩⟩)⟩⟩⟩)⟩⟩⟩⟩)), hW, hB_G_578, hF, (Fr.call9 (rs := [75]) (fs := [(66, 2), (66, 3), (66, 4), (66, 6), (66, 7), (66, 8), (66, 9), (66, 20), (66, 21), (66, 23), (66, 24)]) (Fr.call9 (rs := [75]) (fs := [(66, 2), (66, 3), (66, 4), (66, 6), (66, 7), (66, 8), (66, 9), (66, 20), (66, 21), (66, 23), (66, 24)]) (Fr.call9 (rs := [75]) (fs := [(66, 2), (66, 3), (66, 4), (66, 6), (66, 7), (66, 8), (66, 9), (66, 20), (66, 21), (66, 23), (66, 24)]) (Fr.call9 (rs := [75]) (fs := [(66, 2), (66, 3), (66, 4), (66, 6), (66, 7), (66, 8), (66, 9), (66, 20), (66, 21), (66, 23), (66, 24)]) (Fr.call9 (rs := [75]) (fs := [(66, 2), (66, 3), (66, 4), (66, 6), (66, 7), (66, 8), (66, 9), (66, 20), (66, 21), (66, 23), (66, 24)]) Fr.rf hq_4 rfl rfl) hq_384 rfl rfl) hq_532 rfl rfl) hq_565 rfl rfl) hq_579 rfl rfl), hS, lv_sub hl [0, 1] rfl⟩

theorem m70 : Cond.selects RX12 yX12_unit yX12_unit ∈ gd := gds_5 6 rfl
theorem m77 : Cond.selects RX12 yX12_sign yX12_sign ∈ gd := gds_5 13 rfl
theorem m78 : Cond.selects RX12 yX12_hasBracket yX12_hasBracket ∈ gd := gds_5 14 rfl
theorem m79 : Cond.selects RX12 yX12_close yX12_close ∈ gd := gds_5 15 rfl
theorem m80 : Cond.selects RX12 yX12_hasRelation yX12_hasRelation ∈ gd := gds_6 0 rfl
theorem m1714 : Cond.methodLink RX12 333 yX12_unit ∈ gd := gdc_7_9 14 rfl gw_methodLink
theorem m1716 : Cond.instanceMethod yX12_unit ∈ gd := gdc_7_10 0 rfl gw_instanceMethod
theorem m1717 : Cond.code yX12_unit cX12_unit 3 none ∈ gd := gdc_7_10 1 rfl gw_code
theorem m1745 : Cond.methodLink RX12 336 yX12_sign ∈ gd := gdc_7_11 13 rfl gw_methodLink
theorem m1747 : Cond.instanceMethod yX12_sign ∈ gd := gdc_7_11 15 rfl gw_instanceMethod
theorem m1748 : Cond.code yX12_sign cX12_sign 1 (some .int) ∈ gd := gdc_7_12 0 rfl gw_code
theorem m1749 : Cond.methodLink RX12 339 yX12_hasBracket ∈ gd := gdc_7_12 1 rfl gw_methodLink
theorem m1751 : Cond.instanceMethod yX12_hasBracket ∈ gd := gdc_7_12 3 rfl gw_instanceMethod
theorem m1752 : Cond.code yX12_hasBracket cX12_hasBracket 3 (some .boolean) ∈ gd := gdc_7_12 4 rfl gw_code
theorem m1753 : Cond.methodLink RX12 342 yX12_close ∈ gd := gdc_7_12 5 rfl gw_methodLink
theorem m1755 : Cond.instanceMethod yX12_close ∈ gd := gdc_7_12 7 rfl gw_instanceMethod
theorem m1756 : Cond.code yX12_close cX12_close 2 none ∈ gd := gdc_7_12 8 rfl gw_code
theorem m1757 : Cond.methodLink RX12 345 yX12_hasRelation ∈ gd := gdc_7_12 9 rfl gw_methodLink
theorem m1759 : Cond.instanceMethod yX12_hasRelation ∈ gd := gdc_7_12 11 rfl gw_instanceMethod
theorem m1760 : Cond.code yX12_hasRelation cX12_hasRelation 2 (some .boolean) ∈ gd := gdc_7_12 12 rfl gw_code
noncomputable def rbX12_formula_0 : List (Nat × List Nat) := [(0, [42]), (1, [27]), (2, [181, 1, 40]), (5, [42]), (6, [180, 0, 27]), (9, [42]), (10, [180, 1, 40]), (13, [3]), (14, [79]), (15, [42]), (16, [3]), (17, [181, 1, 43]), (20, [42]), (21, [3]), (22, [181, 1, 53]), (25, [42]), (26, [3]), (27, [181, 1, 59]), (30, [42]), (31, [182, 1, 77]), (34, [4]), (35, [61]), (36, [28]), (37, [153, 0, 126])]
theorem rcX12_formula_0 : dgo (lb cX12_formula) 0 rbX12_formula_0 = true := by decide +kernel
theorem dX12_formula_0 : decode cX12_formula 0 = .ok (.aload_n 0, 1) := dk_42 (dw rcX12_formula_0 0 rfl)
theorem dX12_formula_1 : decode cX12_formula 1 = .ok (.iload_n 1, 1) := dk_27 (dw rcX12_formula_0 1 rfl)
theorem dX12_formula_2 : decode cX12_formula 2 = .ok (.putfield 296, 3) := dk_181 (dw rcX12_formula_0 2 rfl) rfl
theorem dX12_formula_5 : decode cX12_formula 5 = .ok (.aload_n 0, 1) := dk_42 (dw rcX12_formula_0 3 rfl)
theorem dX12_formula_6 : decode cX12_formula 6 = .ok (.getfield 27, 3) := dk_180 (dw rcX12_formula_0 4 rfl) rfl
theorem dX12_formula_9 : decode cX12_formula 9 = .ok (.aload_n 0, 1) := dk_42 (dw rcX12_formula_0 5 rfl)
theorem dX12_formula_10 : decode cX12_formula 10 = .ok (.getfield 296, 3) := dk_180 (dw rcX12_formula_0 6 rfl) rfl
theorem dX12_formula_13 : decode cX12_formula 13 = .ok (.iconst 0, 1) := dk_3 (dw rcX12_formula_0 7 rfl)
theorem dX12_formula_14 : decode cX12_formula 14 = .ok (.iastore, 1) := dk_79 (dw rcX12_formula_0 8 rfl)
theorem dX12_formula_15 : decode cX12_formula 15 = .ok (.aload_n 0, 1) := dk_42 (dw rcX12_formula_0 9 rfl)
theorem dX12_formula_16 : decode cX12_formula 16 = .ok (.iconst 0, 1) := dk_3 (dw rcX12_formula_0 10 rfl)
theorem dX12_formula_17 : decode cX12_formula 17 = .ok (.putfield 299, 3) := dk_181 (dw rcX12_formula_0 11 rfl) rfl
theorem dX12_formula_20 : decode cX12_formula 20 = .ok (.aload_n 0, 1) := dk_42 (dw rcX12_formula_0 12 rfl)
theorem dX12_formula_21 : decode cX12_formula 21 = .ok (.iconst 0, 1) := dk_3 (dw rcX12_formula_0 13 rfl)
theorem dX12_formula_22 : decode cX12_formula 22 = .ok (.putfield 309, 3) := dk_181 (dw rcX12_formula_0 14 rfl) rfl
theorem dX12_formula_25 : decode cX12_formula 25 = .ok (.aload_n 0, 1) := dk_42 (dw rcX12_formula_0 15 rfl)
theorem dX12_formula_26 : decode cX12_formula 26 = .ok (.iconst 0, 1) := dk_3 (dw rcX12_formula_0 16 rfl)
theorem dX12_formula_27 : decode cX12_formula 27 = .ok (.putfield 315, 3) := dk_181 (dw rcX12_formula_0 17 rfl) rfl
theorem dX12_formula_30 : decode cX12_formula 30 = .ok (.aload_n 0, 1) := dk_42 (dw rcX12_formula_0 18 rfl)
theorem dX12_formula_31 : decode cX12_formula 31 = .ok (.invokevirtual 333, 3) := dk_182 (dw rcX12_formula_0 19 rfl) rfl
theorem dX12_formula_34 : decode cX12_formula 34 = .ok (.iconst 1, 1) := dk_4 (dw rcX12_formula_0 20 rfl)
theorem dX12_formula_35 : decode cX12_formula 35 = .ok (.istore_n 2, 1) := dk_61 (dw rcX12_formula_0 21 rfl)
theorem dX12_formula_36 : decode cX12_formula 36 = .ok (.iload_n 2, 1) := dk_28 (dw rcX12_formula_0 22 rfl)
theorem dX12_formula_37 : decode cX12_formula 37 = .ok (.ifCond .eq 126, 3) := dk_153 (dw rcX12_formula_0 23 rfl) rfl
noncomputable def rbX12_formula_40 : List (Nat × List Nat) := [(40, [42]), (41, [180, 0, 218]), (44, [154, 0, 119]), (47, [42]), (48, [182, 1, 80]), (51, [62]), (52, [42]), (53, [180, 0, 205]), (56, [16, 41]), (58, [160, 0, 42]), (61, [42]), (62, [182, 1, 83]), (65, [153, 0, 35]), (68, [42]), (69, [3]), (70, [182, 1, 86]), (73, [42]), (74, [89]), (75, [180, 1, 43]), (78, [4]), (79, [100]), (80, [181, 1, 43]), (83, [42]), (84, [89])]
theorem rcX12_formula_40 : dgo (lb cX12_formula) 0 rbX12_formula_40 = true := by decide +kernel
theorem dX12_formula_40 : decode cX12_formula 40 = .ok (.aload_n 0, 1) := dk_42 (dw rcX12_formula_40 0 rfl)
theorem dX12_formula_41 : decode cX12_formula 41 = .ok (.getfield 218, 3) := dk_180 (dw rcX12_formula_40 1 rfl) rfl
theorem dX12_formula_44 : decode cX12_formula 44 = .ok (.ifCond .ne 119, 3) := dk_154 (dw rcX12_formula_40 2 rfl) rfl
theorem dX12_formula_47 : decode cX12_formula 47 = .ok (.aload_n 0, 1) := dk_42 (dw rcX12_formula_40 3 rfl)
theorem dX12_formula_48 : decode cX12_formula 48 = .ok (.invokevirtual 336, 3) := dk_182 (dw rcX12_formula_40 4 rfl) rfl
theorem dX12_formula_51 : decode cX12_formula 51 = .ok (.istore_n 3, 1) := dk_62 (dw rcX12_formula_40 5 rfl)
theorem dX12_formula_52 : decode cX12_formula 52 = .ok (.aload_n 0, 1) := dk_42 (dw rcX12_formula_40 6 rfl)
theorem dX12_formula_53 : decode cX12_formula 53 = .ok (.getfield 205, 3) := dk_180 (dw rcX12_formula_40 7 rfl) rfl
theorem dX12_formula_56 : decode cX12_formula 56 = .ok (.bipush 41, 2) := dk_16 (dw rcX12_formula_40 8 rfl) rfl
theorem dX12_formula_58 : decode cX12_formula 58 = .ok (.if_icmp .ne 42, 3) := dk_160 (dw rcX12_formula_40 9 rfl) rfl
theorem dX12_formula_61 : decode cX12_formula 61 = .ok (.aload_n 0, 1) := dk_42 (dw rcX12_formula_40 10 rfl)
theorem dX12_formula_62 : decode cX12_formula 62 = .ok (.invokevirtual 339, 3) := dk_182 (dw rcX12_formula_40 11 rfl) rfl
theorem dX12_formula_65 : decode cX12_formula 65 = .ok (.ifCond .eq 35, 3) := dk_153 (dw rcX12_formula_40 12 rfl) rfl
theorem dX12_formula_68 : decode cX12_formula 68 = .ok (.aload_n 0, 1) := dk_42 (dw rcX12_formula_40 13 rfl)
theorem dX12_formula_69 : decode cX12_formula 69 = .ok (.iconst 0, 1) := dk_3 (dw rcX12_formula_40 14 rfl)
theorem dX12_formula_70 : decode cX12_formula 70 = .ok (.invokevirtual 342, 3) := dk_182 (dw rcX12_formula_40 15 rfl) rfl
theorem dX12_formula_73 : decode cX12_formula 73 = .ok (.aload_n 0, 1) := dk_42 (dw rcX12_formula_40 16 rfl)
theorem dX12_formula_74 : decode cX12_formula 74 = .ok (.dup, 1) := dk_89 (dw rcX12_formula_40 17 rfl)
theorem dX12_formula_75 : decode cX12_formula 75 = .ok (.getfield 299, 3) := dk_180 (dw rcX12_formula_40 18 rfl) rfl
theorem dX12_formula_78 : decode cX12_formula 78 = .ok (.iconst 1, 1) := dk_4 (dw rcX12_formula_40 19 rfl)
theorem dX12_formula_79 : decode cX12_formula 79 = .ok (.isub, 1) := dk_100 (dw rcX12_formula_40 20 rfl)
theorem dX12_formula_80 : decode cX12_formula 80 = .ok (.putfield 299, 3) := dk_181 (dw rcX12_formula_40 21 rfl) rfl
theorem dX12_formula_83 : decode cX12_formula 83 = .ok (.aload_n 0, 1) := dk_42 (dw rcX12_formula_40 22 rfl)
theorem dX12_formula_84 : decode cX12_formula 84 = .ok (.dup, 1) := dk_89 (dw rcX12_formula_40 23 rfl)
noncomputable def rbX12_formula_85 : List (Nat × List Nat) := [(85, [180, 1, 53]), (88, [4]), (89, [100]), (90, [181, 1, 53]), (93, [42]), (94, [182, 1, 23]), (97, [167, 0, 63]), (100, [29]), (101, [153, 0, 57]), (104, [29]), (105, [184, 1, 46]), (108, [7]), (109, [160, 0, 10]), (112, [42]), (113, [182, 1, 89]), (116, [154, 0, 42]), (119, [42]), (120, [29]), (121, [184, 1, 46]), (124, [182, 1, 86]), (127, [42]), (128, [180, 0, 39]), (131, [42]), (132, [180, 1, 43])]
theorem rcX12_formula_85 : dgo (lb cX12_formula) 0 rbX12_formula_85 = true := by decide +kernel
theorem dX12_formula_85 : decode cX12_formula 85 = .ok (.getfield 309, 3) := dk_180 (dw rcX12_formula_85 0 rfl) rfl
theorem dX12_formula_88 : decode cX12_formula 88 = .ok (.iconst 1, 1) := dk_4 (dw rcX12_formula_85 1 rfl)
theorem dX12_formula_89 : decode cX12_formula 89 = .ok (.isub, 1) := dk_100 (dw rcX12_formula_85 2 rfl)
theorem dX12_formula_90 : decode cX12_formula 90 = .ok (.putfield 309, 3) := dk_181 (dw rcX12_formula_85 3 rfl) rfl
theorem dX12_formula_93 : decode cX12_formula 93 = .ok (.aload_n 0, 1) := dk_42 (dw rcX12_formula_85 4 rfl)
theorem dX12_formula_94 : decode cX12_formula 94 = .ok (.invokevirtual 279, 3) := dk_182 (dw rcX12_formula_85 5 rfl) rfl
theorem dX12_formula_97 : decode cX12_formula 97 = .ok (.goto 63, 3) := dk_167 (dw rcX12_formula_85 6 rfl) rfl
theorem dX12_formula_100 : decode cX12_formula 100 = .ok (.iload_n 3, 1) := dk_29 (dw rcX12_formula_85 7 rfl)
theorem dX12_formula_101 : decode cX12_formula 101 = .ok (.ifCond .eq 57, 3) := dk_153 (dw rcX12_formula_85 8 rfl) rfl
theorem dX12_formula_104 : decode cX12_formula 104 = .ok (.iload_n 3, 1) := dk_29 (dw rcX12_formula_85 9 rfl)
theorem dX12_formula_105 : decode cX12_formula 105 = .ok (.invokestatic 302, 3) := dk_184 (dw rcX12_formula_85 10 rfl) rfl
theorem dX12_formula_108 : decode cX12_formula 108 = .ok (.iconst 4, 1) := dk_7 (dw rcX12_formula_85 11 rfl)
theorem dX12_formula_109 : decode cX12_formula 109 = .ok (.if_icmp .ne 10, 3) := dk_160 (dw rcX12_formula_85 12 rfl) rfl
theorem dX12_formula_112 : decode cX12_formula 112 = .ok (.aload_n 0, 1) := dk_42 (dw rcX12_formula_85 13 rfl)
theorem dX12_formula_113 : decode cX12_formula 113 = .ok (.invokevirtual 345, 3) := dk_182 (dw rcX12_formula_85 14 rfl) rfl
theorem dX12_formula_116 : decode cX12_formula 116 = .ok (.ifCond .ne 42, 3) := dk_154 (dw rcX12_formula_85 15 rfl) rfl
theorem dX12_formula_119 : decode cX12_formula 119 = .ok (.aload_n 0, 1) := dk_42 (dw rcX12_formula_85 16 rfl)
theorem dX12_formula_120 : decode cX12_formula 120 = .ok (.iload_n 3, 1) := dk_29 (dw rcX12_formula_85 17 rfl)
theorem dX12_formula_121 : decode cX12_formula 121 = .ok (.invokestatic 302, 3) := dk_184 (dw rcX12_formula_85 18 rfl) rfl
theorem dX12_formula_124 : decode cX12_formula 124 = .ok (.invokevirtual 342, 3) := dk_182 (dw rcX12_formula_85 19 rfl) rfl
theorem dX12_formula_127 : decode cX12_formula 127 = .ok (.aload_n 0, 1) := dk_42 (dw rcX12_formula_85 20 rfl)
theorem dX12_formula_128 : decode cX12_formula 128 = .ok (.getfield 39, 3) := dk_180 (dw rcX12_formula_85 21 rfl) rfl
theorem dX12_formula_131 : decode cX12_formula 131 = .ok (.aload_n 0, 1) := dk_42 (dw rcX12_formula_85 22 rfl)
theorem dX12_formula_132 : decode cX12_formula 132 = .ok (.getfield 299, 3) := dk_180 (dw rcX12_formula_85 23 rfl) rfl
noncomputable def rbX12_formula_135 : List (Nat × List Nat) := [(135, [29]), (136, [79]), (137, [42]), (138, [89]), (139, [180, 1, 43]), (142, [4]), (143, [96]), (144, [181, 1, 43]), (147, [42]), (148, [182, 1, 23]), (151, [42]), (152, [182, 1, 77]), (155, [167, 0, 5]), (158, [3]), (159, [61]), (160, [167, 255, 132]), (163, [42]), (164, [180, 0, 218]), (167, [154, 0, 15]), (170, [42]), (171, [182, 1, 83]), (174, [153, 0, 8]), (177, [42]), (178, [5])]
theorem rcX12_formula_135 : dgo (lb cX12_formula) 0 rbX12_formula_135 = true := by decide +kernel
theorem dX12_formula_135 : decode cX12_formula 135 = .ok (.iload_n 3, 1) := dk_29 (dw rcX12_formula_135 0 rfl)
theorem dX12_formula_136 : decode cX12_formula 136 = .ok (.iastore, 1) := dk_79 (dw rcX12_formula_135 1 rfl)
theorem dX12_formula_137 : decode cX12_formula 137 = .ok (.aload_n 0, 1) := dk_42 (dw rcX12_formula_135 2 rfl)
theorem dX12_formula_138 : decode cX12_formula 138 = .ok (.dup, 1) := dk_89 (dw rcX12_formula_135 3 rfl)
theorem dX12_formula_139 : decode cX12_formula 139 = .ok (.getfield 299, 3) := dk_180 (dw rcX12_formula_135 4 rfl) rfl
theorem dX12_formula_142 : decode cX12_formula 142 = .ok (.iconst 1, 1) := dk_4 (dw rcX12_formula_135 5 rfl)
theorem dX12_formula_143 : decode cX12_formula 143 = .ok (.iadd, 1) := dk_96 (dw rcX12_formula_135 6 rfl)
theorem dX12_formula_144 : decode cX12_formula 144 = .ok (.putfield 299, 3) := dk_181 (dw rcX12_formula_135 7 rfl) rfl
theorem dX12_formula_147 : decode cX12_formula 147 = .ok (.aload_n 0, 1) := dk_42 (dw rcX12_formula_135 8 rfl)
theorem dX12_formula_148 : decode cX12_formula 148 = .ok (.invokevirtual 279, 3) := dk_182 (dw rcX12_formula_135 9 rfl) rfl
theorem dX12_formula_151 : decode cX12_formula 151 = .ok (.aload_n 0, 1) := dk_42 (dw rcX12_formula_135 10 rfl)
theorem dX12_formula_152 : decode cX12_formula 152 = .ok (.invokevirtual 333, 3) := dk_182 (dw rcX12_formula_135 11 rfl) rfl
theorem dX12_formula_155 : decode cX12_formula 155 = .ok (.goto 5, 3) := dk_167 (dw rcX12_formula_135 12 rfl) rfl
theorem dX12_formula_158 : decode cX12_formula 158 = .ok (.iconst 0, 1) := dk_3 (dw rcX12_formula_135 13 rfl)
theorem dX12_formula_159 : decode cX12_formula 159 = .ok (.istore_n 2, 1) := dk_61 (dw rcX12_formula_135 14 rfl)
theorem dX12_formula_160 : decode cX12_formula 160 = .ok (.goto (-124), 3) := dk_167 (dw rcX12_formula_135 15 rfl) rfl
theorem dX12_formula_163 : decode cX12_formula 163 = .ok (.aload_n 0, 1) := dk_42 (dw rcX12_formula_135 16 rfl)
theorem dX12_formula_164 : decode cX12_formula 164 = .ok (.getfield 218, 3) := dk_180 (dw rcX12_formula_135 17 rfl) rfl
theorem dX12_formula_167 : decode cX12_formula 167 = .ok (.ifCond .ne 15, 3) := dk_154 (dw rcX12_formula_135 18 rfl) rfl
theorem dX12_formula_170 : decode cX12_formula 170 = .ok (.aload_n 0, 1) := dk_42 (dw rcX12_formula_135 19 rfl)
theorem dX12_formula_171 : decode cX12_formula 171 = .ok (.invokevirtual 339, 3) := dk_182 (dw rcX12_formula_135 20 rfl) rfl
theorem dX12_formula_174 : decode cX12_formula 174 = .ok (.ifCond .eq 8, 3) := dk_153 (dw rcX12_formula_135 21 rfl) rfl
theorem dX12_formula_177 : decode cX12_formula 177 = .ok (.aload_n 0, 1) := dk_42 (dw rcX12_formula_135 22 rfl)
theorem dX12_formula_178 : decode cX12_formula 178 = .ok (.iconst 2, 1) := dk_5 (dw rcX12_formula_135 23 rfl)
noncomputable def rbX12_formula_179 : List (Nat × List Nat) := [(179, [182, 1, 26]), (182, [42]), (183, [180, 0, 218]), (186, [154, 0, 8]), (189, [42]), (190, [3]), (191, [182, 1, 86]), (194, [177])]
theorem rcX12_formula_179 : dgo (lb cX12_formula) 0 rbX12_formula_179 = true := by decide +kernel
theorem dX12_formula_179 : decode cX12_formula 179 = .ok (.invokevirtual 282, 3) := dk_182 (dw rcX12_formula_179 0 rfl) rfl
theorem dX12_formula_182 : decode cX12_formula 182 = .ok (.aload_n 0, 1) := dk_42 (dw rcX12_formula_179 1 rfl)
theorem dX12_formula_183 : decode cX12_formula 183 = .ok (.getfield 218, 3) := dk_180 (dw rcX12_formula_179 2 rfl) rfl
theorem dX12_formula_186 : decode cX12_formula 186 = .ok (.ifCond .ne 8, 3) := dk_154 (dw rcX12_formula_179 3 rfl) rfl
theorem dX12_formula_189 : decode cX12_formula 189 = .ok (.aload_n 0, 1) := dk_42 (dw rcX12_formula_179 4 rfl)
theorem dX12_formula_190 : decode cX12_formula 190 = .ok (.iconst 0, 1) := dk_3 (dw rcX12_formula_179 5 rfl)
theorem dX12_formula_191 : decode cX12_formula 191 = .ok (.invokevirtual 342, 3) := dk_182 (dw rcX12_formula_179 6 rfl) rfl
theorem dX12_formula_194 : decode cX12_formula 194 = .ok (.return_, 1) := dk_177 (dw rcX12_formula_179 7 rfl)
set_option maxHeartbeats 4000000 in
set_option maxRecDepth 100000 in
theorem n_formula (l : Launch) (D : va_G) (k : KT) (A : Nat → Prop) (a : Nat → Nat) (z : SK) (G : GS) (p0 : Int32) (ha_p0 : 0 ≤ p0.toInt ∧ p0.toInt ≤ 5) (hnf : (G.1 66 2).toInt = 0) (hE9 : gE G = 1) (hp9 : p0.toInt = (G.1 66 47).toInt) : Met l yX12_formula (WS yX12_formula cX12_formula 4 none) ({ frames := 4, cells := 0, slots := 0, locals := 86 }) (va_Pc [.ref (a 66), .int p0] (cW D k A a z G)) (va_Qv (fun (G1 : GS) => Q_formula p0 G G1) (fun (G1 : GS) t => Wd D k A a G1 t.heap) A) 0 0 A := by
  refine Met.ofW (cc := cX12_formula) (maxL := 4) (ret := none) (by decide) rfl ?_
  intro p e s m args below meth c s₁ B hml hv
  obtain ⟨rfl, hW, hB_G, hK, hZ⟩ := hv
  have hx := B.exec
  have hb := B.bytes
  have hr := B.returns
  have hts := atoms_spec (ws := WS yX12_formula cX12_formula 4 none) B.pre
  have hgd : ∀ w ∈ gd, w ∈ WS yX12_formula cX12_formula 4 none := fun w h => List.mem_cons_of_mem _ h
  have hg : ∀ w ∈ gd, w.before _ s = true := fun w h => hts w (hgd w h)
  have hown : s.vm.findClass RX12 = some m.cls := findClass_of_methodNamed B.named
  have hS : va_S A s.heap s.heap [] := va_S.rf
  have hF : Fr [69, 70, 71, 75] [(66, 2), (66, 3), (66, 4), (66, 6), (66, 7), (66, 8), (66, 9), (66, 19), (66, 20), (66, 21), (66, 23), (66, 24)] G G := Fr.rf
  have hl := lv_entry ([.ref (a 66), .int p0]) (n := 4) (Nat.le_of_ble_eq_true rfl)
  rw [lg_entry_eq]
  generalize (lg_sl ([.ref (a 66), .int p0]) ++ List.replicate (4 - (lg_sl ([.ref (a 66), .int p0])).length) Slot.unset).toArray = ls at hl ⊢
  have hl : lv_has ls 4 [(0, .ref (a 66)), (1, .int p0)] := hl
  refine lv_aload_n hx hb dX12_formula_0 rfl (lv_at hl 0 rfl) ?_
  refine lv_iload_n hx hb dX12_formula_1 rfl (lv_at hl 1 rfl) ?_
  refine S_putI (ty := .int) (C := RX12) (T := TX12) (N := 89) hx hb hg iX12 tyX12 tyX12_ok nmX12 hown hK hW hS kd_66 rfl 19 (lt_b rfl) (hg (Cond.fieldLink RX12 296 "SlabWalkModel" "form" "I") m1333) (fun _ h9 => h9) rfl (by decide +kernel) rfl rfl rfl dX12_formula_2 (fun G_1 H locs eG_1 hW hS => ?_)
  have hB_G_1 : Bd G_1 := hB_G.put (V := p0.toInt) (lo := 0) (hi := 5) eG_1 rfl rfl rfl ((by first | exact ha_p0.1 | omega)) ((by first | exact ha_p0.2 | omega)) (hB_G.2.put eG_1 rfl)
  have hF := hF.put eG_1 (Or.inr (by decide))
  refine lv_aload_n hx hb dX12_formula_5 rfl (lv_at hl 0 rfl) ?_
  refine S_getR (n := 71) (C := RX12) (T := TX12) (N := 89) hx hb hg iX12 hown hK hW kd_66 rfl 13 (lt_b rfl) (hg (Cond.fieldLink RX12 27 "SlabWalkModel" "nMany" "[I") m1327) (fun _ h9 => h9) rfl dX12_formula_6 ?_
  refine lv_aload_n hx hb dX12_formula_9 rfl (lv_at hl 0 rfl) ?_
  refine S_getI (v := p0) (C := RX12) (T := TX12) (N := 89) hx hb hg iX12 hown hK hW kd_66 rfl 19 (lt_b rfl) (hg (Cond.fieldLink RX12 296 "SlabWalkModel" "form" "I") m1333) (fun _ h9 => h9) rfl (gp_eq eG_1) dX12_formula_10 ?_
  refine ic_0 hx hb dX12_formula_13 ?_
  refine S_iast hx hb hK hW hS kd_71 (vin ((by first | exact ha_p0.1 | omega)) ((by first | exact ok_398 ha_p0.2 | omega))) dX12_formula_14 (fun G_2 H locs eG_2 hW hS => ?_)
  have hB_G_2 : Bd G_2 := hB_G_1.put (V := 0) (lo := 0) (hi := 320) eG_2 rfl rfl rfl (by decide) (by decide) (hB_G_1.2.put eG_2 rfl)
  have hF := hF.put eG_2 (Or.inl (by decide))
  refine lv_aload_n hx hb dX12_formula_15 rfl (lv_at hl 0 rfl) ?_
  refine ic_0 hx hb dX12_formula_16 ?_
  refine S_putI (ty := .int) (C := RX12) (T := TX12) (N := 89) hx hb hg iX12 tyX12 tyX12_ok nmX12 hown hK hW hS kd_66 rfl 20 (lt_b rfl) (hg (Cond.fieldLink RX12 299 "SlabWalkModel" "opens" "I") m1334) (fun _ h9 => h9) rfl (by decide +kernel) rfl rfl rfl dX12_formula_17 (fun G_3 H locs eG_3 hW hS => ?_)
  have hB_G_3 : Bd G_3 := hB_G_2.put (V := 0) (lo := 0) (hi := 160) eG_3 rfl rfl rfl (by decide) (by decide) (hB_G_2.2.put eG_3 rfl)
  have hF := hF.put eG_3 (Or.inr (by decide))
  refine lv_aload_n hx hb dX12_formula_20 rfl (lv_at hl 0 rfl) ?_
  refine ic_0 hx hb dX12_formula_21 ?_
  refine S_putI (ty := .int) (C := RX12) (T := TX12) (N := 89) hx hb hg iX12 tyX12 tyX12_ok nmX12 hown hK hW hS kd_66 rfl 24 (lt_b rfl) (hg (Cond.fieldLink RX12 309 "SlabWalkModel" "deep" "I") m1338) (fun _ h9 => h9) rfl (by decide +kernel) rfl rfl rfl dX12_formula_22 (fun G_4 H locs eG_4 hW hS => ?_)
  have hB_G_4 : Bd G_4 := hB_G_3.put (V := 0) (lo := (-1)) (hi := 200) eG_4 rfl rfl rfl (by decide) (by decide) (hB_G_3.2.put eG_4 rfl)
  have hF := hF.put eG_4 (Or.inr (by decide))
  refine lv_aload_n hx hb dX12_formula_25 rfl (lv_at hl 0 rfl) ?_
  refine ic_0 hx hb dX12_formula_26 ?_
  refine S_putI (ty := .int) (C := RX12) (T := TX12) (N := 89) hx hb hg iX12 tyX12 tyX12_ok nmX12 hown hK hW hS kd_66 rfl 23 (lt_b rfl) (hg (Cond.fieldLink RX12 315 "SlabWalkModel" "ownUnits" "I") m1337) (fun _ h9 => h9) rfl (by decide +kernel) rfl rfl rfl dX12_formula_27 (fun G_5 H locs eG_5 hW hS => ?_)
  have hB_G_5 : Bd G_5 := hB_G_4.put (V := 0) (lo := 0) (hi := 40) eG_5 rfl rfl rfl (by decide) (by decide) (hB_G_4.2.put eG_5 rfl)
  have hF := hF.put eG_5 (Or.inr (by decide))
  have u_6 := form_gh (G := G) (G1 := G_5) hE9 ((gp_ne eG_5 (by decide)).trans ((gp_ne eG_4 (by decide)).trans ((gp_ne eG_3 (by decide)).trans ((gp_ne eG_2 (fun q => absurd q.1 (Nat.ne_of_beq_eq_false rfl))).trans (gp_eq eG_1))))) hp9 (fun j hj => ((gp_ne eG_5 (fun q => absurd q.1 (Nat.ne_of_beq_eq_false rfl))).trans ((gp_ne eG_4 (fun q => absurd q.1 (Nat.ne_of_beq_eq_false rfl))).trans ((gp_ne eG_3 (fun q => absurd q.1 (Nat.ne_of_beq_eq_false rfl))).trans ((gp_ne eG_2 (fun q => absurd q.1 (Nat.ne_of_beq_eq_false rfl))).trans (gp_ne eG_1 (fun q => absurd q.1 (Nat.ne_of_beq_eq_false rfl)))))))) (fun j hj => ((gp_ne eG_5 (fun q => absurd q.1 (Nat.ne_of_beq_eq_false rfl))).trans ((gp_ne eG_4 (fun q => absurd q.1 (Nat.ne_of_beq_eq_false rfl))).trans ((gp_ne eG_3 (fun q => absurd q.1 (Nat.ne_of_beq_eq_false rfl))).trans ((gp_ne eG_2 (fun q => hj q.2)).trans (gp_ne eG_1 (fun q => absurd q.1 (Nat.ne_of_beq_eq_false rfl)))))))) ((gp_ne eG_5 (fun q => absurd q.1 (Nat.ne_of_beq_eq_false rfl))).trans ((gp_ne eG_4 (fun q => absurd q.1 (Nat.ne_of_beq_eq_false rfl))).trans ((gp_ne eG_3 (fun q => absurd q.1 (Nat.ne_of_beq_eq_false rfl))).trans (gp_eq eG_2)))) ((gp_ne eG_5 (by decide)).trans ((gp_ne eG_4 (by decide)).trans (gp_eq eG_3)))
  refine lv_aload_n hx hb dX12_formula_30 rfl (lv_at hl 0 rfl) ?_
  have b_7 : 0 ≤ (G.1 66 2).toInt ∧ (G.1 66 2).toInt ≤ 4 := bd_66_2 hB_G
  have g_8 : (G_5.1 66 2).toInt = (G.1 66 2).toInt := (congrArg Int32.toInt (show G_5.1 66 2 = (G.1 66 2) from ((gp_ne eG_5 (by decide)).trans ((gp_ne eG_4 (by decide)).trans ((gp_ne eG_3 (by decide)).trans ((gp_ne eG_2 (fun q => absurd q.1 (Nat.ne_of_beq_eq_false rfl))).trans (gp_ne eG_1 (by decide))))))))
  have fr_9 : Fr [] [(66, 23), (66, 24)] G_3 G_5 := (Fr.put (rs := []) (fs := [(66, 23), (66, 24)]) (Fr.put (rs := []) (fs := [(66, 23), (66, 24)]) Fr.rf eG_4 (Or.inr (by decide))) eG_5 (Or.inr (by decide)))
  have g_10 : gB G_5 = gB G_3 := gB_fr fr_9 (gr_q rfl) (gf_q rfl)
  have fr_11 : Fr [] [(66, 20), (66, 23), (66, 24)] G_2 G_5 := (Fr.put (rs := []) (fs := [(66, 20), (66, 23), (66, 24)]) (Fr.put (rs := []) (fs := [(66, 20), (66, 23), (66, 24)]) (Fr.put (rs := []) (fs := [(66, 20), (66, 23), (66, 24)]) Fr.rf eG_3 (Or.inr (by decide))) eG_4 (Or.inr (by decide))) eG_5 (Or.inr (by decide)))
  have g_12 : gC G_5 = gC G_2 := gC_fr fr_11 (gr_q rfl) (gf_q rfl)
  have g_13 : gD G_5 = gD G_2 := gD_fr fr_11 (gr_q rfl) (gf_q rfl)
  have g_14 : gM G_5 = gM G_2 := gM_fr fr_11 (gr_q rfl) (gf_q rfl)
  have g_15 : (G_5.1 66 20).toInt = 0 := (congrArg Int32.toInt (show G_5.1 66 20 = 0 from ((gp_ne eG_5 (by decide)).trans ((gp_ne eG_4 (by decide)).trans (gp_eq eG_3))))).trans rfl
  have g_16 : (G_5.1 66 23).toInt = 0 := (congrArg Int32.toInt (show G_5.1 66 23 = 0 from (gp_eq eG_5))).trans rfl
  have g_17 : (G_5.1 66 24).toInt = 0 := (congrArg Int32.toInt (show G_5.1 66 24 = 0 from ((gp_ne eG_5 (by decide)).trans (gp_eq eG_4)))).trans rfl
  have g_18 : (G_5.1 66 23).toInt = 0 := (congrArg Int32.toInt (show G_5.1 66 23 = 0 from (gp_eq eG_5))).trans rfl
  have b_19 : 0 ≤ (G.1 66 4).toInt ∧ (G.1 66 4).toInt ≤ 1600 := bd_66_4 hB_G
  have g_20 : (G_5.1 66 4).toInt = (G.1 66 4).toInt := (congrArg Int32.toInt (show G_5.1 66 4 = (G.1 66 4) from ((gp_ne eG_5 (by decide)).trans ((gp_ne eG_4 (by decide)).trans ((gp_ne eG_3 (by decide)).trans ((gp_ne eG_2 (fun q => absurd q.1 (Nat.ne_of_beq_eq_false rfl))).trans (gp_ne eG_1 (by decide))))))))
  have g_21 : (G_5.1 66 6).toInt = (G.1 66 6).toInt := (congrArg Int32.toInt (show G_5.1 66 6 = (G.1 66 6) from ((gp_ne eG_5 (by decide)).trans ((gp_ne eG_4 (by decide)).trans ((gp_ne eG_3 (by decide)).trans ((gp_ne eG_2 (fun q => absurd q.1 (Nat.ne_of_beq_eq_false rfl))).trans (gp_ne eG_1 (by decide))))))))
  refine S_callv (va_runV (As := []) (rest := []) ⟨hx, hb, hml, hown, hts⟩ (n_unit l D k A a z G_5  ((by first | exact ok_911 hnf g_8 | omega)) ((by first | exact ⟨((by first | (clear ha_p0 hnf hE9 hp9 b_7 g_8 g_10 g_13 g_14 g_15 g_16 g_17 g_18 b_19 g_20 g_21; omega) | omega)), ⟨((by first | (clear ha_p0 hnf hE9 hp9 b_7 g_8 g_12 g_14 g_15 g_16 g_17 g_18 b_19 g_20 g_21; omega) | omega)), ⟨((by first | (clear ha_p0 hnf hE9 hp9 b_7 g_8 g_12 g_13 g_14 g_16 g_18 b_19 g_20 g_21; omega) | omega)), ⟨((by first | (clear ha_p0 hnf hE9 hp9 b_7 g_8 g_10 g_12 g_14 g_15 g_17 b_19 g_20 g_21; omega) | omega)), ⟨(by first | exact ok_912 g_16 | omega), ⟨(by first | exact ok_913 g_17 | omega), ((by first | (clear ha_p0 hnf hE9 hp9 b_7 g_8 g_10 g_12 g_13 g_17 b_19 g_20 g_21; omega) | omega))⟩⟩⟩⟩⟩⟩ | omega))) (cwV 0 hts (gd_V hgd m1714 m1716 m70 m131 m1717) rfl rfl rfl hd_X12_unit ⟨Nat.le_of_ble_eq_true rfl, Nat.le_of_ble_eq_true rfl⟩) (pre_W hW hB_G_5 hK hZ hS kd_66 rfl) rfl rfl hl.1 rfl (lv_room (Nat.le_of_ble_eq_true rfl)) dX12_formula_31 ⟨Nat.le_of_ble_eq_true rfl, Nat.le_of_ble_eq_true rfl⟩) hS (fun G_23 H locs hpo hW hS => ?_)
  have hX_26 : Q_unit G_5 G_23 := hpo
  obtain ⟨hB_G_23, hq_24, ⟨d_1, d_2, d_3, d_4⟩, -⟩ := hpo
  have hF := hF.call9 hq_24 rfl rfl
  refine ic_1 hx hb dX12_formula_34 ?_
  refine lv_istore_n (lv' := [(2, .int 1), (0, .ref (a 66)), (1, .int p0)]) hx hb dX12_formula_35 rfl hl (lt_b rfl) rfl (fun ls hl => ?_)
  have b_33 : 0 ≤ (G_23.1 66 2).toInt ∧ (G_23.1 66 2).toInt ≤ 4 := bd_66_2 hB_G_23
  have b_34 : 0 ≤ (G_23.1 66 20).toInt ∧ (G_23.1 66 20).toInt ≤ 160 := bd_66_20 hB_G_23
  have b_35 : 0 ≤ (G_23.1 66 23).toInt ∧ (G_23.1 66 23).toInt ≤ 40 := bd_66_23 hB_G_23
  have b_36 : (-1) ≤ (G_23.1 66 24).toInt ∧ (G_23.1 66 24).toInt ≤ 200 := bd_66_24 hB_G_23
  have b_37 : 0 ≤ (G_23.1 66 4).toInt ∧ (G_23.1 66 4).toInt ≤ 1600 := bd_66_4 hB_G_23
  have qc_38 : (1 : Int32).toInt = 1 := rfl
  refine loop_N (Inv := fun n H locs ls => ∃ (G_27 : GS) (x_31 : Int32), (n : Int) = 4000 - 1000 * (G_27.1 66 2).toInt + 100 * (40 - (G_27.1 66 23).toInt) + (G_27.1 66 20).toInt + x_31.toInt ∧ (0 ≤ x_31.toInt ∧ x_31.toInt ≤ 1) ∧ ((G_27.1 66 2).toInt = 0 → gC G_27 = 1 ∧ gD G_27 = gB G_27 + 1 ∧ (G_27.1 66 24).toInt = (G_27.1 66 20).toInt - gB G_27 ∧ gD G_27 ≤ (G_27.1 66 23).toInt ∧ (G_27.1 66 23).toInt ≤ 30 ∧ gM G_27 + (G_27.1 66 20).toInt ≤ 10 * (G_27.1 66 23).toInt ∧ (G_27.1 66 24).toInt ≤ 7) ∧ ((G.1 66 4).toInt ≤ (G_27.1 66 4).toInt ∧ ((G_27.1 66 4).toInt = (G.1 66 4).toInt → (G_27.1 66 6).toInt = (G.1 66 6).toInt ∨ (G_27.1 66 6).toInt ≤ 3)) ∧ Rc (St_n_formula_1 G) (1, G_23) (x_31, G_27) ∧ Wd D k A a G_27 H ∧ Bd G_27 ∧ Fr [69, 70, 71, 75] [(66, 2), (66, 3), (66, 4), (66, 6), (66, 7), (66, 8), (66, 9), (66, 19), (66, 20), (66, 21), (66, 23), (66, 24)] G G_27 ∧ Fr [69, 70, 71, 75] [(66, 2), (66, 3), (66, 4), (66, 6), (66, 7), (66, 8), (66, 9), (66, 20), (66, 21), (66, 23), (66, 24)] G_23 G_27 ∧ va_S A s.heap H locs ∧ lv_has ls 4 [(2, .int x_31), (0, .ref (a 66))]) (fun n_30 H locs ls ih_29 hI => ?_) (4000 - 1000 * (G_23.1 66 2).toInt + 100 * (40 - (G_23.1 66 23).toInt) + (G_23.1 66 20).toInt + 1 : Int).toNat ⟨G_23, 1, (Int.toNat_of_nonneg ((by first | exact ok_914 b_33.2 b_34.1 b_35.2 | omega))), ⟨(by decide), (by decide)⟩, ((by first | exact (fun h9 => ⟨(by first | exact ok_915 d_2 b_33.1 h9 | omega), ⟨(by first | exact ok_916 d_2 b_33.1 h9 | omega), ⟨(by first | exact ok_917 d_2 b_33.1 h9 | omega), ⟨(by first | exact ok_918 d_2 b_33.1 h9 | omega), ⟨(by first | exact ok_919 d_2 b_33.1 h9 | omega), ⟨(by first | exact ok_920 d_2 b_33.1 h9 | omega), (by first | exact ok_921 d_2 b_33.1 h9 | omega)⟩⟩⟩⟩⟩⟩) | omega)), ((by first | exact ⟨(by first | exact ok_620 g_20 d_3 | omega), (fun h9 => by have q0_ := d_4 (by first | (clear ha_p0 hnf hE9 hp9 u_6 b_7 g_8 g_10 g_12 g_13 g_14 g_15 g_16 g_17 g_18 g_21 d_1 d_2 d_4 b_33 b_34 b_35 b_36; omega) | omega); (first | (clear ha_p0 hnf hE9 hp9 u_6 b_7 g_8 g_10 g_12 g_13 g_14 g_15 g_16 g_17 g_18 b_19 g_20 d_1 d_2 d_3 d_4 b_33 b_34 b_35 b_36 b_37; omega) | omega))⟩ | omega)), Rc.rf, hW, hB_G_23, hF, Fr.rf, hS, lv_sub hl [0, 1] rfl⟩
  obtain ⟨G_27, x_31, hn_42, f_39, f_40, f_41, hX_32, hW, hB_G_27, hF, hq_28, hS, hl⟩ := hI
  have d_5 := f_41.1
  have d_6 := f_41.2
  have b_43 : 0 ≤ (G_27.1 66 2).toInt ∧ (G_27.1 66 2).toInt ≤ 4 := bd_66_2 hB_G_27
  have b_44 : 0 ≤ (G_27.1 66 20).toInt ∧ (G_27.1 66 20).toInt ≤ 160 := bd_66_20 hB_G_27
  have b_45 : 0 ≤ (G_27.1 66 23).toInt ∧ (G_27.1 66 23).toInt ≤ 40 := bd_66_23 hB_G_27
  have b_46 : (-1) ≤ (G_27.1 66 24).toInt ∧ (G_27.1 66 24).toInt ≤ 200 := bd_66_24 hB_G_27
  have b_47 : 0 ≤ (G_27.1 66 4).toInt ∧ (G_27.1 66 4).toInt ≤ 1600 := bd_66_4 hB_G_27
  have u_48 := gh_pos (G := G_27) ((by first | exact b_44.1 | omega))
  refine lv_iload_n hx hb dX12_formula_36 rfl (lv_at hl 0 rfl) ?_
  refine W.cut (σ := Unit) (pcJ := 163) (J := fun y H locs ls => ∃ (G_50 : GS), Jn_n_formula_2 x_31 G_27 G_50 ∧ Wd D k A a G_50 H ∧ Bd G_50 ∧ Fr [69, 70, 71, 75] [(66, 2), (66, 3), (66, 4), (66, 6), (66, 7), (66, 8), (66, 9), (66, 19), (66, 20), (66, 21), (66, 23), (66, 24)] G G_50 ∧ Fr [] [] G_27 G_50 ∧ va_S A s.heap H locs ∧ lv_has ls 4 [(0, .ref (a 66))]) (stJ := fun _ => []) ?_ (fun hJ_51 => ?_)
  · intro y H locs ls hI
    obtain ⟨G_50, hX_53, hW, hB_G_50, hF, hq_52, hS, hl⟩ := hI
    refine lv_aload_n hx hb dX12_formula_163 rfl (lv_at hl 0 rfl) ?_
    refine S_getI (v := (G_27.1 66 2)) (C := RX12) (T := TX12) (N := 89) hx hb hg iX12 hown hK hW kd_66 rfl 2 (lt_b rfl) (hg (Cond.fieldLink RX12 218 "SlabWalkModel" "fault" "I") m1316) (fun _ h9 => h9) rfl ((hq_52.i9 66 2 rfl rfl).trans (rfl)) dX12_formula_164 ?_
    refine lv_if_ne (tgt := 182) hx hb dX12_formula_167 rfl (fun c_54 => ?_) (fun c_54 => ?_)
    · have c_54 : (G_27.1 66 2).toInt ≠ 0 := xI_ne rfl rfl c_54
      refine lv_aload_n hx hb dX12_formula_182 rfl (lv_at hl 0 rfl) ?_
      refine S_getI (v := (G_27.1 66 2)) (C := RX12) (T := TX12) (N := 89) hx hb hg iX12 hown hK hW kd_66 rfl 2 (lt_b rfl) (hg (Cond.fieldLink RX12 218 "SlabWalkModel" "fault" "I") m1316) (fun _ h9 => h9) rfl ((hq_52.i9 66 2 rfl rfl).trans (rfl)) dX12_formula_183 ?_
      refine lv_if_ne (tgt := 194) hx hb dX12_formula_186 rfl (fun c_55 => ?_) (fun c_55 => ?_)
      · have c_55 : (G_27.1 66 2).toInt ≠ 0 := xI_ne rfl rfl c_55
        have fr_56 : Fr [] [] G_27 G_50 := (Fr.call9 (rs := []) (fs := []) Fr.rf hq_52 rfl rfl)
        have g_57 : gC G_50 = gC G_27 := gC_fr fr_56 (gr_q rfl) (gf_q rfl)
        have g_58 : (G_50.1 66 19).toInt = p0.toInt := (congrArg Int32.toInt (show G_50.1 66 19 = p0 from ((hq_52.i9 66 19 rfl rfl).trans ((hq_28.i9 66 19 rfl rfl).trans ((hq_24.i9 66 19 rfl rfl).trans ((gp_ne eG_5 (by decide)).trans ((gp_ne eG_4 (by decide)).trans ((gp_ne eG_3 (by decide)).trans ((gp_ne eG_2 (fun q => absurd q.1 (Nat.ne_of_beq_eq_false rfl))).trans (gp_eq eG_1))))))))))
        have g_59 : (G_50.1 66 2).toInt = (G_27.1 66 2).toInt := (congrArg Int32.toInt (show G_50.1 66 2 = (G_27.1 66 2) from ((hq_52.i9 66 2 rfl rfl).trans (rfl))))
        have g_60 : (G_50.1 66 4).toInt = (G_27.1 66 4).toInt := (congrArg Int32.toInt (show G_50.1 66 4 = (G_27.1 66 4) from ((hq_52.i9 66 4 rfl rfl).trans (rfl))))
        have g_61 : (G_50.1 66 6).toInt = (G_27.1 66 6).toInt := (congrArg Int32.toInt (show G_50.1 66 6 = (G_27.1 66 6) from ((hq_52.i9 66 6 rfl rfl).trans (rfl))))
        exact W.vret hx hb hr (fun t ht _ => ⟨⟨G_50, rfl, (Q_formula_mk ⟨hB_G_50, hF, ((by first | exact ⟨(by first | exact ok_347 f_41.1 g_60 | omega), ⟨(fun h9 => by have q0_ := d_6 (by first | (clear ha_p0 hnf hE9 hp9 u_6 b_7 g_8 g_10 g_12 g_13 g_14 g_15 g_16 g_17 g_18 g_21 d_1 d_2 d_4 b_33 b_34 b_35 b_36 hn_42 f_39 f_40 f_41 d_6 b_43 b_44 b_45 b_46 u_48 c_54 c_55 g_57 g_58 g_59 g_61; omega) | omega); (first | (clear ha_p0 hnf hE9 hp9 u_6 b_7 g_8 g_10 g_12 g_13 g_14 g_15 g_16 g_17 g_18 b_19 g_20 d_1 d_2 d_3 d_4 b_33 b_34 b_35 b_36 b_37 hn_42 f_39 f_40 f_41 d_5 d_6 b_43 b_44 b_45 b_46 b_47 u_48 c_54 c_55 g_57 g_58 g_59 g_60; omega) | omega)), (fun h9 => ⟨(by first | exact ok_922 f_40 b_43.1 b_43.2 g_57 g_59 h9 | omega), (by first | exact g_58 | omega)⟩)⟩⟩ | omega)), ⟨G_5, hB_G_5, (Fr.put (rs := [71]) (fs := [(66, 19), (66, 20), (66, 23), (66, 24)]) (Fr.put (rs := [71]) (fs := [(66, 19), (66, 20), (66, 23), (66, 24)]) (Fr.put (rs := [71]) (fs := [(66, 19), (66, 20), (66, 23), (66, 24)]) (Fr.put (rs := [71]) (fs := [(66, 19), (66, 20), (66, 23), (66, 24)]) (Fr.put (rs := [71]) (fs := [(66, 19), (66, 20), (66, 23), (66, 24)]) Fr.rf eG_1 (Or.inr (by decide))) eG_2 (Or.inl (by decide))) eG_3 (Or.inr (by decide))) eG_4 (Or.inr (by decide))) eG_5 (Or.inr (by decide))), ((gp_ne eG_5 (by decide)).trans ((gp_ne eG_4 (by decide)).trans ((gp_ne eG_3 (by decide)).trans ((gp_ne eG_2 (fun q => absurd q.1 (Nat.ne_of_beq_eq_false rfl))).trans (gp_eq eG_1))))), ((gp_ne eG_5 (by decide)).trans ((gp_ne eG_4 (by decide)).trans (gp_eq eG_3))), (gp_eq eG_5), ((gp_ne eG_5 (by decide)).trans (gp_eq eG_4)), (rw_put eG_5 (by decide)).trans ((rw_put eG_4 (by decide)).trans ((rw_put eG_3 (by decide)).trans ((rw_ast eG_2).trans (congrArg (fun q => upd q (p0.toNatClampNeg) 0) (rw_put eG_1 (by decide)))))), ⟨G_23, hX_26, ⟨x_31, G_27, hX_32, f_39, f_40, f_41, hB_G_27, hq_28, ⟨G_50, hX_53, hB_G_50, hq_52, (Or.inr ⟨c_54, rfl⟩)⟩⟩⟩⟩⟩), wd_t ht hW⟩, hS.F ht⟩) hS.2.2 dX12_formula_194
      · have c_55 : (G_27.1 66 2).toInt = 0 := xI_eq rfl rfl c_55
        exfalso; first | exact ok_923 b_43.1 c_54 c_55 | omega
    · have c_54 : (G_27.1 66 2).toInt = 0 := xI_eq rfl rfl c_54
      have d_7 := f_40 c_54
      refine lv_aload_n hx hb dX12_formula_170 rfl (lv_at hl 0 rfl) ?_
      have fr_62 : Fr [] [] G_27 G_50 := (Fr.call9 (rs := []) (fs := []) Fr.rf hq_52 rfl rfl)
      have g_63 : gK G_50 = gK G_27 := gK_fr fr_62 (gr_q rfl) (gf_q rfl)
      refine S_calli (va_runV (As := []) (rest := []) ⟨hx, hb, hml, hown, hts⟩ (n_hasBracket l D k A a z G_50  ) (cwV 0 hts (gd_V hgd m1749 m1751 m78 m131 m1752) rfl rfl rfl hd_X12_hasBracket ⟨Nat.le_of_ble_eq_true rfl, Nat.le_of_ble_eq_true rfl⟩) (pre_W hW hB_G_50 hK hZ hS kd_66 rfl) rfl rfl hl.1 rfl (lv_room (Nat.le_of_ble_eq_true rfl)) dX12_formula_171 ⟨Nat.le_of_ble_eq_true rfl, Nat.le_of_ble_eq_true rfl⟩) hS (fun r_64 G_65 H locs hpo hW hS => ?_)
      have hX_68 : Q_hasBracket G_50 r_64 G_65 := hpo
      obtain ⟨hB_G_65, hq_66, f_69, hp_67, -⟩ := hpo
      have hF := hF.call9 hq_66 rfl rfl
      refine lv_if_eq (tgt := 182) hx hb dX12_formula_174 rfl (fun c_70 => ?_) (fun c_70 => ?_)
      · have c_70 : r_64.toInt = 0 := xI_eq rfl rfl c_70
        refine lv_aload_n hx hb dX12_formula_182 rfl (lv_at hl 0 rfl) ?_
        refine S_getI (v := (G_27.1 66 2)) (C := RX12) (T := TX12) (N := 89) hx hb hg iX12 hown hK hW kd_66 rfl 2 (lt_b rfl) (hg (Cond.fieldLink RX12 218 "SlabWalkModel" "fault" "I") m1316) (fun _ h9 => h9) rfl ((hq_66.i9 66 2 rfl rfl).trans ((hq_52.i9 66 2 rfl rfl).trans (rfl))) dX12_formula_183 ?_
        refine lv_if_ne (tgt := 194) hx hb dX12_formula_186 rfl (fun c_71 => ?_) (fun c_71 => ?_)
        · have c_71 : (G_27.1 66 2).toInt ≠ 0 := xI_ne rfl rfl c_71
          exfalso; first | exact ok_924 b_43.1 c_54 c_71 | omega
        · have c_71 : (G_27.1 66 2).toInt = 0 := xI_eq rfl rfl c_71
          refine lv_aload_n hx hb dX12_formula_189 rfl (lv_at hl 0 rfl) ?_
          refine ic_0 hx hb dX12_formula_190 ?_
          have fr_72 : Fr [] [] G_27 G_65 := (Fr.call9 (rs := []) (fs := []) (Fr.call9 (rs := []) (fs := []) Fr.rf hq_52 rfl rfl) hq_66 rfl rfl)
          have g_73 : gB G_65 = gB G_27 := gB_fr fr_72 (gr_q rfl) (gf_q rfl)
          have g_74 : gC G_65 = gC G_27 := gC_fr fr_72 (gr_q rfl) (gf_q rfl)
          have g_75 : gD G_65 = gD G_27 := gD_fr fr_72 (gr_q rfl) (gf_q rfl)
          have g_76 : gM G_65 = gM G_27 := gM_fr fr_72 (gr_q rfl) (gf_q rfl)
          have g_77 : (G_65.1 66 20).toInt = (G_27.1 66 20).toInt := (congrArg Int32.toInt (show G_65.1 66 20 = (G_27.1 66 20) from ((hq_66.i9 66 20 rfl rfl).trans ((hq_52.i9 66 20 rfl rfl).trans (rfl)))))
          have g_78 : (G_65.1 66 24).toInt = (G_27.1 66 24).toInt := (congrArg Int32.toInt (show G_65.1 66 24 = (G_27.1 66 24) from ((hq_66.i9 66 24 rfl rfl).trans ((hq_52.i9 66 24 rfl rfl).trans (rfl)))))
          have qc_79 : (0 : Int32).toInt = 0 := rfl
          have g_80 : gK G_65 = gK G_27 := gK_fr fr_72 (gr_q rfl) (gf_q rfl)
          have g_81 : (G_65.1 66 20).toInt = (G_27.1 66 20).toInt := (congrArg Int32.toInt (show G_65.1 66 20 = (G_27.1 66 20) from ((hq_66.i9 66 20 rfl rfl).trans ((hq_52.i9 66 20 rfl rfl).trans (rfl)))))
          have g_82 : (G_65.1 66 24).toInt = (G_27.1 66 24).toInt := (congrArg Int32.toInt (show G_65.1 66 24 = (G_27.1 66 24) from ((hq_66.i9 66 24 rfl rfl).trans ((hq_52.i9 66 24 rfl rfl).trans (rfl)))))
          refine S_callv (va_runV (As := [.int 0]) (rest := []) ⟨hx, hb, hml, hown, hts⟩ (n_close l D k A a z G_65 0 ((by first | exact ⟨(by first | exact ok_796 d_7.1 g_74 | omega), ⟨(by first | exact ok_797 d_7.2.1 g_73 g_75 | omega), ⟨(by first | exact ok_798 d_7.2.2.1 g_73 g_77 g_78 | omega), ⟨(by first | exact ok_925 b_45.2 d_7.2.2.2.2.1 d_7.2.2.2.2.2.1 g_76 g_77 | omega), (by first | exact ok_926 d_7.2.2.2.1 d_7.2.2.2.2.1 g_75 | omega)⟩⟩⟩⟩ | omega))) (cwV 1 hts (gd_V hgd m1753 m1755 m79 m131 m1756) rfl rfl rfl hd_X12_close ⟨Nat.le_of_ble_eq_true rfl, Nat.le_of_ble_eq_true rfl⟩) (pre_W hW hB_G_65 hK hZ hS kd_66 rfl) rfl rfl hl.1 rfl (lv_room (Nat.le_of_ble_eq_true rfl)) dX12_formula_191 ⟨Nat.le_of_ble_eq_true rfl, Nat.le_of_ble_eq_true rfl⟩) hS (fun G_84 H locs hpo hW hS => ?_)
          have hX_87 : Q_close 0 G_65 G_84 := hpo
          obtain ⟨hB_G_84, hq_85, hp_86, -⟩ := hpo
          have hF := hF.call9 hq_85 rfl rfl
          have g_88 : (G_84.1 66 19).toInt = p0.toInt := (congrArg Int32.toInt (show G_84.1 66 19 = p0 from ((hq_85.i9 66 19 rfl rfl).trans ((hq_66.i9 66 19 rfl rfl).trans ((hq_52.i9 66 19 rfl rfl).trans ((hq_28.i9 66 19 rfl rfl).trans ((hq_24.i9 66 19 rfl rfl).trans ((gp_ne eG_5 (by decide)).trans ((gp_ne eG_4 (by decide)).trans ((gp_ne eG_3 (by decide)).trans ((gp_ne eG_2 (fun q => absurd q.1 (Nat.ne_of_beq_eq_false rfl))).trans (gp_eq eG_1))))))))))))
          have g_89 : (G_84.1 66 2).toInt = (G_27.1 66 2).toInt := (congrArg Int32.toInt (show G_84.1 66 2 = (G_27.1 66 2) from ((hq_85.i9 66 2 rfl rfl).trans ((hq_66.i9 66 2 rfl rfl).trans ((hq_52.i9 66 2 rfl rfl).trans (rfl))))))
          have g_90 : (G_84.1 66 4).toInt = (G_27.1 66 4).toInt := (congrArg Int32.toInt (show G_84.1 66 4 = (G_27.1 66 4) from ((hq_85.i9 66 4 rfl rfl).trans ((hq_66.i9 66 4 rfl rfl).trans ((hq_52.i9 66 4 rfl rfl).trans (rfl))))))
          have g_91 : (G_84.1 66 6).toInt = (G_27.1 66 6).toInt := (congrArg Int32.toInt (show G_84.1 66 6 = (G_27.1 66 6) from ((hq_85.i9 66 6 rfl rfl).trans ((hq_66.i9 66 6 rfl rfl).trans ((hq_52.i9 66 6 rfl rfl).trans (rfl))))))
          exact W.vret hx hb hr (fun t ht _ => ⟨⟨G_84, rfl, (Q_formula_mk ⟨hB_G_84, hF, ((by first | exact ⟨(by first | exact ok_347 f_41.1 g_90 | omega), ⟨(fun h9 => by have q0_ := d_6 (by first | (clear ha_p0 hnf hE9 hp9 u_6 b_7 g_8 g_10 g_12 g_13 g_14 g_15 g_16 g_17 g_18 g_21 d_1 d_2 d_4 b_33 b_34 b_35 b_36 hn_42 f_39 f_40 f_41 d_6 b_43 b_44 b_45 b_46 u_48 c_54 d_7 g_63 f_69 hp_67 c_70 c_71 g_73 g_74 g_75 g_76 g_77 g_78 g_80 g_81 g_82 hp_86 g_88 g_89 g_91; omega) | omega); (first | (clear ha_p0 hnf hE9 hp9 u_6 b_7 g_8 g_10 g_12 g_13 g_14 g_15 g_16 g_17 g_18 b_19 g_20 d_1 d_2 d_3 d_4 b_33 b_34 b_35 b_36 b_37 hn_42 f_39 f_40 f_41 d_5 d_6 b_43 b_44 b_45 b_46 b_47 u_48 c_54 d_7 g_63 f_69 hp_67 c_70 c_71 g_73 g_74 g_75 g_76 g_77 g_78 g_80 g_81 g_82 hp_86 g_88 g_89 g_90; omega) | omega)), (fun h9 => ⟨(by first | exact hp_86.1 | omega), (by first | exact g_88 | omega)⟩)⟩⟩ | omega)), ⟨G_5, hB_G_5, (Fr.put (rs := [71]) (fs := [(66, 19), (66, 20), (66, 23), (66, 24)]) (Fr.put (rs := [71]) (fs := [(66, 19), (66, 20), (66, 23), (66, 24)]) (Fr.put (rs := [71]) (fs := [(66, 19), (66, 20), (66, 23), (66, 24)]) (Fr.put (rs := [71]) (fs := [(66, 19), (66, 20), (66, 23), (66, 24)]) (Fr.put (rs := [71]) (fs := [(66, 19), (66, 20), (66, 23), (66, 24)]) Fr.rf eG_1 (Or.inr (by decide))) eG_2 (Or.inl (by decide))) eG_3 (Or.inr (by decide))) eG_4 (Or.inr (by decide))) eG_5 (Or.inr (by decide))), ((gp_ne eG_5 (by decide)).trans ((gp_ne eG_4 (by decide)).trans ((gp_ne eG_3 (by decide)).trans ((gp_ne eG_2 (fun q => absurd q.1 (Nat.ne_of_beq_eq_false rfl))).trans (gp_eq eG_1))))), ((gp_ne eG_5 (by decide)).trans ((gp_ne eG_4 (by decide)).trans (gp_eq eG_3))), (gp_eq eG_5), ((gp_ne eG_5 (by decide)).trans (gp_eq eG_4)), (rw_put eG_5 (by decide)).trans ((rw_put eG_4 (by decide)).trans ((rw_put eG_3 (by decide)).trans ((rw_ast eG_2).trans (congrArg (fun q => upd q (p0.toNatClampNeg) 0) (rw_put eG_1 (by decide)))))), ⟨G_23, hX_26, ⟨x_31, G_27, hX_32, f_39, f_40, f_41, hB_G_27, hq_28, ⟨G_50, hX_53, hB_G_50, hq_52, (Or.inl ⟨c_54, ⟨r_64, G_65, hX_68, (Or.inl ⟨c_70, ⟨G_84, hX_87, rfl⟩⟩)⟩⟩)⟩⟩⟩⟩⟩), wd_t ht hW⟩, hS.F ht⟩) hS.2.2 dX12_formula_194
      · have c_70 : r_64.toInt ≠ 0 := xI_ne rfl rfl c_70
        refine lv_aload_n hx hb dX12_formula_177 rfl (lv_at hl 0 rfl) ?_
        refine ic_2 hx hb dX12_formula_178 ?_
        have qc_92 : (2 : Int32).toInt = 2 := rfl
        refine S_callv (va_runV (As := [.int 2]) (rest := []) ⟨hx, hb, hml, hown, hts⟩ (n_wrong l D k A a z G_65 2 ⟨by decide, by decide⟩) (cwV 1 hts (gd_V hgd m1670 m1672 m59 m131 m1673) rfl rfl rfl hd_X12_wrong ⟨Nat.le_of_ble_eq_true rfl, Nat.le_of_ble_eq_true rfl⟩) (pre_W hW hB_G_65 hK hZ hS kd_66 rfl) rfl rfl hl.1 rfl (lv_room (Nat.le_of_ble_eq_true rfl)) dX12_formula_179 ⟨Nat.le_of_ble_eq_true rfl, Nat.le_of_ble_eq_true rfl⟩) hS (fun G_94 H locs hpo hW hS => ?_)
        have hX_97 : Q_wrong 2 G_65 G_94 := hpo
        obtain ⟨hB_G_94, hq_95, hp_96, -⟩ := hpo
        have hF := hF.call9 hq_95 rfl rfl
        refine lv_aload_n hx hb dX12_formula_182 rfl (lv_at hl 0 rfl) ?_
        have b_98 : 0 ≤ (G_94.1 66 2).toInt ∧ (G_94.1 66 2).toInt ≤ 4 := bd_66_2 hB_G_94
        refine S_getI (v := (G_94.1 66 2)) (C := RX12) (T := TX12) (N := 89) hx hb hg iX12 hown hK hW kd_66 rfl 2 (lt_b rfl) (hg (Cond.fieldLink RX12 218 "SlabWalkModel" "fault" "I") m1316) (fun _ h9 => h9) rfl rfl dX12_formula_183 ?_
        refine lv_if_ne (tgt := 194) hx hb dX12_formula_186 rfl (fun c_99 => ?_) (fun c_99 => ?_)
        · have c_99 : (G_94.1 66 2).toInt ≠ 0 := xI_ne rfl rfl c_99
          have fr_100 : Fr [] [(66, 2), (66, 3)] G_27 G_94 := (Fr.call9 (rs := []) (fs := [(66, 2), (66, 3)]) (Fr.call9 (rs := []) (fs := [(66, 2), (66, 3)]) (Fr.call9 (rs := []) (fs := [(66, 2), (66, 3)]) Fr.rf hq_52 rfl rfl) hq_66 rfl rfl) hq_95 rfl rfl)
          have g_101 : gC G_94 = gC G_27 := gC_fr fr_100 (gr_q rfl) (gf_q rfl)
          have g_102 : (G_94.1 66 19).toInt = p0.toInt := (congrArg Int32.toInt (show G_94.1 66 19 = p0 from ((hq_95.i9 66 19 rfl rfl).trans ((hq_66.i9 66 19 rfl rfl).trans ((hq_52.i9 66 19 rfl rfl).trans ((hq_28.i9 66 19 rfl rfl).trans ((hq_24.i9 66 19 rfl rfl).trans ((gp_ne eG_5 (by decide)).trans ((gp_ne eG_4 (by decide)).trans ((gp_ne eG_3 (by decide)).trans ((gp_ne eG_2 (fun q => absurd q.1 (Nat.ne_of_beq_eq_false rfl))).trans (gp_eq eG_1))))))))))))
          have g_103 : (G_94.1 66 4).toInt = (G_27.1 66 4).toInt := (congrArg Int32.toInt (show G_94.1 66 4 = (G_27.1 66 4) from ((hq_95.i9 66 4 rfl rfl).trans ((hq_66.i9 66 4 rfl rfl).trans ((hq_52.i9 66 4 rfl rfl).trans (rfl))))))
          have g_104 : (G_94.1 66 6).toInt = (G_27.1 66 6).toInt := (congrArg Int32.toInt (show G_94.1 66 6 = (G_27.1 66 6) from ((hq_95.i9 66 6 rfl rfl).trans ((hq_66.i9 66 6 rfl rfl).trans ((hq_52.i9 66 6 rfl rfl).trans (rfl))))))
          exact W.vret hx hb hr (fun t ht _ => ⟨⟨G_94, rfl, (Q_formula_mk ⟨hB_G_94, hF, ((by first | exact ⟨(by first | exact ok_347 f_41.1 g_103 | omega), ⟨(fun h9 => by have q0_ := d_6 (by first | (clear ha_p0 hnf hE9 hp9 u_6 b_7 g_8 g_10 g_12 g_13 g_14 g_15 g_16 g_17 g_18 g_21 d_1 d_2 d_4 b_33 b_34 b_35 b_36 hn_42 f_39 f_40 f_41 d_6 b_43 b_44 b_45 b_46 u_48 c_54 d_7 g_63 f_69 hp_67 c_70 hp_96 b_98 c_99 g_101 g_102 g_104; omega) | omega); (first | (clear ha_p0 hnf hE9 hp9 u_6 b_7 g_8 g_10 g_12 g_13 g_14 g_15 g_16 g_17 g_18 b_19 g_20 d_1 d_2 d_3 d_4 b_33 b_34 b_35 b_36 b_37 hn_42 f_39 f_40 f_41 d_5 d_6 b_43 b_44 b_45 b_46 b_47 u_48 c_54 d_7 g_63 f_69 hp_67 c_70 hp_96 b_98 c_99 g_101 g_102 g_103; omega) | omega)), (fun h9 => ⟨(by first | exact ok_796 d_7.1 g_101 | omega), (by first | exact g_102 | omega)⟩)⟩⟩ | omega)), ⟨G_5, hB_G_5, (Fr.put (rs := [71]) (fs := [(66, 19), (66, 20), (66, 23), (66, 24)]) (Fr.put (rs := [71]) (fs := [(66, 19), (66, 20), (66, 23), (66, 24)]) (Fr.put (rs := [71]) (fs := [(66, 19), (66, 20), (66, 23), (66, 24)]) (Fr.put (rs := [71]) (fs := [(66, 19), (66, 20), (66, 23), (66, 24)]) (Fr.put (rs := [71]) (fs := [(66, 19), (66, 20), (66, 23), (66, 24)]) Fr.rf eG_1 (Or.inr (by decide))) eG_2 (Or.inl (by decide))) eG_3 (Or.inr (by decide))) eG_4 (Or.inr (by decide))) eG_5 (Or.inr (by decide))), ((gp_ne eG_5 (by decide)).trans ((gp_ne eG_4 (by decide)).trans ((gp_ne eG_3 (by decide)).trans ((gp_ne eG_2 (fun q => absurd q.1 (Nat.ne_of_beq_eq_false rfl))).trans (gp_eq eG_1))))), ((gp_ne eG_5 (by decide)).trans ((gp_ne eG_4 (by decide)).trans (gp_eq eG_3))), (gp_eq eG_5), ((gp_ne eG_5 (by decide)).trans (gp_eq eG_4)), (rw_put eG_5 (by decide)).trans ((rw_put eG_4 (by decide)).trans ((rw_put eG_3 (by decide)).trans ((rw_ast eG_2).trans (congrArg (fun q => upd q (p0.toNatClampNeg) 0) (rw_put eG_1 (by decide)))))), ⟨G_23, hX_26, ⟨x_31, G_27, hX_32, f_39, f_40, f_41, hB_G_27, hq_28, ⟨G_50, hX_53, hB_G_50, hq_52, (Or.inl ⟨c_54, ⟨r_64, G_65, hX_68, (Or.inr ⟨c_70, ⟨G_94, hX_97, (Or.inr ⟨c_99, rfl⟩)⟩⟩)⟩⟩)⟩⟩⟩⟩⟩), wd_t ht hW⟩, hS.F ht⟩) hS.2.2 dX12_formula_194
        · have c_99 : (G_94.1 66 2).toInt = 0 := xI_eq rfl rfl c_99
          refine lv_aload_n hx hb dX12_formula_189 rfl (lv_at hl 0 rfl) ?_
          refine ic_0 hx hb dX12_formula_190 ?_
          have fr_105 : Fr [] [(66, 2), (66, 3)] G_27 G_94 := (Fr.call9 (rs := []) (fs := [(66, 2), (66, 3)]) (Fr.call9 (rs := []) (fs := [(66, 2), (66, 3)]) (Fr.call9 (rs := []) (fs := [(66, 2), (66, 3)]) Fr.rf hq_52 rfl rfl) hq_66 rfl rfl) hq_95 rfl rfl)
          have g_106 : gB G_94 = gB G_27 := gB_fr fr_105 (gr_q rfl) (gf_q rfl)
          have g_107 : gC G_94 = gC G_27 := gC_fr fr_105 (gr_q rfl) (gf_q rfl)
          have g_108 : gD G_94 = gD G_27 := gD_fr fr_105 (gr_q rfl) (gf_q rfl)
          have g_109 : gM G_94 = gM G_27 := gM_fr fr_105 (gr_q rfl) (gf_q rfl)
          have g_110 : (G_94.1 66 20).toInt = (G_27.1 66 20).toInt := (congrArg Int32.toInt (show G_94.1 66 20 = (G_27.1 66 20) from ((hq_95.i9 66 20 rfl rfl).trans ((hq_66.i9 66 20 rfl rfl).trans ((hq_52.i9 66 20 rfl rfl).trans (rfl))))))
          have g_111 : (G_94.1 66 24).toInt = (G_27.1 66 24).toInt := (congrArg Int32.toInt (show G_94.1 66 24 = (G_27.1 66 24) from ((hq_95.i9 66 24 rfl rfl).trans ((hq_66.i9 66 24 rfl rfl).trans ((hq_52.i9 66 24 rfl rfl).trans (rfl))))))
          have qc_112 : (0 : Int32).toInt = 0 := rfl
          have g_113 : gK G_94 = gK G_27 := gK_fr fr_105 (gr_q rfl) (gf_q rfl)
          have g_114 : (G_94.1 66 20).toInt = (G_27.1 66 20).toInt := (congrArg Int32.toInt (show G_94.1 66 20 = (G_27.1 66 20) from ((hq_95.i9 66 20 rfl rfl).trans ((hq_66.i9 66 20 rfl rfl).trans ((hq_52.i9 66 20 rfl rfl).trans (rfl))))))
          have g_115 : (G_94.1 66 24).toInt = (G_27.1 66 24).toInt := (congrArg Int32.toInt (show G_94.1 66 24 = (G_27.1 66 24) from ((hq_95.i9 66 24 rfl rfl).trans ((hq_66.i9 66 24 rfl rfl).trans ((hq_52.i9 66 24 rfl rfl).trans (rfl))))))
          refine S_callv (va_runV (As := [.int 0]) (rest := []) ⟨hx, hb, hml, hown, hts⟩ (n_close l D k A a z G_94 0 ((by first | exact ⟨(by first | exact ok_796 d_7.1 g_107 | omega), ⟨(by first | exact ok_797 d_7.2.1 g_106 g_108 | omega), ⟨(by first | exact ok_798 d_7.2.2.1 g_106 g_110 g_111 | omega), ⟨(by first | exact ok_925 b_45.2 d_7.2.2.2.2.1 d_7.2.2.2.2.2.1 g_109 g_110 | omega), (by first | exact ok_926 d_7.2.2.2.1 d_7.2.2.2.2.1 g_108 | omega)⟩⟩⟩⟩ | omega))) (cwV 1 hts (gd_V hgd m1753 m1755 m79 m131 m1756) rfl rfl rfl hd_X12_close ⟨Nat.le_of_ble_eq_true rfl, Nat.le_of_ble_eq_true rfl⟩) (pre_W hW hB_G_94 hK hZ hS kd_66 rfl) rfl rfl hl.1 rfl (lv_room (Nat.le_of_ble_eq_true rfl)) dX12_formula_191 ⟨Nat.le_of_ble_eq_true rfl, Nat.le_of_ble_eq_true rfl⟩) hS (fun G_117 H locs hpo hW hS => ?_)
          have hX_120 : Q_close 0 G_94 G_117 := hpo
          obtain ⟨hB_G_117, hq_118, hp_119, -⟩ := hpo
          have hF := hF.call9 hq_118 rfl rfl
          have g_121 : (G_117.1 66 19).toInt = p0.toInt := (congrArg Int32.toInt (show G_117.1 66 19 = p0 from ((hq_118.i9 66 19 rfl rfl).trans ((hq_95.i9 66 19 rfl rfl).trans ((hq_66.i9 66 19 rfl rfl).trans ((hq_52.i9 66 19 rfl rfl).trans ((hq_28.i9 66 19 rfl rfl).trans ((hq_24.i9 66 19 rfl rfl).trans ((gp_ne eG_5 (by decide)).trans ((gp_ne eG_4 (by decide)).trans ((gp_ne eG_3 (by decide)).trans ((gp_ne eG_2 (fun q => absurd q.1 (Nat.ne_of_beq_eq_false rfl))).trans (gp_eq eG_1)))))))))))))
          have g_122 : (G_117.1 66 2).toInt = (G_94.1 66 2).toInt := (congrArg Int32.toInt (show G_117.1 66 2 = (G_94.1 66 2) from ((hq_118.i9 66 2 rfl rfl).trans (rfl))))
          have g_123 : (G_117.1 66 4).toInt = (G_27.1 66 4).toInt := (congrArg Int32.toInt (show G_117.1 66 4 = (G_27.1 66 4) from ((hq_118.i9 66 4 rfl rfl).trans ((hq_95.i9 66 4 rfl rfl).trans ((hq_66.i9 66 4 rfl rfl).trans ((hq_52.i9 66 4 rfl rfl).trans (rfl)))))))
          have g_124 : (G_117.1 66 6).toInt = (G_27.1 66 6).toInt := (congrArg Int32.toInt (show G_117.1 66 6 = (G_27.1 66 6) from ((hq_118.i9 66 6 rfl rfl).trans ((hq_95.i9 66 6 rfl rfl).trans ((hq_66.i9 66 6 rfl rfl).trans ((hq_52.i9 66 6 rfl rfl).trans (rfl)))))))
          exact W.vret hx hb hr (fun t ht _ => ⟨⟨G_117, rfl, (Q_formula_mk ⟨hB_G_117, hF, ((by first | exact ⟨(by first | exact ok_347 f_41.1 g_123 | omega), ⟨(fun h9 => by have q0_ := d_6 (by first | (clear ha_p0 hnf hE9 hp9 u_6 b_7 g_8 g_10 g_12 g_13 g_14 g_15 g_16 g_17 g_18 g_21 d_1 d_2 d_4 b_33 b_34 b_35 b_36 hn_42 f_39 f_40 f_41 d_6 b_43 b_44 b_45 b_46 u_48 c_54 d_7 g_63 f_69 hp_67 c_70 hp_96 b_98 c_99 g_106 g_107 g_108 g_109 g_110 g_111 g_113 g_114 g_115 hp_119 g_121 g_122 g_124; omega) | omega); (first | (clear ha_p0 hnf hE9 hp9 u_6 b_7 g_8 g_10 g_12 g_13 g_14 g_15 g_16 g_17 g_18 b_19 g_20 d_1 d_2 d_3 d_4 b_33 b_34 b_35 b_36 b_37 hn_42 f_39 f_40 f_41 d_5 d_6 b_43 b_44 b_45 b_46 b_47 u_48 c_54 d_7 g_63 f_69 hp_67 c_70 hp_96 b_98 c_99 g_106 g_107 g_108 g_109 g_110 g_111 g_113 g_114 g_115 hp_119 g_121 g_122 g_123; omega) | omega)), (fun h9 => ⟨(by first | exact hp_119.1 | omega), (by first | exact g_121 | omega)⟩)⟩⟩ | omega)), ⟨G_5, hB_G_5, (Fr.put (rs := [71]) (fs := [(66, 19), (66, 20), (66, 23), (66, 24)]) (Fr.put (rs := [71]) (fs := [(66, 19), (66, 20), (66, 23), (66, 24)]) (Fr.put (rs := [71]) (fs := [(66, 19), (66, 20), (66, 23), (66, 24)]) (Fr.put (rs := [71]) (fs := [(66, 19), (66, 20), (66, 23), (66, 24)]) (Fr.put (rs := [71]) (fs := [(66, 19), (66, 20), (66, 23), (66, 24)]) Fr.rf eG_1 (Or.inr (by decide))) eG_2 (Or.inl (by decide))) eG_3 (Or.inr (by decide))) eG_4 (Or.inr (by decide))) eG_5 (Or.inr (by decide))), ((gp_ne eG_5 (by decide)).trans ((gp_ne eG_4 (by decide)).trans ((gp_ne eG_3 (by decide)).trans ((gp_ne eG_2 (fun q => absurd q.1 (Nat.ne_of_beq_eq_false rfl))).trans (gp_eq eG_1))))), ((gp_ne eG_5 (by decide)).trans ((gp_ne eG_4 (by decide)).trans (gp_eq eG_3))), (gp_eq eG_5), ((gp_ne eG_5 (by decide)).trans (gp_eq eG_4)), (rw_put eG_5 (by decide)).trans ((rw_put eG_4 (by decide)).trans ((rw_put eG_3 (by decide)).trans ((rw_ast eG_2).trans (congrArg (fun q => upd q (p0.toNatClampNeg) 0) (rw_put eG_1 (by decide)))))), ⟨G_23, hX_26, ⟨x_31, G_27, hX_32, f_39, f_40, f_41, hB_G_27, hq_28, ⟨G_50, hX_53, hB_G_50, hq_52, (Or.inl ⟨c_54, ⟨r_64, G_65, hX_68, (Or.inr ⟨c_70, ⟨G_94, hX_97, (Or.inl ⟨c_99, ⟨G_117, hX_120, rfl⟩⟩)⟩⟩)⟩⟩)⟩⟩⟩⟩⟩), wd_t ht hW⟩, hS.F ht⟩) hS.2.2 dX12_formula_194
  refine lv_if_eq (tgt := 163) hx hb dX12_formula_37 rfl (fun c_125 => ?_) (fun c_125 => ?_)
  · have c_125 : x_31.toInt = 0 := xI_eq rfl rfl c_125
    exact hJ_51 () _ _ _ ⟨G_27, (Jn_n_formula_2_mk (Or.inl ⟨c_125, rfl⟩)), hW, hB_G_27, hF, (Fr.rf (rs := []) (fs := [])), hS, lv_sub hl [1] rfl⟩
  · have c_125 : x_31.toInt ≠ 0 := xI_ne rfl rfl c_125
    refine lv_aload_n hx hb dX12_formula_40 rfl (lv_at hl 1 rfl) ?_
    refine S_getI (v := (G_27.1 66 2)) (C := RX12) (T := TX12) (N := 89) hx hb hg iX12 hown hK hW kd_66 rfl 2 (lt_b rfl) (hg (Cond.fieldLink RX12 218 "SlabWalkModel" "fault" "I") m1316) (fun _ h9 => h9) rfl rfl dX12_formula_41 ?_
    refine lv_if_ne (tgt := 163) hx hb dX12_formula_44 rfl (fun c_126 => ?_) (fun c_126 => ?_)
    · have c_126 : (G_27.1 66 2).toInt ≠ 0 := xI_ne rfl rfl c_126
      exact hJ_51 () _ _ _ ⟨G_27, (Jn_n_formula_2_mk (Or.inr ⟨c_125, ⟨c_126, rfl⟩⟩)), hW, hB_G_27, hF, (Fr.rf (rs := []) (fs := [])), hS, lv_sub hl [1] rfl⟩
    · have c_126 : (G_27.1 66 2).toInt = 0 := xI_eq rfl rfl c_126
      have d_8 := f_40 c_126
      refine lv_aload_n hx hb dX12_formula_47 rfl (lv_at hl 1 rfl) ?_
      refine S_calli (va_runV (As := []) (rest := []) ⟨hx, hb, hml, hown, hts⟩ (n_signOf l D k A a z G_27  ) (cwV 0 hts (gd_V hgd m1745 m1747 m77 m131 m1748) rfl rfl rfl hd_X12_sign ⟨Nat.le_of_ble_eq_true rfl, Nat.le_of_ble_eq_true rfl⟩) (pre_W hW hB_G_27 hK hZ hS kd_66 rfl) rfl rfl hl.1 rfl (lv_room (Nat.le_of_ble_eq_true rfl)) dX12_formula_48 ⟨Nat.le_of_ble_eq_true rfl, Nat.le_of_ble_eq_true rfl⟩) hS (fun r_127 G_128 H locs hpo hW hS => ?_)
      have hX_131 : Q_signOf G_27 r_127 G_128 := hpo
      obtain ⟨hB_G_128, hq_129, f_132, hp_130, -⟩ := hpo
      have hF := hF.call9 hq_129 rfl rfl
      refine lv_istore_n (lv' := [(3, .int r_127), (2, .int x_31), (0, .ref (a 66))]) hx hb dX12_formula_51 rfl hl (lt_b rfl) rfl (fun ls hl => ?_)
      refine lv_aload_n hx hb dX12_formula_52 rfl (lv_at hl 2 rfl) ?_
      refine S_getI (v := (G_27.1 66 6)) (C := RX12) (T := TX12) (N := 89) hx hb hg iX12 hown hK hW kd_66 rfl 6 (lt_b rfl) (hg (Cond.fieldLink RX12 205 "SlabWalkModel" "sort" "I") m1320) (fun _ h9 => h9) rfl ((hq_129.i9 66 6 rfl rfl).trans (rfl)) dX12_formula_53 ?_
      refine lv_bipush (v := 41) hx hb dX12_formula_56 (by decide) ?_
      refine W.cut (σ := Unit) (pcJ := 100) (J := fun y H locs ls => ∃ (G_136 : GS), Jn_n_formula_3 G_27 G_128 G_136 ∧ Wd D k A a G_136 H ∧ Bd G_136 ∧ Fr [69, 70, 71, 75] [(66, 2), (66, 3), (66, 4), (66, 6), (66, 7), (66, 8), (66, 9), (66, 19), (66, 20), (66, 21), (66, 23), (66, 24)] G G_136 ∧ Fr [] [] G_128 G_136 ∧ va_S A s.heap H locs ∧ lv_has ls 4 [(3, .int r_127), (2, .int x_31), (0, .ref (a 66))]) (stJ := fun _ => []) ?_ (fun hJ_137 => ?_)
      · intro y H locs ls hI
        obtain ⟨G_136, hX_139, hW, hB_G_136, hF, hq_138, hS, hl⟩ := hI
        refine lv_iload_n hx hb dX12_formula_100 rfl (lv_at hl 0 rfl) ?_
        refine lv_if_eq (tgt := 158) hx hb dX12_formula_101 rfl (fun c_140 => ?_) (fun c_140 => ?_)
        · have c_140 : r_127.toInt = 0 := xI_eq rfl rfl c_140
          refine ic_0 hx hb dX12_formula_158 ?_
          refine lv_istore_n (lv' := [(2, .int 0), (3, .int r_127), (0, .ref (a 66))]) hx hb dX12_formula_159 rfl hl (lt_b rfl) rfl (fun ls hl => ?_)
          refine lv_goto (tgt := 36) hx hb dX12_formula_160 rfl ?_
          have g_141 : (G_136.1 66 2).toInt = (G_27.1 66 2).toInt := (congrArg Int32.toInt (show G_136.1 66 2 = (G_27.1 66 2) from ((hq_138.i9 66 2 rfl rfl).trans ((hq_129.i9 66 2 rfl rfl).trans (rfl)))))
          have g_142 : (G_136.1 66 20).toInt = (G_27.1 66 20).toInt := (congrArg Int32.toInt (show G_136.1 66 20 = (G_27.1 66 20) from ((hq_138.i9 66 20 rfl rfl).trans ((hq_129.i9 66 20 rfl rfl).trans (rfl)))))
          have g_143 : (G_136.1 66 23).toInt = (G_27.1 66 23).toInt := (congrArg Int32.toInt (show G_136.1 66 23 = (G_27.1 66 23) from ((hq_138.i9 66 23 rfl rfl).trans ((hq_129.i9 66 23 rfl rfl).trans (rfl)))))
          have fr_144 : Fr [] [] G_27 G_136 := (Fr.call9 (rs := []) (fs := []) (Fr.call9 (rs := []) (fs := []) Fr.rf hq_129 rfl rfl) hq_138 rfl rfl)
          have g_145 : gB G_136 = gB G_27 := gB_fr fr_144 (gr_q rfl) (gf_q rfl)
          have g_146 : gC G_136 = gC G_27 := gC_fr fr_144 (gr_q rfl) (gf_q rfl)
          have g_147 : gD G_136 = gD G_27 := gD_fr fr_144 (gr_q rfl) (gf_q rfl)
          have g_148 : gM G_136 = gM G_27 := gM_fr fr_144 (gr_q rfl) (gf_q rfl)
          have g_149 : (G_136.1 66 2).toInt = (G_27.1 66 2).toInt := (congrArg Int32.toInt (show G_136.1 66 2 = (G_27.1 66 2) from ((hq_138.i9 66 2 rfl rfl).trans ((hq_129.i9 66 2 rfl rfl).trans (rfl)))))
          have g_150 : (G_136.1 66 20).toInt = (G_27.1 66 20).toInt := (congrArg Int32.toInt (show G_136.1 66 20 = (G_27.1 66 20) from ((hq_138.i9 66 20 rfl rfl).trans ((hq_129.i9 66 20 rfl rfl).trans (rfl)))))
          have g_151 : (G_136.1 66 23).toInt = (G_27.1 66 23).toInt := (congrArg Int32.toInt (show G_136.1 66 23 = (G_27.1 66 23) from ((hq_138.i9 66 23 rfl rfl).trans ((hq_129.i9 66 23 rfl rfl).trans (rfl)))))
          have g_152 : (G_136.1 66 24).toInt = (G_27.1 66 24).toInt := (congrArg Int32.toInt (show G_136.1 66 24 = (G_27.1 66 24) from ((hq_138.i9 66 24 rfl rfl).trans ((hq_129.i9 66 24 rfl rfl).trans (rfl)))))
          have g_153 : (G_136.1 66 4).toInt = (G_27.1 66 4).toInt := (congrArg Int32.toInt (show G_136.1 66 4 = (G_27.1 66 4) from ((hq_138.i9 66 4 rfl rfl).trans ((hq_129.i9 66 4 rfl rfl).trans (rfl)))))
          have g_154 : (G_136.1 66 6).toInt = (G_27.1 66 6).toInt := (congrArg Int32.toInt (show G_136.1 66 6 = (G_27.1 66 6) from ((hq_138.i9 66 6 rfl rfl).trans ((hq_129.i9 66 6 rfl rfl).trans (rfl)))))
          have qc_155 : (0 : Int32).toInt = 0 := rfl
          exact ih_29 (4000 - 1000 * (G_136.1 66 2).toInt + 100 * (40 - (G_136.1 66 23).toInt) + (G_136.1 66 20).toInt + 0 : Int).toNat ((by first | (clear ha_p0 hnf hE9 hp9 u_6 b_7 g_8 g_10 g_12 g_13 g_14 g_15 g_16 g_17 g_18 b_19 g_20 g_21 d_1 d_2 d_3 d_4 b_33 b_34 b_35 b_36 b_37 f_40 f_41 d_5 d_6 b_47 f_132 hp_130 c_140 g_153 g_154; omega) | omega)) _ _ _ ⟨G_136, 0, (Int.toNat_of_nonneg ((by first | exact ok_927 b_44.1 b_45.2 c_126 g_141 g_142 g_143 | omega))), ⟨(by decide), (by decide)⟩, ((by first | exact (fun h9 => ⟨(by first | exact ok_796 d_8.1 g_146 | omega), ⟨(by first | exact ok_797 d_8.2.1 g_145 g_147 | omega), ⟨(by first | exact ok_928 d_8.2.2.1 g_142 g_145 g_152 | omega), ⟨(by first | exact ok_929 d_8.2.2.2.1 g_143 g_147 | omega), ⟨(by first | exact ok_907 b_45.2 d_8.2.2.2.2.1 g_143 | omega), ⟨(by first | exact ok_930 d_8.2.2.2.2.2.1 g_142 g_143 g_148 | omega), (by first | exact ok_887 d_8.2.2.2.2.2.2 g_152 | omega)⟩⟩⟩⟩⟩⟩) | omega)), ((by first | exact ⟨(by first | exact ok_347 f_41.1 g_153 | omega), (fun h9 => by have q0_ := d_6 (by first | (clear ha_p0 hnf hE9 hp9 u_6 b_7 g_8 g_10 g_12 g_13 g_14 g_15 g_16 g_17 g_18 g_21 d_1 d_2 d_4 b_33 b_34 b_35 b_36 hn_42 f_39 f_40 f_41 d_6 b_43 b_44 b_45 b_46 u_48 c_125 c_126 d_8 f_132 hp_130 c_140 g_141 g_142 g_143 g_145 g_146 g_147 g_148 g_149 g_150 g_151 g_152 g_154; omega) | omega); (first | (clear ha_p0 hnf hE9 hp9 u_6 b_7 g_8 g_10 g_12 g_13 g_14 g_15 g_16 g_17 g_18 b_19 g_20 d_1 d_2 d_3 d_4 b_33 b_34 b_35 b_36 b_37 hn_42 f_39 f_40 f_41 d_5 d_6 b_43 b_44 b_45 b_46 b_47 u_48 c_125 c_126 d_8 f_132 hp_130 c_140 g_141 g_142 g_143 g_145 g_146 g_147 g_148 g_149 g_150 g_151 g_152 g_153; omega) | omega))⟩ | omega)), (hX_32.st (St_n_formula_1_mk ⟨x_31, G_27, 0, G_136, rfl, rfl, f_39, f_40, f_41, hB_G_27, ⟨c_125, ⟨c_126, ⟨r_127, G_128, hX_131, (Or.inr ⟨G_136, hX_139, hB_G_136, hq_138, (Or.inl ⟨c_140, ⟨rfl, rfl⟩⟩)⟩)⟩⟩⟩⟩)), hW, hB_G_136, hF, (Fr.call9 (rs := [69, 70, 71, 75]) (fs := [(66, 2), (66, 3), (66, 4), (66, 6), (66, 7), (66, 8), (66, 9), (66, 20), (66, 21), (66, 23), (66, 24)]) (Fr.call9 (rs := [69, 70, 71, 75]) (fs := [(66, 2), (66, 3), (66, 4), (66, 6), (66, 7), (66, 8), (66, 9), (66, 20), (66, 21), (66, 23), (66, 24)]) (Fr.call9 (rs := [69, 70, 71, 75]) (fs := [(66, 2), (66, 3), (66, 4), (66, 6), (66, 7), (66, 8), (66, 9), (66, 20), (66, 21), (66, 23), (66, 24)]) Fr.rf hq_28 rfl rfl) hq_129 rfl rfl) hq_138 rfl rfl), hS, lv_sub hl [0, 2] rfl⟩
        · have c_140 : r_127.toInt ≠ 0 := xI_ne rfl rfl c_140
          refine lv_iload_n hx hb dX12_formula_104 rfl (lv_at hl 0 rfl) ?_
          refine S_calli (va_runS (As := [.int r_127]) (rest := []) ⟨hx, hb, hml, hown, hts⟩ (n_tight l D k A a z G_136 r_127 ) (va_cwS 1 hts (gd_S hgd m1722 m1723 m131 m1724) rfl rfl rfl hd_X12_tight.2 ⟨Nat.le_of_ble_eq_true rfl, Nat.le_of_ble_eq_true rfl⟩) (pre_S hW hB_G_136 hK hZ hS) rfl rfl hl.1 rfl (lv_room (Nat.le_of_ble_eq_true rfl)) dX12_formula_105 ⟨Nat.le_of_ble_eq_true rfl, Nat.le_of_ble_eq_true rfl⟩) hS (fun r_156 G_157 H locs hpo hW hS => ?_)
          have hX_160 : Q_tight r_127 G_136 r_156 G_157 := hpo
          obtain ⟨hB_G_157, hq_158, f_161, -⟩ := hpo
          have hF := hF.call9 hq_158 rfl rfl
          refine ic_4 hx hb dX12_formula_108 ?_
          refine W.cut (σ := Unit) (pcJ := 119) (J := fun y H locs ls => ∃ (G_165 : GS), Jn_n_formula_4 r_156 G_157 G_165 ∧ Wd D k A a G_165 H ∧ Bd G_165 ∧ Fr [69, 70, 71, 75] [(66, 2), (66, 3), (66, 4), (66, 6), (66, 7), (66, 8), (66, 9), (66, 19), (66, 20), (66, 21), (66, 23), (66, 24)] G G_165 ∧ Fr [] [] G_157 G_165 ∧ va_S A s.heap H locs ∧ lv_has ls 4 [(3, .int r_127), (2, .int x_31), (0, .ref (a 66))]) (stJ := fun _ => []) ?_ (fun hJ_166 => ?_)
          · intro y H locs ls hI
            obtain ⟨G_165, hX_168, hW, hB_G_165, hF, hq_167, hS, hl⟩ := hI
            refine lv_aload_n hx hb dX12_formula_119 rfl (lv_at hl 2 rfl) ?_
            refine lv_iload_n hx hb dX12_formula_120 rfl (lv_at hl 0 rfl) ?_
            refine S_calli (va_runS (As := [.int r_127]) (rest := [.ref (a 66)]) ⟨hx, hb, hml, hown, hts⟩ (n_tight l D k A a z G_165 r_127 ) (va_cwS 1 hts (gd_S hgd m1722 m1723 m131 m1724) rfl rfl rfl hd_X12_tight.2 ⟨Nat.le_of_ble_eq_true rfl, Nat.le_of_ble_eq_true rfl⟩) (pre_S hW hB_G_165 hK hZ hS) rfl rfl hl.1 rfl (lv_room (Nat.le_of_ble_eq_true rfl)) dX12_formula_121 ⟨Nat.le_of_ble_eq_true rfl, Nat.le_of_ble_eq_true rfl⟩) hS (fun r_169 G_170 H locs hpo hW hS => ?_)
            have hX_173 : Q_tight r_127 G_165 r_169 G_170 := hpo
            obtain ⟨hB_G_170, hq_171, f_174, -⟩ := hpo
            have hF := hF.call9 hq_171 rfl rfl
            have fr_175 : Fr [] [] G_27 G_170 := (Fr.call9 (rs := []) (fs := []) (Fr.call9 (rs := []) (fs := []) (Fr.call9 (rs := []) (fs := []) (Fr.call9 (rs := []) (fs := []) (Fr.call9 (rs := []) (fs := []) Fr.rf hq_129 rfl rfl) hq_138 rfl rfl) hq_158 rfl rfl) hq_167 rfl rfl) hq_171 rfl rfl)
            have g_176 : gB G_170 = gB G_27 := gB_fr fr_175 (gr_q rfl) (gf_q rfl)
            have g_177 : gC G_170 = gC G_27 := gC_fr fr_175 (gr_q rfl) (gf_q rfl)
            have g_178 : gD G_170 = gD G_27 := gD_fr fr_175 (gr_q rfl) (gf_q rfl)
            have g_179 : gM G_170 = gM G_27 := gM_fr fr_175 (gr_q rfl) (gf_q rfl)
            have g_180 : (G_170.1 66 20).toInt = (G_27.1 66 20).toInt := (congrArg Int32.toInt (show G_170.1 66 20 = (G_27.1 66 20) from ((hq_171.i9 66 20 rfl rfl).trans ((hq_167.i9 66 20 rfl rfl).trans ((hq_158.i9 66 20 rfl rfl).trans ((hq_138.i9 66 20 rfl rfl).trans ((hq_129.i9 66 20 rfl rfl).trans (rfl))))))))
            have g_181 : (G_170.1 66 24).toInt = (G_27.1 66 24).toInt := (congrArg Int32.toInt (show G_170.1 66 24 = (G_27.1 66 24) from ((hq_171.i9 66 24 rfl rfl).trans ((hq_167.i9 66 24 rfl rfl).trans ((hq_158.i9 66 24 rfl rfl).trans ((hq_138.i9 66 24 rfl rfl).trans ((hq_129.i9 66 24 rfl rfl).trans (rfl))))))))
            have g_182 : gK G_170 = gK G_27 := gK_fr fr_175 (gr_q rfl) (gf_q rfl)
            have g_183 : (G_170.1 66 20).toInt = (G_27.1 66 20).toInt := (congrArg Int32.toInt (show G_170.1 66 20 = (G_27.1 66 20) from ((hq_171.i9 66 20 rfl rfl).trans ((hq_167.i9 66 20 rfl rfl).trans ((hq_158.i9 66 20 rfl rfl).trans ((hq_138.i9 66 20 rfl rfl).trans ((hq_129.i9 66 20 rfl rfl).trans (rfl))))))))
            have g_184 : (G_170.1 66 24).toInt = (G_27.1 66 24).toInt := (congrArg Int32.toInt (show G_170.1 66 24 = (G_27.1 66 24) from ((hq_171.i9 66 24 rfl rfl).trans ((hq_167.i9 66 24 rfl rfl).trans ((hq_158.i9 66 24 rfl rfl).trans ((hq_138.i9 66 24 rfl rfl).trans ((hq_129.i9 66 24 rfl rfl).trans (rfl))))))))
            refine S_callv (va_runV (As := [.int r_169]) (rest := []) ⟨hx, hb, hml, hown, hts⟩ (n_close l D k A a z G_170 r_169 ((by first | exact ⟨(by first | exact ok_796 d_8.1 g_177 | omega), ⟨(by first | exact ok_797 d_8.2.1 g_176 g_178 | omega), ⟨(by first | exact ok_798 d_8.2.2.1 g_176 g_180 g_181 | omega), ⟨(by first | exact ok_925 b_45.2 d_8.2.2.2.2.1 d_8.2.2.2.2.2.1 g_179 g_180 | omega), (by first | exact ok_926 d_8.2.2.2.1 d_8.2.2.2.2.1 g_178 | omega)⟩⟩⟩⟩ | omega))) (cwV 1 hts (gd_V hgd m1753 m1755 m79 m131 m1756) rfl rfl rfl hd_X12_close ⟨Nat.le_of_ble_eq_true rfl, Nat.le_of_ble_eq_true rfl⟩) (pre_W hW hB_G_170 hK hZ hS kd_66 rfl) rfl rfl hl.1 rfl (lv_room (Nat.le_of_ble_eq_true rfl)) dX12_formula_124 ⟨Nat.le_of_ble_eq_true rfl, Nat.le_of_ble_eq_true rfl⟩) hS (fun G_186 H locs hpo hW hS => ?_)
            have hX_189 : Q_close r_169 G_170 G_186 := hpo
            obtain ⟨hB_G_186, hq_187, hp_188, -⟩ := hpo
            have hF := hF.call9 hq_187 rfl rfl
            refine lv_aload_n hx hb dX12_formula_127 rfl (lv_at hl 2 rfl) ?_
            refine S_getR (n := 75) (C := RX12) (T := TX12) (N := 89) hx hb hg iX12 hown hK hW kd_66 rfl 17 (lt_b rfl) (hg (Cond.fieldLink RX12 39 "SlabWalkModel" "open" "[I") m1331) (fun _ h9 => h9) rfl dX12_formula_128 ?_
            refine lv_aload_n hx hb dX12_formula_131 rfl (lv_at hl 2 rfl) ?_
            have b_190 : 0 ≤ (G_186.1 66 20).toInt ∧ (G_186.1 66 20).toInt ≤ 160 := bd_66_20 hB_G_186
            refine S_getI (v := (G_186.1 66 20)) (C := RX12) (T := TX12) (N := 89) hx hb hg iX12 hown hK hW kd_66 rfl 20 (lt_b rfl) (hg (Cond.fieldLink RX12 299 "SlabWalkModel" "opens" "I") m1334) (fun _ h9 => h9) rfl rfl dX12_formula_132 ?_
            refine lv_iload_n hx hb dX12_formula_135 rfl (lv_at hl 0 rfl) ?_
            refine S_iast hx hb hK hW hS kd_75 (vin ((by first | exact b_190.1 | omega)) ((by first | exact ok_931 d_8.2.1 d_8.2.2.1 d_8.2.2.2.1 d_8.2.2.2.2.1 d_8.2.2.2.2.2.2 g_180 hp_188.2.2.2.2.2.1 b_190.2 | omega))) dX12_formula_136 (fun G_191 H locs eG_191 hW hS => ?_)
            have hB_G_191 : Bd G_191 := hB_G_186.put (lo := (-2147483648)) (hi := 2147483647) eG_191 rfl rfl rfl (tI_rng _).1 (tI_rng _).2 (hB_G_186.2.put eG_191 rfl)
            have hF := hF.put eG_191 (Or.inl (by decide))
            refine lv_aload_n hx hb dX12_formula_137 rfl (lv_at hl 2 rfl) ?_
            refine lv_dup hx hb dX12_formula_138 rfl ?_
            refine S_getI (v := (G_186.1 66 20)) (C := RX12) (T := TX12) (N := 89) hx hb hg iX12 hown hK hW kd_66 rfl 20 (lt_b rfl) (hg (Cond.fieldLink RX12 299 "SlabWalkModel" "opens" "I") m1334) (fun _ h9 => h9) rfl ((gp_ne eG_191 (fun q => absurd q.1 (Nat.ne_of_beq_eq_false rfl))).trans (rfl)) dX12_formula_139 ?_
            refine ic_1 hx hb dX12_formula_142 ?_
            refine lv_iadd hx hb dX12_formula_143 ?_
            refine lv_topi (fun y_192 ey_192 => ?_)
            have ty_192 : y_192.toInt = (G_186.1 66 20).toInt + 1 := xI_add rfl rfl ey_192 ((by first | exact ok_21 b_190.1 | omega)) ((by first | exact ok_778 b_190.2 | omega))
            refine S_putI (ty := .int) (C := RX12) (T := TX12) (N := 89) hx hb hg iX12 tyX12 tyX12_ok nmX12 hown hK hW hS kd_66 rfl 20 (lt_b rfl) (hg (Cond.fieldLink RX12 299 "SlabWalkModel" "opens" "I") m1334) (fun _ h9 => h9) rfl (by decide +kernel) rfl rfl rfl dX12_formula_144 (fun G_193 H locs eG_193 hW hS => ?_)
            have hB_G_193 : Bd G_193 := hB_G_191.put (V := y_192.toInt) (lo := 0) (hi := 160) eG_193 rfl rfl rfl ((by first | exact ok_23 b_190.1 ty_192 | omega)) ((by first | exact ok_932 d_8.2.1 d_8.2.2.1 d_8.2.2.2.1 d_8.2.2.2.2.1 d_8.2.2.2.2.2.2 g_180 hp_188.2.2.2.2.2.1 b_190.2 ty_192 | omega)) (hB_G_191.2.put eG_193 rfl)
            have hF := hF.put eG_193 (Or.inr (by decide))
            have u_194 : (r_127.toInt = 20 ∨ r_127.toInt = 21 → gB G_193 = gB G_186) ∧ (r_127.toInt ≠ 20 → r_127.toInt ≠ 21 → gB G_193 = gB G_186 + 1) := gh_push eG_191 eG_193 (by first | (clear ha_p0 hnf hE9 hp9 u_6 b_7 g_8 g_10 g_12 g_13 g_14 g_15 g_16 g_17 g_18 b_19 g_20 g_21 d_1 d_2 d_3 d_4 b_33 b_34 b_35 b_36 b_37 hn_42 f_39 f_40 f_41 d_5 d_6 b_43 b_45 b_47 c_125 f_161; omega) | omega) (by first | (clear ha_p0 hnf hE9 hp9 u_6 b_7 g_8 g_10 g_12 g_13 g_14 g_15 g_16 g_17 g_18 b_19 g_20 g_21 d_1 d_2 d_3 d_4 b_33 b_34 b_35 b_36 b_37 hn_42 f_39 f_40 f_41 d_5 d_6 b_43 b_45 b_47 c_125 f_161; omega) | omega) (by first | (clear ha_p0 hnf hE9 hp9 u_6 b_7 g_8 g_10 g_12 g_13 g_14 g_15 g_16 g_17 g_18 b_19 g_20 g_21 d_1 d_2 d_3 d_4 b_33 b_34 b_35 b_36 b_37 hn_42 f_39 f_40 f_41 d_5 d_6 b_43 b_45 b_47 c_125 f_161; omega) | omega)
            have d_9 := u_194.1
            have d_10 := u_194.2
            refine lv_aload_n hx hb dX12_formula_147 rfl (lv_at hl 2 rfl) ?_
            have g_195 : (G_193.1 66 4).toInt = (G_27.1 66 4).toInt := (congrArg Int32.toInt (show G_193.1 66 4 = (G_27.1 66 4) from ((gp_ne eG_193 (by decide)).trans ((gp_ne eG_191 (fun q => absurd q.1 (Nat.ne_of_beq_eq_false rfl))).trans ((hq_187.i9 66 4 rfl rfl).trans ((hq_171.i9 66 4 rfl rfl).trans ((hq_167.i9 66 4 rfl rfl).trans ((hq_158.i9 66 4 rfl rfl).trans ((hq_138.i9 66 4 rfl rfl).trans ((hq_129.i9 66 4 rfl rfl).trans (rfl)))))))))))
            have g_196 : (G_193.1 66 6).toInt = (G_27.1 66 6).toInt := (congrArg Int32.toInt (show G_193.1 66 6 = (G_27.1 66 6) from ((gp_ne eG_193 (by decide)).trans ((gp_ne eG_191 (fun q => absurd q.1 (Nat.ne_of_beq_eq_false rfl))).trans ((hq_187.i9 66 6 rfl rfl).trans ((hq_171.i9 66 6 rfl rfl).trans ((hq_167.i9 66 6 rfl rfl).trans ((hq_158.i9 66 6 rfl rfl).trans ((hq_138.i9 66 6 rfl rfl).trans ((hq_129.i9 66 6 rfl rfl).trans (rfl)))))))))))
            refine S_callv (va_runV (As := []) (rest := []) ⟨hx, hb, hml, hown, hts⟩ (n_token l D k A a z G_193  ) (cwV 0 hts (gd_V hgd m1602 m1604 m50 m131 m1605) rfl rfl rfl hd_X12_token ⟨Nat.le_of_ble_eq_true rfl, Nat.le_of_ble_eq_true rfl⟩) (pre_W hW hB_G_193 hK hZ hS kd_66 rfl) rfl rfl hl.1 rfl (lv_room (Nat.le_of_ble_eq_true rfl)) dX12_formula_148 ⟨Nat.le_of_ble_eq_true rfl, Nat.le_of_ble_eq_true rfl⟩) hS (fun G_198 H locs hpo hW hS => ?_)
            have hX_201 : Q_token G_193 G_198 := hpo
            obtain ⟨hB_G_198, hq_199, ⟨d_11, d_12⟩, -⟩ := hpo
            have hF := hF.call9 hq_199 rfl rfl
            refine lv_aload_n hx hb dX12_formula_151 rfl (lv_at hl 2 rfl) ?_
            have g_202 : (G_198.1 66 2).toInt = (G_27.1 66 2).toInt := (congrArg Int32.toInt (show G_198.1 66 2 = (G_27.1 66 2) from ((hq_199.i9 66 2 rfl rfl).trans ((gp_ne eG_193 (by decide)).trans ((gp_ne eG_191 (fun q => absurd q.1 (Nat.ne_of_beq_eq_false rfl))).trans ((hq_187.i9 66 2 rfl rfl).trans ((hq_171.i9 66 2 rfl rfl).trans ((hq_167.i9 66 2 rfl rfl).trans ((hq_158.i9 66 2 rfl rfl).trans ((hq_138.i9 66 2 rfl rfl).trans ((hq_129.i9 66 2 rfl rfl).trans (rfl))))))))))))
            have fr_203 : Fr [] [(66, 4), (66, 6), (66, 7), (66, 8), (66, 9)] G_193 G_198 := (Fr.call9 (rs := []) (fs := [(66, 4), (66, 6), (66, 7), (66, 8), (66, 9)]) Fr.rf hq_199 rfl rfl)
            have g_204 : gB G_198 = gB G_193 := gB_fr fr_203 (gr_q rfl) (gf_q rfl)
            have fr_205 : Fr [75] [(66, 4), (66, 6), (66, 7), (66, 8), (66, 9), (66, 20)] G_186 G_198 := (Fr.call9 (rs := [75]) (fs := [(66, 4), (66, 6), (66, 7), (66, 8), (66, 9), (66, 20)]) (Fr.put (rs := [75]) (fs := [(66, 4), (66, 6), (66, 7), (66, 8), (66, 9), (66, 20)]) (Fr.put (rs := [75]) (fs := [(66, 4), (66, 6), (66, 7), (66, 8), (66, 9), (66, 20)]) Fr.rf eG_191 (Or.inl (by decide))) eG_193 (Or.inr (by decide))) hq_199 rfl rfl)
            have g_206 : gC G_198 = gC G_186 := gC_fr fr_205 (gr_q rfl) (gf_q rfl)
            have g_207 : gD G_198 = gD G_186 := gD_fr fr_205 (gr_q rfl) (gf_q rfl)
            have g_208 : gM G_198 = gM G_186 := gM_fr fr_205 (gr_q rfl) (gf_q rfl)
            have g_209 : (G_198.1 66 20).toInt = y_192.toInt := (congrArg Int32.toInt (show G_198.1 66 20 = y_192 from ((hq_199.i9 66 20 rfl rfl).trans (gp_eq eG_193))))
            have g_210 : (G_198.1 66 23).toInt = (G_27.1 66 23).toInt := (congrArg Int32.toInt (show G_198.1 66 23 = (G_27.1 66 23) from ((hq_199.i9 66 23 rfl rfl).trans ((gp_ne eG_193 (by decide)).trans ((gp_ne eG_191 (fun q => absurd q.1 (Nat.ne_of_beq_eq_false rfl))).trans ((hq_187.i9 66 23 rfl rfl).trans ((hq_171.i9 66 23 rfl rfl).trans ((hq_167.i9 66 23 rfl rfl).trans ((hq_158.i9 66 23 rfl rfl).trans ((hq_138.i9 66 23 rfl rfl).trans ((hq_129.i9 66 23 rfl rfl).trans (rfl))))))))))))
            have b_211 : (-1) ≤ (G_186.1 66 24).toInt ∧ (G_186.1 66 24).toInt ≤ 200 := bd_66_24 hB_G_186
            have g_212 : (G_198.1 66 24).toInt = (G_186.1 66 24).toInt := (congrArg Int32.toInt (show G_198.1 66 24 = (G_186.1 66 24) from ((hq_199.i9 66 24 rfl rfl).trans ((gp_ne eG_193 (by decide)).trans (gp_ne eG_191 (fun q => absurd q.1 (Nat.ne_of_beq_eq_false rfl)))))))
            have g_213 : (G_198.1 66 23).toInt = (G_27.1 66 23).toInt := (congrArg Int32.toInt (show G_198.1 66 23 = (G_27.1 66 23) from ((hq_199.i9 66 23 rfl rfl).trans ((gp_ne eG_193 (by decide)).trans ((gp_ne eG_191 (fun q => absurd q.1 (Nat.ne_of_beq_eq_false rfl))).trans ((hq_187.i9 66 23 rfl rfl).trans ((hq_171.i9 66 23 rfl rfl).trans ((hq_167.i9 66 23 rfl rfl).trans ((hq_158.i9 66 23 rfl rfl).trans ((hq_138.i9 66 23 rfl rfl).trans ((hq_129.i9 66 23 rfl rfl).trans (rfl))))))))))))
            have b_214 : 0 ≤ (G_198.1 66 4).toInt ∧ (G_198.1 66 4).toInt ≤ 1600 := bd_66_4 hB_G_198
            refine S_callv (va_runV (As := []) (rest := []) ⟨hx, hb, hml, hown, hts⟩ (n_unit l D k A a z G_198  ((by first | exact ok_933 b_43.1 c_126 g_202 | omega)) ((by first | exact ⟨(by first | exact ok_796 hp_188.1 g_206 | omega), ⟨((by first | (clear ha_p0 hnf hE9 hp9 u_6 b_7 g_8 g_10 g_12 g_13 g_14 g_15 g_16 g_17 g_18 b_19 g_20 g_21 d_1 d_2 d_3 d_4 b_33 b_34 b_35 b_36 b_37 hn_42 f_39 f_40 f_41 d_5 d_6 b_43 b_45 b_47 c_125 f_161 u_194 g_195 g_196 d_11 d_12 b_214; omega) | omega)), ⟨((by first | (clear ha_p0 hnf hE9 hp9 u_6 b_7 g_8 g_10 g_12 g_13 g_14 g_15 g_16 g_17 g_18 b_19 g_20 g_21 d_1 d_2 d_3 d_4 b_33 b_34 b_35 b_36 b_37 hn_42 f_39 f_40 f_41 d_5 d_6 b_43 b_45 b_47 c_125 f_161 u_194 g_195 g_196 d_11 d_12 b_214; omega) | omega)), ⟨(by first | exact ok_934 d_8.2.2.2.1 g_178 hp_188.2.2.2.2.2.2.1 g_207 g_210 | omega), ⟨(by first | exact ok_910 d_8.2.2.2.2.1 g_210 | omega), ⟨(by first | exact ok_935 d_8.2.2.2.2.2.2 g_181 hp_188.2.2.2.2.2.2.2.1 b_211.2 g_212 | omega), (by first | exact ok_936 d_8.2.2.2.2.2.1 g_179 g_180 hp_188.2.2.2.1 ty_192 g_208 g_209 g_210 | omega)⟩⟩⟩⟩⟩⟩ | omega))) (cwV 0 hts (gd_V hgd m1714 m1716 m70 m131 m1717) rfl rfl rfl hd_X12_unit ⟨Nat.le_of_ble_eq_true rfl, Nat.le_of_ble_eq_true rfl⟩) (pre_W hW hB_G_198 hK hZ hS kd_66 rfl) rfl rfl hl.1 rfl (lv_room (Nat.le_of_ble_eq_true rfl)) dX12_formula_152 ⟨Nat.le_of_ble_eq_true rfl, Nat.le_of_ble_eq_true rfl⟩) hS (fun G_216 H locs hpo hW hS => ?_)
            have hX_219 : Q_unit G_198 G_216 := hpo
            obtain ⟨hB_G_216, hq_217, ⟨d_13, d_14, d_15, d_16⟩, -⟩ := hpo
            have hF := hF.call9 hq_217 rfl rfl
            refine lv_goto (tgt := 160) hx hb dX12_formula_155 rfl ?_
            refine lv_goto (tgt := 36) hx hb dX12_formula_160 rfl ?_
            have b_220 : 0 ≤ (G_216.1 66 2).toInt ∧ (G_216.1 66 2).toInt ≤ 4 := bd_66_2 hB_G_216
            have b_221 : 0 ≤ (G_216.1 66 20).toInt ∧ (G_216.1 66 20).toInt ≤ 160 := bd_66_20 hB_G_216
            have b_222 : 0 ≤ (G_216.1 66 23).toInt ∧ (G_216.1 66 23).toInt ≤ 40 := bd_66_23 hB_G_216
            have b_223 : (-1) ≤ (G_216.1 66 24).toInt ∧ (G_216.1 66 24).toInt ≤ 200 := bd_66_24 hB_G_216
            have b_224 : 0 ≤ (G_216.1 66 4).toInt ∧ (G_216.1 66 4).toInt ≤ 1600 := bd_66_4 hB_G_216
            exact ih_29 (4000 - 1000 * (G_216.1 66 2).toInt + 100 * (40 - (G_216.1 66 23).toInt) + (G_216.1 66 20).toInt + x_31.toInt : Int).toNat ((by first | (clear ha_p0 hnf hE9 hp9 u_6 b_7 g_8 g_10 g_12 g_13 g_14 g_15 g_16 g_17 g_18 b_19 g_20 g_21 d_1 d_2 d_3 d_4 b_33 b_34 b_35 b_36 b_37 f_40 f_41 d_5 d_6 b_47 f_132 hp_130 c_140 f_161 u_194 g_195 g_196 d_11 d_12 b_214 d_15 d_16 b_224; omega) | omega)) _ _ _ ⟨G_216, x_31, (Int.toNat_of_nonneg ((by first | exact ok_937 f_39.1 b_220.2 b_221.1 b_222.2 | omega))), ⟨(by first | exact f_39.1 | omega), (by first | exact f_39.2 | omega)⟩, ((by first | exact (fun h9 => ⟨(by first | exact ok_915 d_14 b_220.1 h9 | omega), ⟨(by first | exact ok_916 d_14 b_220.1 h9 | omega), ⟨(by first | exact ok_917 d_14 b_220.1 h9 | omega), ⟨(by first | exact ok_918 d_14 b_220.1 h9 | omega), ⟨(by first | exact ok_938 d_14 b_220.1 b_222.2 h9 | omega), ⟨(by first | exact ok_920 d_14 b_220.1 h9 | omega), (by first | exact ok_921 d_14 b_220.1 h9 | omega)⟩⟩⟩⟩⟩⟩) | omega)), ((by first | exact ⟨(by first | exact ok_939 b_19.2 f_41.1 g_195 d_11 d_15 b_224.1 | omega), (fun h9 => by have q0_ := d_6 (by first | (clear ha_p0 hnf hE9 hp9 u_6 b_7 g_8 g_10 g_12 g_13 g_14 g_15 g_16 g_17 g_18 g_21 d_1 d_2 d_4 b_33 b_34 b_35 b_36 hn_42 f_39 f_40 f_41 d_6 b_43 b_44 b_45 b_46 u_48 c_125 c_126 d_8 f_132 hp_130 c_140 f_161 f_174 g_176 g_177 g_178 g_179 g_180 g_181 g_182 g_183 g_184 hp_188 b_190 ty_192 u_194 d_9 d_10 g_196 d_12 g_202 g_204 g_206 g_207 g_208 g_209 g_210 b_211 g_212 g_213 d_13 d_14 d_16 b_220 b_221 b_222 b_223; omega) | omega); have q1_ := d_12 (by first | (clear ha_p0 hnf hE9 hp9 u_6 b_7 g_8 g_10 g_12 g_13 g_14 g_15 g_16 g_17 g_18 g_21 d_1 d_2 d_4 b_33 b_34 b_35 b_36 hn_42 f_39 f_40 f_41 d_6 b_43 b_44 b_45 b_46 u_48 c_125 c_126 d_8 f_132 hp_130 c_140 f_161 f_174 g_176 g_177 g_178 g_179 g_180 g_181 g_182 g_183 g_184 hp_188 b_190 ty_192 u_194 d_9 d_10 g_196 d_12 g_202 g_204 g_206 g_207 g_208 g_209 g_210 b_211 g_212 g_213 d_13 d_14 d_16 b_220 b_221 b_222 b_223; omega) | omega); have q2_ := d_16 (by first | (clear ha_p0 hnf hE9 hp9 u_6 b_7 g_8 g_10 g_12 g_13 g_14 g_15 g_16 g_17 g_18 g_21 d_1 d_2 d_4 b_33 b_34 b_35 b_36 hn_42 f_39 f_40 f_41 d_6 b_43 b_44 b_45 b_46 u_48 c_125 c_126 d_8 f_132 hp_130 c_140 f_161 f_174 g_176 g_177 g_178 g_179 g_180 g_181 g_182 g_183 g_184 hp_188 b_190 ty_192 u_194 d_9 d_10 g_196 d_12 g_202 g_204 g_206 g_207 g_208 g_209 g_210 b_211 g_212 g_213 d_13 d_14 d_16 b_220 b_221 b_222 b_223; omega) | omega); have r1_ : (G_198.1 66 6).toInt = (G.1 66 6).toInt ∨ (G_198.1 66 6).toInt ≤ 3 := (by (first | (clear ha_p0 hnf hE9 hp9 u_6 b_7 g_8 g_10 g_12 g_13 g_14 g_15 g_16 g_17 g_18 b_19 g_20 d_1 d_2 d_3 d_4 b_33 b_34 b_35 b_36 b_37 hn_42 f_39 f_40 f_41 d_5 d_6 b_43 b_44 b_45 b_46 b_47 u_48 c_125 c_126 d_8 f_132 hp_130 c_140 f_161 f_174 g_176 g_177 g_178 g_179 g_180 g_181 g_182 g_183 g_184 hp_188 b_190 ty_192 u_194 d_9 d_10 g_195 d_11 d_12 g_202 g_204 g_206 g_207 g_208 g_209 g_210 b_211 g_212 g_213 b_214 d_13 d_14 d_15 d_16 b_220 b_221 b_222 b_223 b_224; omega) | omega)); clear q1_ q0_; (first | (clear ha_p0 hnf hE9 hp9 u_6 b_7 g_8 g_10 g_12 g_13 g_14 g_15 g_16 g_17 g_18 b_19 g_20 d_1 d_2 d_3 d_4 b_33 b_34 b_35 b_36 b_37 hn_42 f_39 f_40 f_41 d_5 d_6 b_43 b_44 b_45 b_46 b_47 u_48 c_125 c_126 d_8 f_132 hp_130 c_140 f_161 f_174 g_176 g_177 g_178 g_179 g_180 g_181 g_182 g_183 g_184 hp_188 b_190 ty_192 u_194 d_9 d_10 g_195 d_11 d_12 g_202 g_204 g_206 g_207 g_208 g_209 g_210 b_211 g_212 g_213 b_214 d_13 d_14 d_15 d_16 b_220 b_221 b_222 b_223 b_224; omega) | omega))⟩ | omega)), (hX_32.st (St_n_formula_1_mk ⟨x_31, G_27, x_31, G_216, rfl, rfl, f_39, f_40, f_41, hB_G_27, ⟨c_125, ⟨c_126, ⟨r_127, G_128, hX_131, (Or.inr ⟨G_136, hX_139, hB_G_136, hq_138, (Or.inr ⟨c_140, ⟨r_156, G_157, hX_160, (Or.inr ⟨G_165, hX_168, hB_G_165, hq_167, ⟨r_169, G_170, hX_173, ⟨G_186, hX_189, ⟨y_192, ty_192, ⟨G_193, hB_G_193, (Fr.put (rs := [75]) (fs := [(66, 20)]) (Fr.put (rs := [75]) (fs := [(66, 20)]) Fr.rf eG_191 (Or.inl (by decide))) eG_193 (Or.inr (by decide))), (gp_eq eG_193), (rw_put eG_193 (by decide)).trans (rw_ast eG_191), ⟨G_198, hX_201, ⟨G_216, hX_219, ⟨rfl, rfl⟩⟩⟩⟩⟩⟩⟩⟩)⟩⟩)⟩)⟩⟩⟩⟩)), hW, hB_G_216, hF, (Fr.call9 (rs := [69, 70, 71, 75]) (fs := [(66, 2), (66, 3), (66, 4), (66, 6), (66, 7), (66, 8), (66, 9), (66, 20), (66, 21), (66, 23), (66, 24)]) (Fr.call9 (rs := [69, 70, 71, 75]) (fs := [(66, 2), (66, 3), (66, 4), (66, 6), (66, 7), (66, 8), (66, 9), (66, 20), (66, 21), (66, 23), (66, 24)]) (Fr.put (rs := [69, 70, 71, 75]) (fs := [(66, 2), (66, 3), (66, 4), (66, 6), (66, 7), (66, 8), (66, 9), (66, 20), (66, 21), (66, 23), (66, 24)]) (Fr.put (rs := [69, 70, 71, 75]) (fs := [(66, 2), (66, 3), (66, 4), (66, 6), (66, 7), (66, 8), (66, 9), (66, 20), (66, 21), (66, 23), (66, 24)]) (Fr.call9 (rs := [69, 70, 71, 75]) (fs := [(66, 2), (66, 3), (66, 4), (66, 6), (66, 7), (66, 8), (66, 9), (66, 20), (66, 21), (66, 23), (66, 24)]) (Fr.call9 (rs := [69, 70, 71, 75]) (fs := [(66, 2), (66, 3), (66, 4), (66, 6), (66, 7), (66, 8), (66, 9), (66, 20), (66, 21), (66, 23), (66, 24)]) (Fr.call9 (rs := [69, 70, 71, 75]) (fs := [(66, 2), (66, 3), (66, 4), (66, 6), (66, 7), (66, 8), (66, 9), (66, 20), (66, 21), (66, 23), (66, 24)]) (Fr.call9 (rs := [69, 70, 71, 75]) (fs := [(66, 2), (66, 3), (66, 4), (66, 6), (66, 7), (66, 8), (66, 9), (66, 20), (66, 21), (66, 23), (66, 24)]) (Fr.call9 (rs := [69, 70, 71, 75]) (fs := [(66, 2), (66, 3), (66, 4), (66, 6), (66, 7), (66, 8), (66, 9), (66, 20), (66, 21), (66, 23), (66, 24)]) (Fr.call9 (rs := [69, 70, 71, 75]) (fs := [(66, 2), (66, 3), (66, 4), (66, 6), (66, 7), (66, 8), (66, 9), (66, 20), (66, 21), (66, 23), (66, 24)]) (Fr.call9 (rs := [69, 70, 71, 75]) (fs := [(66, 2), (66, 3), (66, 4), (66, 6), (66, 7), (66, 8), (66, 9), (66, 20), (66, 21), (66, 23), (66, 24)]) Fr.rf hq_28 rfl rfl) hq_129 rfl rfl) hq_138 rfl rfl) hq_158 rfl rfl) hq_167 rfl rfl) hq_171 rfl rfl) hq_187 rfl rfl) eG_191 (Or.inl (by decide))) eG_193 (Or.inr (by decide))) hq_199 rfl rfl) hq_217 rfl rfl), hS, lv_sub hl [1, 2] rfl⟩
          refine lv_icmp_ne (tgt := 119) hx hb dX12_formula_109 rfl (fun c_225 => ?_) (fun c_225 => ?_)
          · have c_225 : r_156.toInt ≠ 4 := xI_ne rfl rfl c_225
            exact hJ_166 () _ _ _ ⟨G_157, (Jn_n_formula_4_mk (Or.inr ⟨c_225, rfl⟩)), hW, hB_G_157, hF, (Fr.rf (rs := []) (fs := [])), hS, lv_sub hl [0, 1, 2] rfl⟩
          · have c_225 : r_156.toInt = 4 := xI_eq rfl rfl c_225
            refine lv_aload_n hx hb dX12_formula_112 rfl (lv_at hl 2 rfl) ?_
            refine S_calli (va_runV (As := []) (rest := []) ⟨hx, hb, hml, hown, hts⟩ (n_hasRelation l D k A a z G_157  ) (cwV 0 hts (gd_V hgd m1757 m1759 m80 m131 m1760) rfl rfl rfl hd_X12_hasRelation ⟨Nat.le_of_ble_eq_true rfl, Nat.le_of_ble_eq_true rfl⟩) (pre_W hW hB_G_157 hK hZ hS kd_66 rfl) rfl rfl hl.1 rfl (lv_room (Nat.le_of_ble_eq_true rfl)) dX12_formula_113 ⟨Nat.le_of_ble_eq_true rfl, Nat.le_of_ble_eq_true rfl⟩) hS (fun r_226 G_227 H locs hpo hW hS => ?_)
            have hX_230 : Q_hasRelation G_157 r_226 G_227 := hpo
            obtain ⟨hB_G_227, hq_228, f_231, -⟩ := hpo
            have hF := hF.call9 hq_228 rfl rfl
            refine lv_if_ne (tgt := 158) hx hb dX12_formula_116 rfl (fun c_232 => ?_) (fun c_232 => ?_)
            · have c_232 : r_226.toInt ≠ 0 := xI_ne rfl rfl c_232
              refine ic_0 hx hb dX12_formula_158 ?_
              refine lv_istore_n (lv' := [(2, .int 0), (3, .int r_127), (0, .ref (a 66))]) hx hb dX12_formula_159 rfl hl (lt_b rfl) rfl (fun ls hl => ?_)
              refine lv_goto (tgt := 36) hx hb dX12_formula_160 rfl ?_
              have g_233 : (G_227.1 66 2).toInt = (G_27.1 66 2).toInt := (congrArg Int32.toInt (show G_227.1 66 2 = (G_27.1 66 2) from ((hq_228.i9 66 2 rfl rfl).trans ((hq_158.i9 66 2 rfl rfl).trans ((hq_138.i9 66 2 rfl rfl).trans ((hq_129.i9 66 2 rfl rfl).trans (rfl)))))))
              have g_234 : (G_227.1 66 20).toInt = (G_27.1 66 20).toInt := (congrArg Int32.toInt (show G_227.1 66 20 = (G_27.1 66 20) from ((hq_228.i9 66 20 rfl rfl).trans ((hq_158.i9 66 20 rfl rfl).trans ((hq_138.i9 66 20 rfl rfl).trans ((hq_129.i9 66 20 rfl rfl).trans (rfl)))))))
              have g_235 : (G_227.1 66 23).toInt = (G_27.1 66 23).toInt := (congrArg Int32.toInt (show G_227.1 66 23 = (G_27.1 66 23) from ((hq_228.i9 66 23 rfl rfl).trans ((hq_158.i9 66 23 rfl rfl).trans ((hq_138.i9 66 23 rfl rfl).trans ((hq_129.i9 66 23 rfl rfl).trans (rfl)))))))
              have fr_236 : Fr [] [] G_27 G_227 := (Fr.call9 (rs := []) (fs := []) (Fr.call9 (rs := []) (fs := []) (Fr.call9 (rs := []) (fs := []) (Fr.call9 (rs := []) (fs := []) Fr.rf hq_129 rfl rfl) hq_138 rfl rfl) hq_158 rfl rfl) hq_228 rfl rfl)
              have g_237 : gB G_227 = gB G_27 := gB_fr fr_236 (gr_q rfl) (gf_q rfl)
              have g_238 : gC G_227 = gC G_27 := gC_fr fr_236 (gr_q rfl) (gf_q rfl)
              have g_239 : gD G_227 = gD G_27 := gD_fr fr_236 (gr_q rfl) (gf_q rfl)
              have g_240 : gM G_227 = gM G_27 := gM_fr fr_236 (gr_q rfl) (gf_q rfl)
              have g_241 : (G_227.1 66 2).toInt = (G_27.1 66 2).toInt := (congrArg Int32.toInt (show G_227.1 66 2 = (G_27.1 66 2) from ((hq_228.i9 66 2 rfl rfl).trans ((hq_158.i9 66 2 rfl rfl).trans ((hq_138.i9 66 2 rfl rfl).trans ((hq_129.i9 66 2 rfl rfl).trans (rfl)))))))
              have g_242 : (G_227.1 66 20).toInt = (G_27.1 66 20).toInt := (congrArg Int32.toInt (show G_227.1 66 20 = (G_27.1 66 20) from ((hq_228.i9 66 20 rfl rfl).trans ((hq_158.i9 66 20 rfl rfl).trans ((hq_138.i9 66 20 rfl rfl).trans ((hq_129.i9 66 20 rfl rfl).trans (rfl)))))))
              have g_243 : (G_227.1 66 23).toInt = (G_27.1 66 23).toInt := (congrArg Int32.toInt (show G_227.1 66 23 = (G_27.1 66 23) from ((hq_228.i9 66 23 rfl rfl).trans ((hq_158.i9 66 23 rfl rfl).trans ((hq_138.i9 66 23 rfl rfl).trans ((hq_129.i9 66 23 rfl rfl).trans (rfl)))))))
              have g_244 : (G_227.1 66 24).toInt = (G_27.1 66 24).toInt := (congrArg Int32.toInt (show G_227.1 66 24 = (G_27.1 66 24) from ((hq_228.i9 66 24 rfl rfl).trans ((hq_158.i9 66 24 rfl rfl).trans ((hq_138.i9 66 24 rfl rfl).trans ((hq_129.i9 66 24 rfl rfl).trans (rfl)))))))
              have g_245 : (G_227.1 66 4).toInt = (G_27.1 66 4).toInt := (congrArg Int32.toInt (show G_227.1 66 4 = (G_27.1 66 4) from ((hq_228.i9 66 4 rfl rfl).trans ((hq_158.i9 66 4 rfl rfl).trans ((hq_138.i9 66 4 rfl rfl).trans ((hq_129.i9 66 4 rfl rfl).trans (rfl)))))))
              have g_246 : (G_227.1 66 6).toInt = (G_27.1 66 6).toInt := (congrArg Int32.toInt (show G_227.1 66 6 = (G_27.1 66 6) from ((hq_228.i9 66 6 rfl rfl).trans ((hq_158.i9 66 6 rfl rfl).trans ((hq_138.i9 66 6 rfl rfl).trans ((hq_129.i9 66 6 rfl rfl).trans (rfl)))))))
              have qc_247 : (0 : Int32).toInt = 0 := rfl
              exact ih_29 (4000 - 1000 * (G_227.1 66 2).toInt + 100 * (40 - (G_227.1 66 23).toInt) + (G_227.1 66 20).toInt + 0 : Int).toNat ((by first | (clear ha_p0 hnf hE9 hp9 u_6 b_7 g_8 g_10 g_12 g_13 g_14 g_15 g_16 g_17 g_18 b_19 g_20 g_21 d_1 d_2 d_3 d_4 b_33 b_34 b_35 b_36 b_37 f_40 f_41 d_5 d_6 b_47 f_132 hp_130 c_140 f_161 c_225 f_231 c_232 g_245 g_246; omega) | omega)) _ _ _ ⟨G_227, 0, (Int.toNat_of_nonneg ((by first | exact ok_927 b_44.1 b_45.2 c_126 g_233 g_234 g_235 | omega))), ⟨(by decide), (by decide)⟩, ((by first | exact (fun h9 => ⟨(by first | exact ok_796 d_8.1 g_238 | omega), ⟨(by first | exact ok_797 d_8.2.1 g_237 g_239 | omega), ⟨(by first | exact ok_928 d_8.2.2.1 g_234 g_237 g_244 | omega), ⟨(by first | exact ok_929 d_8.2.2.2.1 g_235 g_239 | omega), ⟨(by first | exact ok_907 b_45.2 d_8.2.2.2.2.1 g_235 | omega), ⟨(by first | exact ok_930 d_8.2.2.2.2.2.1 g_234 g_235 g_240 | omega), (by first | exact ok_887 d_8.2.2.2.2.2.2 g_244 | omega)⟩⟩⟩⟩⟩⟩) | omega)), ((by first | exact ⟨(by first | exact ok_347 f_41.1 g_245 | omega), (fun h9 => by have q0_ := d_6 (by first | (clear ha_p0 hnf hE9 hp9 u_6 b_7 g_8 g_10 g_12 g_13 g_14 g_15 g_16 g_17 g_18 g_21 d_1 d_2 d_4 b_33 b_34 b_35 b_36 hn_42 f_39 f_40 f_41 d_6 b_43 b_44 b_45 b_46 u_48 c_125 c_126 d_8 f_132 hp_130 c_140 f_161 c_225 f_231 c_232 g_233 g_234 g_235 g_237 g_238 g_239 g_240 g_241 g_242 g_243 g_244 g_246; omega) | omega); (first | (clear ha_p0 hnf hE9 hp9 u_6 b_7 g_8 g_10 g_12 g_13 g_14 g_15 g_16 g_17 g_18 b_19 g_20 d_1 d_2 d_3 d_4 b_33 b_34 b_35 b_36 b_37 hn_42 f_39 f_40 f_41 d_5 d_6 b_43 b_44 b_45 b_46 b_47 u_48 c_125 c_126 d_8 f_132 hp_130 c_140 f_161 c_225 f_231 c_232 g_233 g_234 g_235 g_237 g_238 g_239 g_240 g_241 g_242 g_243 g_244 g_245; omega) | omega))⟩ | omega)), (hX_32.st (St_n_formula_1_mk ⟨x_31, G_27, 0, G_227, rfl, rfl, f_39, f_40, f_41, hB_G_27, ⟨c_125, ⟨c_126, ⟨r_127, G_128, hX_131, (Or.inr ⟨G_136, hX_139, hB_G_136, hq_138, (Or.inr ⟨c_140, ⟨r_156, G_157, hX_160, (Or.inl ⟨c_225, ⟨r_226, G_227, hX_230, ⟨c_232, ⟨rfl, rfl⟩⟩⟩⟩)⟩⟩)⟩)⟩⟩⟩⟩)), hW, hB_G_227, hF, (Fr.call9 (rs := [69, 70, 71, 75]) (fs := [(66, 2), (66, 3), (66, 4), (66, 6), (66, 7), (66, 8), (66, 9), (66, 20), (66, 21), (66, 23), (66, 24)]) (Fr.call9 (rs := [69, 70, 71, 75]) (fs := [(66, 2), (66, 3), (66, 4), (66, 6), (66, 7), (66, 8), (66, 9), (66, 20), (66, 21), (66, 23), (66, 24)]) (Fr.call9 (rs := [69, 70, 71, 75]) (fs := [(66, 2), (66, 3), (66, 4), (66, 6), (66, 7), (66, 8), (66, 9), (66, 20), (66, 21), (66, 23), (66, 24)]) (Fr.call9 (rs := [69, 70, 71, 75]) (fs := [(66, 2), (66, 3), (66, 4), (66, 6), (66, 7), (66, 8), (66, 9), (66, 20), (66, 21), (66, 23), (66, 24)]) (Fr.call9 (rs := [69, 70, 71, 75]) (fs := [(66, 2), (66, 3), (66, 4), (66, 6), (66, 7), (66, 8), (66, 9), (66, 20), (66, 21), (66, 23), (66, 24)]) Fr.rf hq_28 rfl rfl) hq_129 rfl rfl) hq_138 rfl rfl) hq_158 rfl rfl) hq_228 rfl rfl), hS, lv_sub hl [0, 2] rfl⟩
            · have c_232 : r_226.toInt = 0 := xI_eq rfl rfl c_232
              exact hJ_166 () _ _ _ ⟨G_227, (Jn_n_formula_4_mk (Or.inl ⟨c_225, ⟨r_226, G_227, hX_230, ⟨c_232, rfl⟩⟩⟩)), hW, hB_G_227, hF, (Fr.call9 (rs := []) (fs := []) Fr.rf hq_228 rfl rfl), hS, lv_sub hl [0, 1, 2] rfl⟩
      refine lv_icmp_ne (tgt := 100) hx hb dX12_formula_58 rfl (fun c_248 => ?_) (fun c_248 => ?_)
      · have c_248 : (G_27.1 66 6).toInt ≠ 41 := xI_ne rfl rfl c_248
        exact hJ_137 () _ _ _ ⟨G_128, (Jn_n_formula_3_mk (Or.inr ⟨c_248, rfl⟩)), hW, hB_G_128, hF, (Fr.rf (rs := []) (fs := [])), hS, lv_sub hl [0, 1, 2] rfl⟩
      · have c_248 : (G_27.1 66 6).toInt = 41 := xI_eq rfl rfl c_248
        refine lv_aload_n hx hb dX12_formula_61 rfl (lv_at hl 2 rfl) ?_
        have fr_249 : Fr [] [] G_27 G_128 := (Fr.call9 (rs := []) (fs := []) Fr.rf hq_129 rfl rfl)
        have g_250 : gK G_128 = gK G_27 := gK_fr fr_249 (gr_q rfl) (gf_q rfl)
        refine S_calli (va_runV (As := []) (rest := []) ⟨hx, hb, hml, hown, hts⟩ (n_hasBracket l D k A a z G_128  ) (cwV 0 hts (gd_V hgd m1749 m1751 m78 m131 m1752) rfl rfl rfl hd_X12_hasBracket ⟨Nat.le_of_ble_eq_true rfl, Nat.le_of_ble_eq_true rfl⟩) (pre_W hW hB_G_128 hK hZ hS kd_66 rfl) rfl rfl hl.1 rfl (lv_room (Nat.le_of_ble_eq_true rfl)) dX12_formula_62 ⟨Nat.le_of_ble_eq_true rfl, Nat.le_of_ble_eq_true rfl⟩) hS (fun r_251 G_252 H locs hpo hW hS => ?_)
        have hX_255 : Q_hasBracket G_128 r_251 G_252 := hpo
        obtain ⟨hB_G_252, hq_253, f_256, hp_254, -⟩ := hpo
        have hF := hF.call9 hq_253 rfl rfl
        refine lv_if_eq (tgt := 100) hx hb dX12_formula_65 rfl (fun c_257 => ?_) (fun c_257 => ?_)
        · have c_257 : r_251.toInt = 0 := xI_eq rfl rfl c_257
          exact hJ_137 () _ _ _ ⟨G_252, (Jn_n_formula_3_mk (Or.inl ⟨c_248, ⟨r_251, G_252, hX_255, ⟨c_257, rfl⟩⟩⟩)), hW, hB_G_252, hF, (Fr.call9 (rs := []) (fs := []) Fr.rf hq_253 rfl rfl), hS, lv_sub hl [0, 1, 2] rfl⟩
        · have c_257 : r_251.toInt ≠ 0 := xI_ne rfl rfl c_257
          refine lv_aload_n hx hb dX12_formula_68 rfl (lv_at hl 2 rfl) ?_
          refine ic_0 hx hb dX12_formula_69 ?_
          have fr_258 : Fr [] [] G_27 G_252 := (Fr.call9 (rs := []) (fs := []) (Fr.call9 (rs := []) (fs := []) Fr.rf hq_129 rfl rfl) hq_253 rfl rfl)
          have g_259 : gB G_252 = gB G_27 := gB_fr fr_258 (gr_q rfl) (gf_q rfl)
          have g_260 : gC G_252 = gC G_27 := gC_fr fr_258 (gr_q rfl) (gf_q rfl)
          have g_261 : gD G_252 = gD G_27 := gD_fr fr_258 (gr_q rfl) (gf_q rfl)
          have g_262 : gM G_252 = gM G_27 := gM_fr fr_258 (gr_q rfl) (gf_q rfl)
          have g_263 : (G_252.1 66 20).toInt = (G_27.1 66 20).toInt := (congrArg Int32.toInt (show G_252.1 66 20 = (G_27.1 66 20) from ((hq_253.i9 66 20 rfl rfl).trans ((hq_129.i9 66 20 rfl rfl).trans (rfl)))))
          have g_264 : (G_252.1 66 24).toInt = (G_27.1 66 24).toInt := (congrArg Int32.toInt (show G_252.1 66 24 = (G_27.1 66 24) from ((hq_253.i9 66 24 rfl rfl).trans ((hq_129.i9 66 24 rfl rfl).trans (rfl)))))
          have qc_265 : (0 : Int32).toInt = 0 := rfl
          have g_266 : gK G_252 = gK G_27 := gK_fr fr_258 (gr_q rfl) (gf_q rfl)
          have g_267 : (G_252.1 66 20).toInt = (G_27.1 66 20).toInt := (congrArg Int32.toInt (show G_252.1 66 20 = (G_27.1 66 20) from ((hq_253.i9 66 20 rfl rfl).trans ((hq_129.i9 66 20 rfl rfl).trans (rfl)))))
          have g_268 : (G_252.1 66 24).toInt = (G_27.1 66 24).toInt := (congrArg Int32.toInt (show G_252.1 66 24 = (G_27.1 66 24) from ((hq_253.i9 66 24 rfl rfl).trans ((hq_129.i9 66 24 rfl rfl).trans (rfl)))))
          refine S_callv (va_runV (As := [.int 0]) (rest := []) ⟨hx, hb, hml, hown, hts⟩ (n_close l D k A a z G_252 0 ((by first | exact ⟨(by first | exact ok_796 d_8.1 g_260 | omega), ⟨(by first | exact ok_797 d_8.2.1 g_259 g_261 | omega), ⟨(by first | exact ok_798 d_8.2.2.1 g_259 g_263 g_264 | omega), ⟨(by first | exact ok_925 b_45.2 d_8.2.2.2.2.1 d_8.2.2.2.2.2.1 g_262 g_263 | omega), (by first | exact ok_926 d_8.2.2.2.1 d_8.2.2.2.2.1 g_261 | omega)⟩⟩⟩⟩ | omega))) (cwV 1 hts (gd_V hgd m1753 m1755 m79 m131 m1756) rfl rfl rfl hd_X12_close ⟨Nat.le_of_ble_eq_true rfl, Nat.le_of_ble_eq_true rfl⟩) (pre_W hW hB_G_252 hK hZ hS kd_66 rfl) rfl rfl hl.1 rfl (lv_room (Nat.le_of_ble_eq_true rfl)) dX12_formula_70 ⟨Nat.le_of_ble_eq_true rfl, Nat.le_of_ble_eq_true rfl⟩) hS (fun G_270 H locs hpo hW hS => ?_)
          have hX_273 : Q_close 0 G_252 G_270 := hpo
          obtain ⟨hB_G_270, hq_271, hp_272, -⟩ := hpo
          have hF := hF.call9 hq_271 rfl rfl
          have b_274 : 0 ≤ (G_270.1 66 20).toInt ∧ (G_270.1 66 20).toInt ≤ 160 := bd_66_20 hB_G_270
          have u_275 := gh_pos (G := G_270) ((by first | exact b_274.1 | omega))
          refine lv_aload_n hx hb dX12_formula_73 rfl (lv_at hl 2 rfl) ?_
          refine lv_dup hx hb dX12_formula_74 rfl ?_
          refine S_getI (v := (G_270.1 66 20)) (C := RX12) (T := TX12) (N := 89) hx hb hg iX12 hown hK hW kd_66 rfl 20 (lt_b rfl) (hg (Cond.fieldLink RX12 299 "SlabWalkModel" "opens" "I") m1334) (fun _ h9 => h9) rfl rfl dX12_formula_75 ?_
          refine ic_1 hx hb dX12_formula_78 ?_
          refine lv_isub hx hb dX12_formula_79 ?_
          refine lv_topi (fun y_276 ey_276 => ?_)
          have ty_276 : y_276.toInt = (G_270.1 66 20).toInt - 1 := xI_sub rfl rfl ey_276 ((by first | exact ok_56 b_274.1 | omega)) ((by first | exact ok_793 b_274.2 | omega))
          refine S_putI (ty := .int) (C := RX12) (T := TX12) (N := 89) hx hb hg iX12 tyX12 tyX12_ok nmX12 hown hK hW hS kd_66 rfl 20 (lt_b rfl) (hg (Cond.fieldLink RX12 299 "SlabWalkModel" "opens" "I") m1334) (fun _ h9 => h9) rfl (by decide +kernel) rfl rfl rfl dX12_formula_80 (fun G_277 H locs eG_277 hW hS => ?_)
          have hB_G_277 : Bd G_277 := hB_G_270.put (V := y_276.toInt) (lo := 0) (hi := 160) eG_277 rfl rfl rfl ((by first | exact ok_940 g_250 f_256.1 f_256.2 hp_254 c_257 g_266 hp_272.2.2.2.2.1 b_274.1 u_275.2.2.2 ty_276 | omega)) ((by first | exact ok_803 b_274.2 ty_276 | omega)) (hB_G_270.2.put eG_277 rfl)
          have hF := hF.put eG_277 (Or.inr (by decide))
          have u_278 : (gT G_270 = 20 ∨ gT G_270 = 21 → gB G_270 = gB G_277) ∧ (gT G_270 ≠ 20 → gT G_270 ≠ 21 → gB G_270 = gB G_277 + 1) ∧ (gT G_270 = 20 → gK G_270 = gK G_277 + 1) ∧ (gT G_270 ≠ 20 → gK G_270 = gK G_277) := gh_pop eG_277 ((by first | exact ty_276 | omega)) ((by first | exact ok_940 g_250 f_256.1 f_256.2 hp_254 c_257 g_266 hp_272.2.2.2.2.1 b_274.1 u_275.2.2.2 ty_276 | omega))
          have d_17 := u_278.1
          have d_18 := u_278.2.1
          have d_19 := u_278.2.2.1
          have d_20 := u_278.2.2.2
          have g_279 : (G_277.1 66 20).toInt = y_276.toInt := (congrArg Int32.toInt (show G_277.1 66 20 = y_276 from (gp_eq eG_277)))
          have u_280 := gh_pos (G := G_277) ((by first | exact ok_941 g_250 f_256.1 f_256.2 hp_254 c_257 g_266 hp_272.2.2.2.2.1 b_274.1 u_275.2.2.2 ty_276 g_279 | omega))
          refine lv_aload_n hx hb dX12_formula_83 rfl (lv_at hl 2 rfl) ?_
          refine lv_dup hx hb dX12_formula_84 rfl ?_
          have b_281 : (-1) ≤ (G_270.1 66 24).toInt ∧ (G_270.1 66 24).toInt ≤ 200 := bd_66_24 hB_G_270
          refine S_getI (v := (G_270.1 66 24)) (C := RX12) (T := TX12) (N := 89) hx hb hg iX12 hown hK hW kd_66 rfl 24 (lt_b rfl) (hg (Cond.fieldLink RX12 309 "SlabWalkModel" "deep" "I") m1338) (fun _ h9 => h9) rfl (gp_ne eG_277 (by decide)) dX12_formula_85 ?_
          refine ic_1 hx hb dX12_formula_88 ?_
          refine lv_isub hx hb dX12_formula_89 ?_
          refine lv_topi (fun y_282 ey_282 => ?_)
          have ty_282 : y_282.toInt = (G_270.1 66 24).toInt - 1 := xI_sub rfl rfl ey_282 ((by first | exact ok_813 b_281.1 | omega)) ((by first | exact ok_814 b_281.2 | omega))
          refine S_putI (ty := .int) (C := RX12) (T := TX12) (N := 89) hx hb hg iX12 tyX12 tyX12_ok nmX12 hown hK hW hS kd_66 rfl 24 (lt_b rfl) (hg (Cond.fieldLink RX12 309 "SlabWalkModel" "deep" "I") m1338) (fun _ h9 => h9) rfl (by decide +kernel) rfl rfl rfl dX12_formula_90 (fun G_283 H locs eG_283 hW hS => ?_)
          have hB_G_283 : Bd G_283 := hB_G_277.put (V := y_282.toInt) (lo := (-1)) (hi := 200) eG_283 rfl rfl rfl ((by first | exact ok_942 hp_272.2.2.1 u_275.2.1 b_281.1 ty_282 | omega)) ((by first | exact ok_816 b_281.2 ty_282 | omega)) (hB_G_277.2.put eG_283 rfl)
          have hF := hF.put eG_283 (Or.inr (by decide))
          refine lv_aload_n hx hb dX12_formula_93 rfl (lv_at hl 2 rfl) ?_
          have g_284 : (G_283.1 66 4).toInt = (G_27.1 66 4).toInt := (congrArg Int32.toInt (show G_283.1 66 4 = (G_27.1 66 4) from ((gp_ne eG_283 (by decide)).trans ((gp_ne eG_277 (by decide)).trans ((hq_271.i9 66 4 rfl rfl).trans ((hq_253.i9 66 4 rfl rfl).trans ((hq_129.i9 66 4 rfl rfl).trans (rfl))))))))
          have g_285 : (G_283.1 66 6).toInt = (G_27.1 66 6).toInt := (congrArg Int32.toInt (show G_283.1 66 6 = (G_27.1 66 6) from ((gp_ne eG_283 (by decide)).trans ((gp_ne eG_277 (by decide)).trans ((hq_271.i9 66 6 rfl rfl).trans ((hq_253.i9 66 6 rfl rfl).trans ((hq_129.i9 66 6 rfl rfl).trans (rfl))))))))
          refine S_callv (va_runV (As := []) (rest := []) ⟨hx, hb, hml, hown, hts⟩ (n_token l D k A a z G_283  ) (cwV 0 hts (gd_V hgd m1602 m1604 m50 m131 m1605) rfl rfl rfl hd_X12_token ⟨Nat.le_of_ble_eq_true rfl, Nat.le_of_ble_eq_true rfl⟩) (pre_W hW hB_G_283 hK hZ hS kd_66 rfl) rfl rfl hl.1 rfl (lv_room (Nat.le_of_ble_eq_true rfl)) dX12_formula_94 ⟨Nat.le_of_ble_eq_true rfl, Nat.le_of_ble_eq_true rfl⟩) hS (fun G_287 H locs hpo hW hS => ?_)
          have hX_290 : Q_token G_283 G_287 := hpo
          obtain ⟨hB_G_287, hq_288, ⟨d_21, d_22⟩, -⟩ := hpo
          have hF := hF.call9 hq_288 rfl rfl
          refine lv_goto (tgt := 160) hx hb dX12_formula_97 rfl ?_
          refine lv_goto (tgt := 36) hx hb dX12_formula_160 rfl ?_
          have g_291 : (G_287.1 66 2).toInt = (G_27.1 66 2).toInt := (congrArg Int32.toInt (show G_287.1 66 2 = (G_27.1 66 2) from ((hq_288.i9 66 2 rfl rfl).trans ((gp_ne eG_283 (by decide)).trans ((gp_ne eG_277 (by decide)).trans ((hq_271.i9 66 2 rfl rfl).trans ((hq_253.i9 66 2 rfl rfl).trans ((hq_129.i9 66 2 rfl rfl).trans (rfl)))))))))
          have g_292 : (G_287.1 66 20).toInt = y_276.toInt := (congrArg Int32.toInt (show G_287.1 66 20 = y_276 from ((hq_288.i9 66 20 rfl rfl).trans ((gp_ne eG_283 (by decide)).trans (gp_eq eG_277)))))
          have g_293 : (G_287.1 66 23).toInt = (G_27.1 66 23).toInt := (congrArg Int32.toInt (show G_287.1 66 23 = (G_27.1 66 23) from ((hq_288.i9 66 23 rfl rfl).trans ((gp_ne eG_283 (by decide)).trans ((gp_ne eG_277 (by decide)).trans ((hq_271.i9 66 23 rfl rfl).trans ((hq_253.i9 66 23 rfl rfl).trans ((hq_129.i9 66 23 rfl rfl).trans (rfl)))))))))
          have fr_294 : Fr [] [(66, 4), (66, 6), (66, 7), (66, 8), (66, 9), (66, 24)] G_277 G_287 := (Fr.call9 (rs := []) (fs := [(66, 4), (66, 6), (66, 7), (66, 8), (66, 9), (66, 24)]) (Fr.put (rs := []) (fs := [(66, 4), (66, 6), (66, 7), (66, 8), (66, 9), (66, 24)]) Fr.rf eG_283 (Or.inr (by decide))) hq_288 rfl rfl)
          have g_295 : gB G_287 = gB G_277 := gB_fr fr_294 (gr_q rfl) (gf_q rfl)
          have fr_296 : Fr [] [(66, 4), (66, 6), (66, 7), (66, 8), (66, 9), (66, 20), (66, 24)] G_270 G_287 := (Fr.call9 (rs := []) (fs := [(66, 4), (66, 6), (66, 7), (66, 8), (66, 9), (66, 20), (66, 24)]) (Fr.put (rs := []) (fs := [(66, 4), (66, 6), (66, 7), (66, 8), (66, 9), (66, 20), (66, 24)]) (Fr.put (rs := []) (fs := [(66, 4), (66, 6), (66, 7), (66, 8), (66, 9), (66, 20), (66, 24)]) Fr.rf eG_277 (Or.inr (by decide))) eG_283 (Or.inr (by decide))) hq_288 rfl rfl)
          have g_297 : gC G_287 = gC G_270 := gC_fr fr_296 (gr_q rfl) (gf_q rfl)
          have g_298 : gD G_287 = gD G_270 := gD_fr fr_296 (gr_q rfl) (gf_q rfl)
          have g_299 : gM G_287 = gM G_270 := gM_fr fr_296 (gr_q rfl) (gf_q rfl)
          have g_300 : (G_287.1 66 2).toInt = (G_27.1 66 2).toInt := (congrArg Int32.toInt (show G_287.1 66 2 = (G_27.1 66 2) from ((hq_288.i9 66 2 rfl rfl).trans ((gp_ne eG_283 (by decide)).trans ((gp_ne eG_277 (by decide)).trans ((hq_271.i9 66 2 rfl rfl).trans ((hq_253.i9 66 2 rfl rfl).trans ((hq_129.i9 66 2 rfl rfl).trans (rfl)))))))))
          have g_301 : (G_287.1 66 20).toInt = y_276.toInt := (congrArg Int32.toInt (show G_287.1 66 20 = y_276 from ((hq_288.i9 66 20 rfl rfl).trans ((gp_ne eG_283 (by decide)).trans (gp_eq eG_277)))))
          have g_302 : (G_287.1 66 23).toInt = (G_27.1 66 23).toInt := (congrArg Int32.toInt (show G_287.1 66 23 = (G_27.1 66 23) from ((hq_288.i9 66 23 rfl rfl).trans ((gp_ne eG_283 (by decide)).trans ((gp_ne eG_277 (by decide)).trans ((hq_271.i9 66 23 rfl rfl).trans ((hq_253.i9 66 23 rfl rfl).trans ((hq_129.i9 66 23 rfl rfl).trans (rfl)))))))))
          have g_303 : (G_287.1 66 24).toInt = y_282.toInt := (congrArg Int32.toInt (show G_287.1 66 24 = y_282 from ((hq_288.i9 66 24 rfl rfl).trans (gp_eq eG_283))))
          have b_304 : 0 ≤ (G_287.1 66 4).toInt ∧ (G_287.1 66 4).toInt ≤ 1600 := bd_66_4 hB_G_287
          exact ih_29 (4000 - 1000 * (G_287.1 66 2).toInt + 100 * (40 - (G_287.1 66 23).toInt) + (G_287.1 66 20).toInt + x_31.toInt : Int).toNat ((by first | (clear ha_p0 hnf hE9 hp9 u_6 b_7 g_8 g_10 g_12 g_13 g_14 g_15 g_16 g_17 g_18 b_19 g_20 g_21 d_1 d_2 d_3 d_4 b_33 b_34 b_35 b_36 b_37 f_40 f_41 d_5 d_6 b_47 f_132 hp_130 c_248 f_256 c_257 u_278 g_284 g_285 d_21 d_22 b_304; omega) | omega)) _ _ _ ⟨G_287, x_31, (Int.toNat_of_nonneg ((by first | exact ok_943 f_39.1 c_126 d_8.2.2.2.2.1 b_274.1 ty_276 g_291 g_292 g_293 | omega))), ⟨(by first | exact f_39.1 | omega), (by first | exact f_39.2 | omega)⟩, ((by first | exact (fun h9 => ⟨(by first | exact ok_796 hp_272.1 g_297 | omega), ⟨((by first | (clear ha_p0 hnf hE9 hp9 u_6 b_7 g_8 g_10 g_12 g_13 g_14 g_15 g_16 g_17 g_18 b_19 g_20 g_21 d_1 d_2 d_3 d_4 b_33 b_34 b_35 b_36 b_37 hn_42 f_39 f_40 f_41 d_5 d_6 b_47 c_125 f_132 hp_130 c_248 f_256 c_257 u_278 g_284 g_285 d_21 d_22 b_304; omega) | omega)), ⟨((by first | (clear ha_p0 hnf hE9 hp9 u_6 b_7 g_8 g_10 g_12 g_13 g_14 g_15 g_16 g_17 g_18 b_19 g_20 g_21 d_1 d_2 d_3 d_4 b_33 b_34 b_35 b_36 b_37 hn_42 f_39 f_40 f_41 d_5 d_6 b_47 c_125 f_132 hp_130 c_248 f_256 c_257 u_278 g_284 g_285 d_21 d_22 b_304; omega) | omega)), ⟨(by first | exact ok_944 d_8.2.2.2.1 g_261 hp_272.2.2.2.2.2.2.1 g_293 g_298 | omega), ⟨(by first | exact ok_910 d_8.2.2.2.2.1 g_293 | omega), ⟨(by first | exact ok_945 d_8.2.2.2.2.2.1 g_262 g_263 hp_272.2.2.2.1 ty_276 g_292 g_293 g_299 | omega), (by first | exact ok_946 d_8.2.2.2.2.2.2 g_264 hp_272.2.2.2.2.2.2.2.1 b_281.2 ty_282 g_303 | omega)⟩⟩⟩⟩⟩⟩) | omega)), ((by first | exact ⟨(by first | exact ok_869 b_19.2 f_41.1 g_284 d_21 b_304.1 | omega), (fun h9 => by have q0_ := d_6 (by first | (clear ha_p0 hnf hE9 hp9 u_6 b_7 g_8 g_10 g_12 g_13 g_14 g_15 g_16 g_17 g_18 g_21 d_1 d_2 d_4 b_33 b_34 b_35 b_36 hn_42 f_39 f_40 f_41 d_6 b_43 b_44 b_45 b_46 u_48 c_125 c_126 d_8 f_132 hp_130 c_248 g_250 f_256 hp_254 c_257 g_259 g_260 g_261 g_262 g_263 g_264 g_266 g_267 g_268 hp_272 b_274 u_275 ty_276 u_278 d_17 d_18 d_19 d_20 g_279 u_280 b_281 ty_282 g_285 d_22 g_291 g_292 g_293 g_295 g_297 g_298 g_299 g_300 g_301 g_302 g_303; omega) | omega); have q1_ := d_22 (by first | (clear ha_p0 hnf hE9 hp9 u_6 b_7 g_8 g_10 g_12 g_13 g_14 g_15 g_16 g_17 g_18 g_21 d_1 d_2 d_4 b_33 b_34 b_35 b_36 hn_42 f_39 f_40 f_41 d_6 b_43 b_44 b_45 b_46 u_48 c_125 c_126 d_8 f_132 hp_130 c_248 g_250 f_256 hp_254 c_257 g_259 g_260 g_261 g_262 g_263 g_264 g_266 g_267 g_268 hp_272 b_274 u_275 ty_276 u_278 d_17 d_18 d_19 d_20 g_279 u_280 b_281 ty_282 g_285 d_22 g_291 g_292 g_293 g_295 g_297 g_298 g_299 g_300 g_301 g_302 g_303; omega) | omega); (first | (clear ha_p0 hnf hE9 hp9 u_6 b_7 g_8 g_10 g_12 g_13 g_14 g_15 g_16 g_17 g_18 b_19 g_20 d_1 d_2 d_3 d_4 b_33 b_34 b_35 b_36 b_37 hn_42 f_39 f_40 f_41 d_5 d_6 b_43 b_44 b_45 b_46 b_47 u_48 c_125 c_126 d_8 f_132 hp_130 g_250 f_256 hp_254 c_257 g_259 g_260 g_261 g_262 g_263 g_264 g_266 g_267 g_268 hp_272 b_274 u_275 ty_276 u_278 d_17 d_18 d_19 d_20 g_279 u_280 b_281 ty_282 g_284 d_21 d_22 g_291 g_292 g_293 g_295 g_297 g_298 g_299 g_300 g_301 g_302 g_303 b_304; omega) | omega))⟩ | omega)), (hX_32.st (St_n_formula_1_mk ⟨x_31, G_27, x_31, G_287, rfl, rfl, f_39, f_40, f_41, hB_G_27, ⟨c_125, ⟨c_126, ⟨r_127, G_128, hX_131, (Or.inl ⟨c_248, ⟨r_251, G_252, hX_255, ⟨c_257, ⟨G_270, hX_273, ⟨y_276, ty_276, ⟨y_282, ty_282, ⟨G_283, hB_G_283, (Fr.put (rs := []) (fs := [(66, 20), (66, 24)]) (Fr.put (rs := []) (fs := [(66, 20), (66, 24)]) Fr.rf eG_277 (Or.inr (by decide))) eG_283 (Or.inr (by decide))), ((gp_ne eG_283 (by decide)).trans (gp_eq eG_277)), (gp_eq eG_283), ⟨G_287, hX_290, ⟨rfl, rfl⟩⟩⟩⟩⟩⟩⟩⟩⟩)⟩⟩⟩⟩)), hW, hB_G_287, hF, (Fr.call9 (rs := [69, 70, 71, 75]) (fs := [(66, 2), (66, 3), (66, 4), (66, 6), (66, 7), (66, 8), (66, 9), (66, 20), (66, 21), (66, 23), (66, 24)]) (Fr.put (rs := [69, 70, 71, 75]) (fs := [(66, 2), (66, 3), (66, 4), (66, 6), (66, 7), (66, 8), (66, 9), (66, 20), (66, 21), (66, 23), (66, 24)]) (Fr.put (rs := [69, 70, 71, 75]) (fs := [(66, 2), (66, 3), (66, 4), (66, 6), (66, 7), (66, 8), (66, 9), (66, 20), (66, 21), (66, 23), (66, 24)]) (Fr.call9 (rs := [69, 70, 71, 75]) (fs := [(66, 2), (66, 3), (66, 4), (66, 6), (66, 7), (66, 8), (66, 9), (66, 20), (66, 21), (66, 23), (66, 24)]) (Fr.call9 (rs := [69, 70, 71, 75]) (fs := [(66, 2), (66, 3), (66, 4), (66, 6), (66, 7), (66, 8), (66, 9), (66, 20), (66, 21), (66, 23), (66, 24)]) (Fr.call9 (rs := [69, 70, 71, 75]) (fs := [(66, 2), (66, 3), (66, 4), (66, 6), (66, 7), (66, 8), (66, 9), (66, 20), (66, 21), (66, 23), (66, 24)]) (Fr.call9 (rs := [69, 70, 71, 75]) (fs := [(66, 2), (66, 3), (66, 4), (66, 6), (66, 7), (66, 8), (66, 9), (66, 20), (66, 21), (66, 23), (66, 24)]) Fr.rf hq_28 rfl rfl) hq_129 rfl rfl) hq_253 rfl rfl) hq_271 rfl rfl) eG_277 (Or.inr (by decide))) eG_283 (Or.inr (by decide))) hq_288 rfl rfl), hS, lv_sub hl [1, 2] rfl⟩
