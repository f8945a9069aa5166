theorem m54 : Cond.selects RX12 yX12_readStreet yX12_readStreet ∈ gd := gds_4 6 rfl
theorem m66 : Cond.selects RX12 yX12_readWalker yX12_readWalker ∈ gd := gds_5 2 rfl
theorem m68 : Cond.selects RX12 yX12_readRule yX12_readRule ∈ gd := gds_5 4 rfl
theorem m69 : Cond.selects RX12 yX12_formula yX12_formula ∈ gd := gds_5 5 rfl
theorem m81 : Cond.selects RX12 yX12_isOnce yX12_isOnce ∈ gd := gds_6 1 rfl
theorem m82 : Cond.selects RX12 yX12_readSlip yX12_readSlip ∈ gd := gds_6 2 rfl
theorem m1348 : Cond.fieldLink RX12 72 "SlabWalkModel" "nSlips" "[I" ∈ gd := gdc_6_2 0 rfl gw_fieldLink
theorem m1361 : Cond.fieldLink RX12 385 "SlabWalkModel" "nRules" "I" ∈ gd := gdc_6_2 13 rfl gw_fieldLink
theorem m1362 : Cond.fieldLink RX12 410 "SlabWalkModel" "nHand" "I" ∈ gd := gdc_6_2 14 rfl gw_fieldLink
theorem m1363 : Cond.fieldLink RX12 413 "SlabWalkModel" "nSlack" "I" ∈ gd := gdc_6_2 15 rfl gw_fieldLink
theorem m1364 : Cond.fieldLink RX12 416 "SlabWalkModel" "nDraw" "I" ∈ gd := gdc_6_3 0 rfl gw_fieldLink
theorem m1365 : Cond.fieldLink RX12 391 "SlabWalkModel" "nOnce" "I" ∈ gd := gdc_6_3 1 rfl gw_fieldLink
theorem m1628 : Cond.methodLink RX12 394 yX12_readStreet ∈ gd := gdc_7_4 8 rfl gw_methodLink
theorem m1630 : Cond.instanceMethod yX12_readStreet ∈ gd := gdc_7_4 10 rfl gw_instanceMethod
theorem m1631 : Cond.code yX12_readStreet cX12_readStreet 3 none ∈ gd := gdc_7_4 11 rfl gw_code
theorem m1698 : Cond.methodLink RX12 397 yX12_readWalker ∈ gd := gdc_7_8 14 rfl gw_methodLink
theorem m1700 : Cond.instanceMethod yX12_readWalker ∈ gd := gdc_7_9 0 rfl gw_instanceMethod
theorem m1701 : Cond.code yX12_readWalker cX12_readWalker 2 none ∈ gd := gdc_7_9 1 rfl gw_code
theorem m1706 : Cond.methodLink RX12 400 yX12_readRule ∈ gd := gdc_7_9 6 rfl gw_methodLink
theorem m1708 : Cond.instanceMethod yX12_readRule ∈ gd := gdc_7_9 8 rfl gw_instanceMethod
theorem m1709 : Cond.code yX12_readRule cX12_readRule 1 none ∈ gd := gdc_7_9 9 rfl gw_code
theorem m1710 : Cond.methodLink RX12 388 yX12_formula ∈ gd := gdc_7_9 10 rfl gw_methodLink
theorem m1712 : Cond.instanceMethod yX12_formula ∈ gd := gdc_7_9 12 rfl gw_instanceMethod
theorem m1713 : Cond.code yX12_formula cX12_formula 4 none ∈ gd := gdc_7_9 13 rfl gw_code
theorem m1761 : Cond.methodLink RX12 403 yX12_isOnce ∈ gd := gdc_7_12 13 rfl gw_methodLink
theorem m1763 : Cond.instanceMethod yX12_isOnce ∈ gd := gdc_7_12 15 rfl gw_instanceMethod
theorem m1764 : Cond.code yX12_isOnce cX12_isOnce 4 (some .boolean) ∈ gd := gdc_7_13 0 rfl gw_code
theorem m1765 : Cond.methodLink RX12 407 yX12_readSlip ∈ gd := gdc_7_13 1 rfl gw_methodLink
theorem m1767 : Cond.instanceMethod yX12_readSlip ∈ gd := gdc_7_13 3 rfl gw_instanceMethod
theorem m1768 : Cond.code yX12_readSlip cX12_readSlip 1 none ∈ gd := gdc_7_13 4 rfl gw_code
noncomputable def rbX12_isOnce_0 : List (Nat × List Nat) := [(0, [42]), (1, [31]), (2, [182, 1, 19]), (5, [153, 0, 16]), (8, [42]), (9, [180, 1, 135]), (12, [29]), (13, [126]), (14, [154, 0, 7]), (17, [4]), (18, [167, 0, 4]), (21, [3]), (22, [172])]
theorem rcX12_isOnce_0 : dgo (lb cX12_isOnce) 0 rbX12_isOnce_0 = true := by decide +kernel
theorem dX12_isOnce_0 : decode cX12_isOnce 0 = .ok (.aload_n 0, 1) := dk_42 (dw rcX12_isOnce_0 0 rfl)
theorem dX12_isOnce_1 : decode cX12_isOnce 1 = .ok (.lload_n 1, 1) := dk_31 (dw rcX12_isOnce_0 1 rfl)
theorem dX12_isOnce_2 : decode cX12_isOnce 2 = .ok (.invokevirtual 275, 3) := dk_182 (dw rcX12_isOnce_0 2 rfl) rfl
theorem dX12_isOnce_5 : decode cX12_isOnce 5 = .ok (.ifCond .eq 16, 3) := dk_153 (dw rcX12_isOnce_0 3 rfl) rfl
theorem dX12_isOnce_8 : decode cX12_isOnce 8 = .ok (.aload_n 0, 1) := dk_42 (dw rcX12_isOnce_0 4 rfl)
theorem dX12_isOnce_9 : decode cX12_isOnce 9 = .ok (.getfield 391, 3) := dk_180 (dw rcX12_isOnce_0 5 rfl) rfl
theorem dX12_isOnce_12 : decode cX12_isOnce 12 = .ok (.iload_n 3, 1) := dk_29 (dw rcX12_isOnce_0 6 rfl)
theorem dX12_isOnce_13 : decode cX12_isOnce 13 = .ok (.iand, 1) := dk_126 (dw rcX12_isOnce_0 7 rfl)
theorem dX12_isOnce_14 : decode cX12_isOnce 14 = .ok (.ifCond .ne 7, 3) := dk_154 (dw rcX12_isOnce_0 8 rfl) rfl
theorem dX12_isOnce_17 : decode cX12_isOnce 17 = .ok (.iconst 1, 1) := dk_4 (dw rcX12_isOnce_0 9 rfl)
theorem dX12_isOnce_18 : decode cX12_isOnce 18 = .ok (.goto 4, 3) := dk_167 (dw rcX12_isOnce_0 10 rfl) rfl
theorem dX12_isOnce_21 : decode cX12_isOnce 21 = .ok (.iconst 0, 1) := dk_3 (dw rcX12_isOnce_0 11 rfl)
theorem dX12_isOnce_22 : decode cX12_isOnce 22 = .ok (.ireturn, 1) := dk_172 (dw rcX12_isOnce_0 12 rfl)
noncomputable def rbX12_readLine_0 : List (Nat × List Nat) := [(0, [42]), (1, [20, 0, 221]), (4, [182, 1, 19]), (7, [153, 0, 18]), (10, [42]), (11, [180, 1, 103]), (14, [6]), (15, [162, 0, 10]), (18, [42]), (19, [182, 1, 138]), (22, [167, 0, 178]), (25, [42]), (26, [20, 0, 225]), (29, [182, 1, 19]), (32, [153, 0, 18]), (35, [42]), (36, [180, 1, 123]), (39, [7]), (40, [162, 0, 10]), (43, [42]), (44, [182, 1, 141]), (47, [167, 0, 153]), (50, [42]), (51, [20, 0, 235])]
theorem rcX12_readLine_0 : dgo (lb cX12_readLine) 0 rbX12_readLine_0 = true := by decide +kernel
theorem dX12_readLine_0 : decode cX12_readLine 0 = .ok (.aload_n 0, 1) := dk_42 (dw rcX12_readLine_0 0 rfl)
theorem dX12_readLine_1 : decode cX12_readLine 1 = .ok (.ldc2_w 221, 3) := dk_20 (dw rcX12_readLine_0 1 rfl) rfl
theorem dX12_readLine_4 : decode cX12_readLine 4 = .ok (.invokevirtual 275, 3) := dk_182 (dw rcX12_readLine_0 2 rfl) rfl
theorem dX12_readLine_7 : decode cX12_readLine 7 = .ok (.ifCond .eq 18, 3) := dk_153 (dw rcX12_readLine_0 3 rfl) rfl
theorem dX12_readLine_10 : decode cX12_readLine 10 = .ok (.aload_n 0, 1) := dk_42 (dw rcX12_readLine_0 4 rfl)
theorem dX12_readLine_11 : decode cX12_readLine 11 = .ok (.getfield 359, 3) := dk_180 (dw rcX12_readLine_0 5 rfl) rfl
theorem dX12_readLine_14 : decode cX12_readLine 14 = .ok (.iconst 3, 1) := dk_6 (dw rcX12_readLine_0 6 rfl)
theorem dX12_readLine_15 : decode cX12_readLine 15 = .ok (.if_icmp .ge 10, 3) := dk_162 (dw rcX12_readLine_0 7 rfl) rfl
theorem dX12_readLine_18 : decode cX12_readLine 18 = .ok (.aload_n 0, 1) := dk_42 (dw rcX12_readLine_0 8 rfl)
theorem dX12_readLine_19 : decode cX12_readLine 19 = .ok (.invokevirtual 394, 3) := dk_182 (dw rcX12_readLine_0 9 rfl) rfl
theorem dX12_readLine_22 : decode cX12_readLine 22 = .ok (.goto 178, 3) := dk_167 (dw rcX12_readLine_0 10 rfl) rfl
theorem dX12_readLine_25 : decode cX12_readLine 25 = .ok (.aload_n 0, 1) := dk_42 (dw rcX12_readLine_0 11 rfl)
theorem dX12_readLine_26 : decode cX12_readLine 26 = .ok (.ldc2_w 225, 3) := dk_20 (dw rcX12_readLine_0 12 rfl) rfl
theorem dX12_readLine_29 : decode cX12_readLine 29 = .ok (.invokevirtual 275, 3) := dk_182 (dw rcX12_readLine_0 13 rfl) rfl
theorem dX12_readLine_32 : decode cX12_readLine 32 = .ok (.ifCond .eq 18, 3) := dk_153 (dw rcX12_readLine_0 14 rfl) rfl
theorem dX12_readLine_35 : decode cX12_readLine 35 = .ok (.aload_n 0, 1) := dk_42 (dw rcX12_readLine_0 15 rfl)
theorem dX12_readLine_36 : decode cX12_readLine 36 = .ok (.getfield 379, 3) := dk_180 (dw rcX12_readLine_0 16 rfl) rfl
theorem dX12_readLine_39 : decode cX12_readLine 39 = .ok (.iconst 4, 1) := dk_7 (dw rcX12_readLine_0 17 rfl)
theorem dX12_readLine_40 : decode cX12_readLine 40 = .ok (.if_icmp .ge 10, 3) := dk_162 (dw rcX12_readLine_0 18 rfl) rfl
theorem dX12_readLine_43 : decode cX12_readLine 43 = .ok (.aload_n 0, 1) := dk_42 (dw rcX12_readLine_0 19 rfl)
theorem dX12_readLine_44 : decode cX12_readLine 44 = .ok (.invokevirtual 397, 3) := dk_182 (dw rcX12_readLine_0 20 rfl) rfl
theorem dX12_readLine_47 : decode cX12_readLine 47 = .ok (.goto 153, 3) := dk_167 (dw rcX12_readLine_0 21 rfl) rfl
theorem dX12_readLine_50 : decode cX12_readLine 50 = .ok (.aload_n 0, 1) := dk_42 (dw rcX12_readLine_0 22 rfl)
theorem dX12_readLine_51 : decode cX12_readLine 51 = .ok (.ldc2_w 235, 3) := dk_20 (dw rcX12_readLine_0 23 rfl) rfl
noncomputable def rbX12_readLine_54 : List (Nat × List Nat) := [(54, [182, 1, 19]), (57, [153, 0, 19]), (60, [42]), (61, [180, 1, 129]), (64, [16, 6]), (66, [162, 0, 10]), (69, [42]), (70, [182, 1, 144]), (73, [167, 0, 127]), (76, [42]), (77, [20, 0, 237]), (80, [4]), (81, [182, 1, 147]), (84, [153, 0, 20]), (87, [42]), (88, [89]), (89, [180, 1, 135]), (92, [4]), (93, [128]), (94, [181, 1, 135]), (97, [42]), (98, [182, 1, 151]), (101, [167, 0, 99]), (104, [42])]
theorem rcX12_readLine_54 : dgo (lb cX12_readLine) 0 rbX12_readLine_54 = true := by decide +kernel
theorem dX12_readLine_54 : decode cX12_readLine 54 = .ok (.invokevirtual 275, 3) := dk_182 (dw rcX12_readLine_54 0 rfl) rfl
theorem dX12_readLine_57 : decode cX12_readLine 57 = .ok (.ifCond .eq 19, 3) := dk_153 (dw rcX12_readLine_54 1 rfl) rfl
theorem dX12_readLine_60 : decode cX12_readLine 60 = .ok (.aload_n 0, 1) := dk_42 (dw rcX12_readLine_54 2 rfl)
theorem dX12_readLine_61 : decode cX12_readLine 61 = .ok (.getfield 385, 3) := dk_180 (dw rcX12_readLine_54 3 rfl) rfl
theorem dX12_readLine_64 : decode cX12_readLine 64 = .ok (.bipush 6, 2) := dk_16 (dw rcX12_readLine_54 4 rfl) rfl
theorem dX12_readLine_66 : decode cX12_readLine 66 = .ok (.if_icmp .ge 10, 3) := dk_162 (dw rcX12_readLine_54 5 rfl) rfl
theorem dX12_readLine_69 : decode cX12_readLine 69 = .ok (.aload_n 0, 1) := dk_42 (dw rcX12_readLine_54 6 rfl)
theorem dX12_readLine_70 : decode cX12_readLine 70 = .ok (.invokevirtual 400, 3) := dk_182 (dw rcX12_readLine_54 7 rfl) rfl
theorem dX12_readLine_73 : decode cX12_readLine 73 = .ok (.goto 127, 3) := dk_167 (dw rcX12_readLine_54 8 rfl) rfl
theorem dX12_readLine_76 : decode cX12_readLine 76 = .ok (.aload_n 0, 1) := dk_42 (dw rcX12_readLine_54 9 rfl)
theorem dX12_readLine_77 : decode cX12_readLine 77 = .ok (.ldc2_w 237, 3) := dk_20 (dw rcX12_readLine_54 10 rfl) rfl
theorem dX12_readLine_80 : decode cX12_readLine 80 = .ok (.iconst 1, 1) := dk_4 (dw rcX12_readLine_54 11 rfl)
theorem dX12_readLine_81 : decode cX12_readLine 81 = .ok (.invokevirtual 403, 3) := dk_182 (dw rcX12_readLine_54 12 rfl) rfl
theorem dX12_readLine_84 : decode cX12_readLine 84 = .ok (.ifCond .eq 20, 3) := dk_153 (dw rcX12_readLine_54 13 rfl) rfl
theorem dX12_readLine_87 : decode cX12_readLine 87 = .ok (.aload_n 0, 1) := dk_42 (dw rcX12_readLine_54 14 rfl)
theorem dX12_readLine_88 : decode cX12_readLine 88 = .ok (.dup, 1) := dk_89 (dw rcX12_readLine_54 15 rfl)
theorem dX12_readLine_89 : decode cX12_readLine 89 = .ok (.getfield 391, 3) := dk_180 (dw rcX12_readLine_54 16 rfl) rfl
theorem dX12_readLine_92 : decode cX12_readLine 92 = .ok (.iconst 1, 1) := dk_4 (dw rcX12_readLine_54 17 rfl)
theorem dX12_readLine_93 : decode cX12_readLine 93 = .ok (.ior, 1) := dk_128 (dw rcX12_readLine_54 18 rfl)
theorem dX12_readLine_94 : decode cX12_readLine 94 = .ok (.putfield 391, 3) := dk_181 (dw rcX12_readLine_54 19 rfl) rfl
theorem dX12_readLine_97 : decode cX12_readLine 97 = .ok (.aload_n 0, 1) := dk_42 (dw rcX12_readLine_54 20 rfl)
theorem dX12_readLine_98 : decode cX12_readLine 98 = .ok (.invokevirtual 407, 3) := dk_182 (dw rcX12_readLine_54 21 rfl) rfl
theorem dX12_readLine_101 : decode cX12_readLine 101 = .ok (.goto 99, 3) := dk_167 (dw rcX12_readLine_54 22 rfl) rfl
theorem dX12_readLine_104 : decode cX12_readLine 104 = .ok (.aload_n 0, 1) := dk_42 (dw rcX12_readLine_54 23 rfl)
noncomputable def rbX12_readLine_105 : List (Nat × List Nat) := [(105, [20, 0, 239]), (108, [5]), (109, [182, 1, 147]), (112, [153, 0, 44]), (115, [42]), (116, [89]), (117, [180, 1, 135]), (120, [5]), (121, [128]), (122, [181, 1, 135]), (125, [42]), (126, [42]), (127, [20, 0, 239]), (130, [4]), (131, [16, 99]), (133, [182, 1, 116]), (136, [181, 1, 154]), (139, [42]), (140, [42]), (141, [20, 0, 241]), (144, [3]), (145, [16, 99]), (147, [182, 1, 116]), (150, [181, 1, 157])]
theorem rcX12_readLine_105 : dgo (lb cX12_readLine) 0 rbX12_readLine_105 = true := by decide +kernel
theorem dX12_readLine_105 : decode cX12_readLine 105 = .ok (.ldc2_w 239, 3) := dk_20 (dw rcX12_readLine_105 0 rfl) rfl
theorem dX12_readLine_108 : decode cX12_readLine 108 = .ok (.iconst 2, 1) := dk_5 (dw rcX12_readLine_105 1 rfl)
theorem dX12_readLine_109 : decode cX12_readLine 109 = .ok (.invokevirtual 403, 3) := dk_182 (dw rcX12_readLine_105 2 rfl) rfl
theorem dX12_readLine_112 : decode cX12_readLine 112 = .ok (.ifCond .eq 44, 3) := dk_153 (dw rcX12_readLine_105 3 rfl) rfl
theorem dX12_readLine_115 : decode cX12_readLine 115 = .ok (.aload_n 0, 1) := dk_42 (dw rcX12_readLine_105 4 rfl)
theorem dX12_readLine_116 : decode cX12_readLine 116 = .ok (.dup, 1) := dk_89 (dw rcX12_readLine_105 5 rfl)
theorem dX12_readLine_117 : decode cX12_readLine 117 = .ok (.getfield 391, 3) := dk_180 (dw rcX12_readLine_105 6 rfl) rfl
theorem dX12_readLine_120 : decode cX12_readLine 120 = .ok (.iconst 2, 1) := dk_5 (dw rcX12_readLine_105 7 rfl)
theorem dX12_readLine_121 : decode cX12_readLine 121 = .ok (.ior, 1) := dk_128 (dw rcX12_readLine_105 8 rfl)
theorem dX12_readLine_122 : decode cX12_readLine 122 = .ok (.putfield 391, 3) := dk_181 (dw rcX12_readLine_105 9 rfl) rfl
theorem dX12_readLine_125 : decode cX12_readLine 125 = .ok (.aload_n 0, 1) := dk_42 (dw rcX12_readLine_105 10 rfl)
theorem dX12_readLine_126 : decode cX12_readLine 126 = .ok (.aload_n 0, 1) := dk_42 (dw rcX12_readLine_105 11 rfl)
theorem dX12_readLine_127 : decode cX12_readLine 127 = .ok (.ldc2_w 239, 3) := dk_20 (dw rcX12_readLine_105 12 rfl) rfl
theorem dX12_readLine_130 : decode cX12_readLine 130 = .ok (.iconst 1, 1) := dk_4 (dw rcX12_readLine_105 13 rfl)
theorem dX12_readLine_131 : decode cX12_readLine 131 = .ok (.bipush 99, 2) := dk_16 (dw rcX12_readLine_105 14 rfl) rfl
theorem dX12_readLine_133 : decode cX12_readLine 133 = .ok (.invokevirtual 372, 3) := dk_182 (dw rcX12_readLine_105 15 rfl) rfl
theorem dX12_readLine_136 : decode cX12_readLine 136 = .ok (.putfield 410, 3) := dk_181 (dw rcX12_readLine_105 16 rfl) rfl
theorem dX12_readLine_139 : decode cX12_readLine 139 = .ok (.aload_n 0, 1) := dk_42 (dw rcX12_readLine_105 17 rfl)
theorem dX12_readLine_140 : decode cX12_readLine 140 = .ok (.aload_n 0, 1) := dk_42 (dw rcX12_readLine_105 18 rfl)
theorem dX12_readLine_141 : decode cX12_readLine 141 = .ok (.ldc2_w 241, 3) := dk_20 (dw rcX12_readLine_105 19 rfl) rfl
theorem dX12_readLine_144 : decode cX12_readLine 144 = .ok (.iconst 0, 1) := dk_3 (dw rcX12_readLine_105 20 rfl)
theorem dX12_readLine_145 : decode cX12_readLine 145 = .ok (.bipush 99, 2) := dk_16 (dw rcX12_readLine_105 21 rfl) rfl
theorem dX12_readLine_147 : decode cX12_readLine 147 = .ok (.invokevirtual 372, 3) := dk_182 (dw rcX12_readLine_105 22 rfl) rfl
theorem dX12_readLine_150 : decode cX12_readLine 150 = .ok (.putfield 413, 3) := dk_181 (dw rcX12_readLine_105 23 rfl) rfl
noncomputable def rbX12_readLine_153 : List (Nat × List Nat) := [(153, [167, 0, 47]), (156, [42]), (157, [20, 0, 243]), (160, [7]), (161, [182, 1, 147]), (164, [153, 0, 31]), (167, [42]), (168, [89]), (169, [180, 1, 135]), (172, [7]), (173, [128]), (174, [181, 1, 135]), (177, [42]), (178, [42]), (179, [20, 0, 243]), (182, [3]), (183, [17, 3, 231]), (186, [182, 1, 116]), (189, [181, 1, 160]), (192, [167, 0, 8]), (195, [42]), (196, [5]), (197, [182, 1, 26]), (200, [42])]
theorem rcX12_readLine_153 : dgo (lb cX12_readLine) 0 rbX12_readLine_153 = true := by decide +kernel
theorem dX12_readLine_153 : decode cX12_readLine 153 = .ok (.goto 47, 3) := dk_167 (dw rcX12_readLine_153 0 rfl) rfl
theorem dX12_readLine_156 : decode cX12_readLine 156 = .ok (.aload_n 0, 1) := dk_42 (dw rcX12_readLine_153 1 rfl)
theorem dX12_readLine_157 : decode cX12_readLine 157 = .ok (.ldc2_w 243, 3) := dk_20 (dw rcX12_readLine_153 2 rfl) rfl
theorem dX12_readLine_160 : decode cX12_readLine 160 = .ok (.iconst 4, 1) := dk_7 (dw rcX12_readLine_153 3 rfl)
theorem dX12_readLine_161 : decode cX12_readLine 161 = .ok (.invokevirtual 403, 3) := dk_182 (dw rcX12_readLine_153 4 rfl) rfl
theorem dX12_readLine_164 : decode cX12_readLine 164 = .ok (.ifCond .eq 31, 3) := dk_153 (dw rcX12_readLine_153 5 rfl) rfl
theorem dX12_readLine_167 : decode cX12_readLine 167 = .ok (.aload_n 0, 1) := dk_42 (dw rcX12_readLine_153 6 rfl)
theorem dX12_readLine_168 : decode cX12_readLine 168 = .ok (.dup, 1) := dk_89 (dw rcX12_readLine_153 7 rfl)
theorem dX12_readLine_169 : decode cX12_readLine 169 = .ok (.getfield 391, 3) := dk_180 (dw rcX12_readLine_153 8 rfl) rfl
theorem dX12_readLine_172 : decode cX12_readLine 172 = .ok (.iconst 4, 1) := dk_7 (dw rcX12_readLine_153 9 rfl)
theorem dX12_readLine_173 : decode cX12_readLine 173 = .ok (.ior, 1) := dk_128 (dw rcX12_readLine_153 10 rfl)
theorem dX12_readLine_174 : decode cX12_readLine 174 = .ok (.putfield 391, 3) := dk_181 (dw rcX12_readLine_153 11 rfl) rfl
theorem dX12_readLine_177 : decode cX12_readLine 177 = .ok (.aload_n 0, 1) := dk_42 (dw rcX12_readLine_153 12 rfl)
theorem dX12_readLine_178 : decode cX12_readLine 178 = .ok (.aload_n 0, 1) := dk_42 (dw rcX12_readLine_153 13 rfl)
theorem dX12_readLine_179 : decode cX12_readLine 179 = .ok (.ldc2_w 243, 3) := dk_20 (dw rcX12_readLine_153 14 rfl) rfl
theorem dX12_readLine_182 : decode cX12_readLine 182 = .ok (.iconst 0, 1) := dk_3 (dw rcX12_readLine_153 15 rfl)
theorem dX12_readLine_183 : decode cX12_readLine 183 = .ok (.sipush 999, 3) := dk_17 (dw rcX12_readLine_153 16 rfl) rfl
theorem dX12_readLine_186 : decode cX12_readLine 186 = .ok (.invokevirtual 372, 3) := dk_182 (dw rcX12_readLine_153 17 rfl) rfl
theorem dX12_readLine_189 : decode cX12_readLine 189 = .ok (.putfield 416, 3) := dk_181 (dw rcX12_readLine_153 18 rfl) rfl
theorem dX12_readLine_192 : decode cX12_readLine 192 = .ok (.goto 8, 3) := dk_167 (dw rcX12_readLine_153 19 rfl) rfl
theorem dX12_readLine_195 : decode cX12_readLine 195 = .ok (.aload_n 0, 1) := dk_42 (dw rcX12_readLine_153 20 rfl)
theorem dX12_readLine_196 : decode cX12_readLine 196 = .ok (.iconst 2, 1) := dk_5 (dw rcX12_readLine_153 21 rfl)
theorem dX12_readLine_197 : decode cX12_readLine 197 = .ok (.invokevirtual 282, 3) := dk_182 (dw rcX12_readLine_153 22 rfl) rfl
theorem dX12_readLine_200 : decode cX12_readLine 200 = .ok (.aload_n 0, 1) := dk_42 (dw rcX12_readLine_153 23 rfl)
noncomputable def rbX12_readLine_201 : List (Nat × List Nat) := [(201, [180, 0, 218]), (204, [154, 0, 17]), (207, [42]), (208, [180, 0, 205]), (211, [16, 59]), (213, [159, 0, 8]), (216, [42]), (217, [5]), (218, [182, 1, 26]), (221, [42]), (222, [180, 0, 218]), (225, [154, 0, 7]), (228, [42]), (229, [182, 1, 23]), (232, [177])]
theorem rcX12_readLine_201 : dgo (lb cX12_readLine) 0 rbX12_readLine_201 = true := by decide +kernel
theorem dX12_readLine_201 : decode cX12_readLine 201 = .ok (.getfield 218, 3) := dk_180 (dw rcX12_readLine_201 0 rfl) rfl
theorem dX12_readLine_204 : decode cX12_readLine 204 = .ok (.ifCond .ne 17, 3) := dk_154 (dw rcX12_readLine_201 1 rfl) rfl
theorem dX12_readLine_207 : decode cX12_readLine 207 = .ok (.aload_n 0, 1) := dk_42 (dw rcX12_readLine_201 2 rfl)
theorem dX12_readLine_208 : decode cX12_readLine 208 = .ok (.getfield 205, 3) := dk_180 (dw rcX12_readLine_201 3 rfl) rfl
theorem dX12_readLine_211 : decode cX12_readLine 211 = .ok (.bipush 59, 2) := dk_16 (dw rcX12_readLine_201 4 rfl) rfl
theorem dX12_readLine_213 : decode cX12_readLine 213 = .ok (.if_icmp .eq 8, 3) := dk_159 (dw rcX12_readLine_201 5 rfl) rfl
theorem dX12_readLine_216 : decode cX12_readLine 216 = .ok (.aload_n 0, 1) := dk_42 (dw rcX12_readLine_201 6 rfl)
theorem dX12_readLine_217 : decode cX12_readLine 217 = .ok (.iconst 2, 1) := dk_5 (dw rcX12_readLine_201 7 rfl)
theorem dX12_readLine_218 : decode cX12_readLine 218 = .ok (.invokevirtual 282, 3) := dk_182 (dw rcX12_readLine_201 8 rfl) rfl
theorem dX12_readLine_221 : decode cX12_readLine 221 = .ok (.aload_n 0, 1) := dk_42 (dw rcX12_readLine_201 9 rfl)
theorem dX12_readLine_222 : decode cX12_readLine 222 = .ok (.getfield 218, 3) := dk_180 (dw rcX12_readLine_201 10 rfl) rfl
theorem dX12_readLine_225 : decode cX12_readLine 225 = .ok (.ifCond .ne 7, 3) := dk_154 (dw rcX12_readLine_201 11 rfl) rfl
theorem dX12_readLine_228 : decode cX12_readLine 228 = .ok (.aload_n 0, 1) := dk_42 (dw rcX12_readLine_201 12 rfl)
theorem dX12_readLine_229 : decode cX12_readLine 229 = .ok (.invokevirtual 279, 3) := dk_182 (dw rcX12_readLine_201 13 rfl) rfl
theorem dX12_readLine_232 : decode cX12_readLine 232 = .ok (.return_, 1) := dk_177 (dw rcX12_readLine_201 14 rfl)
noncomputable def rbX12_readRule_0 : List (Nat × List Nat) := [(0, [42]), (1, [16, 7]), (3, [42]), (4, [180, 1, 129]), (7, [182, 1, 113]), (10, [42]), (11, [180, 0, 218]), (14, [158, 0, 4]), (17, [177]), (18, [42]), (19, [42]), (20, [180, 1, 129]), (23, [182, 1, 132]), (26, [42]), (27, [180, 0, 218]), (30, [154, 0, 13]), (33, [42]), (34, [89]), (35, [180, 1, 129]), (38, [4]), (39, [96]), (40, [181, 1, 129]), (43, [177])]
theorem rcX12_readRule_0 : dgo (lb cX12_readRule) 0 rbX12_readRule_0 = true := by decide +kernel
theorem dX12_readRule_0 : decode cX12_readRule 0 = .ok (.aload_n 0, 1) := dk_42 (dw rcX12_readRule_0 0 rfl)
theorem dX12_readRule_1 : decode cX12_readRule 1 = .ok (.bipush 7, 2) := dk_16 (dw rcX12_readRule_0 1 rfl) rfl
theorem dX12_readRule_3 : decode cX12_readRule 3 = .ok (.aload_n 0, 1) := dk_42 (dw rcX12_readRule_0 2 rfl)
theorem dX12_readRule_4 : decode cX12_readRule 4 = .ok (.getfield 385, 3) := dk_180 (dw rcX12_readRule_0 3 rfl) rfl
theorem dX12_readRule_7 : decode cX12_readRule 7 = .ok (.invokevirtual 369, 3) := dk_182 (dw rcX12_readRule_0 4 rfl) rfl
theorem dX12_readRule_10 : decode cX12_readRule 10 = .ok (.aload_n 0, 1) := dk_42 (dw rcX12_readRule_0 5 rfl)
theorem dX12_readRule_11 : decode cX12_readRule 11 = .ok (.getfield 218, 3) := dk_180 (dw rcX12_readRule_0 6 rfl) rfl
theorem dX12_readRule_14 : decode cX12_readRule 14 = .ok (.ifCond .le 4, 3) := dk_158 (dw rcX12_readRule_0 7 rfl) rfl
theorem dX12_readRule_17 : decode cX12_readRule 17 = .ok (.return_, 1) := dk_177 (dw rcX12_readRule_0 8 rfl)
theorem dX12_readRule_18 : decode cX12_readRule 18 = .ok (.aload_n 0, 1) := dk_42 (dw rcX12_readRule_0 9 rfl)
theorem dX12_readRule_19 : decode cX12_readRule 19 = .ok (.aload_n 0, 1) := dk_42 (dw rcX12_readRule_0 10 rfl)
theorem dX12_readRule_20 : decode cX12_readRule 20 = .ok (.getfield 385, 3) := dk_180 (dw rcX12_readRule_0 11 rfl) rfl
theorem dX12_readRule_23 : decode cX12_readRule 23 = .ok (.invokevirtual 388, 3) := dk_182 (dw rcX12_readRule_0 12 rfl) rfl
theorem dX12_readRule_26 : decode cX12_readRule 26 = .ok (.aload_n 0, 1) := dk_42 (dw rcX12_readRule_0 13 rfl)
theorem dX12_readRule_27 : decode cX12_readRule 27 = .ok (.getfield 218, 3) := dk_180 (dw rcX12_readRule_0 14 rfl) rfl
theorem dX12_readRule_30 : decode cX12_readRule 30 = .ok (.ifCond .ne 13, 3) := dk_154 (dw rcX12_readRule_0 15 rfl) rfl
theorem dX12_readRule_33 : decode cX12_readRule 33 = .ok (.aload_n 0, 1) := dk_42 (dw rcX12_readRule_0 16 rfl)
theorem dX12_readRule_34 : decode cX12_readRule 34 = .ok (.dup, 1) := dk_89 (dw rcX12_readRule_0 17 rfl)
theorem dX12_readRule_35 : decode cX12_readRule 35 = .ok (.getfield 385, 3) := dk_180 (dw rcX12_readRule_0 18 rfl) rfl
theorem dX12_readRule_38 : decode cX12_readRule 38 = .ok (.iconst 1, 1) := dk_4 (dw rcX12_readRule_0 19 rfl)
theorem dX12_readRule_39 : decode cX12_readRule 39 = .ok (.iadd, 1) := dk_96 (dw rcX12_readRule_0 20 rfl)
theorem dX12_readRule_40 : decode cX12_readRule 40 = .ok (.putfield 385, 3) := dk_181 (dw rcX12_readRule_0 21 rfl) rfl
theorem dX12_readRule_43 : decode cX12_readRule 43 = .ok (.return_, 1) := dk_177 (dw rcX12_readRule_0 22 rfl)
noncomputable def rbX12_readSlip_0 : List (Nat × List Nat) := [(0, [42]), (1, [182, 1, 23]), (4, [42]), (5, [180, 0, 72]), (8, [3]), (9, [42]), (10, [3]), (11, [16, 9]), (13, [182, 1, 33]), (16, [79]), (17, [42]), (18, [180, 0, 72]), (21, [4]), (22, [42]), (23, [3]), (24, [16, 9]), (26, [182, 1, 33]), (29, [79]), (30, [42]), (31, [180, 0, 72]), (34, [5]), (35, [42]), (36, [42]), (37, [180, 0, 72])]
theorem rcX12_readSlip_0 : dgo (lb cX12_readSlip) 0 rbX12_readSlip_0 = true := by decide +kernel
theorem dX12_readSlip_0 : decode cX12_readSlip 0 = .ok (.aload_n 0, 1) := dk_42 (dw rcX12_readSlip_0 0 rfl)
theorem dX12_readSlip_1 : decode cX12_readSlip 1 = .ok (.invokevirtual 279, 3) := dk_182 (dw rcX12_readSlip_0 1 rfl) rfl
theorem dX12_readSlip_4 : decode cX12_readSlip 4 = .ok (.aload_n 0, 1) := dk_42 (dw rcX12_readSlip_0 2 rfl)
theorem dX12_readSlip_5 : decode cX12_readSlip 5 = .ok (.getfield 72, 3) := dk_180 (dw rcX12_readSlip_0 3 rfl) rfl
theorem dX12_readSlip_8 : decode cX12_readSlip 8 = .ok (.iconst 0, 1) := dk_3 (dw rcX12_readSlip_0 4 rfl)
theorem dX12_readSlip_9 : decode cX12_readSlip 9 = .ok (.aload_n 0, 1) := dk_42 (dw rcX12_readSlip_0 5 rfl)
theorem dX12_readSlip_10 : decode cX12_readSlip 10 = .ok (.iconst 0, 1) := dk_3 (dw rcX12_readSlip_0 6 rfl)
theorem dX12_readSlip_11 : decode cX12_readSlip 11 = .ok (.bipush 9, 2) := dk_16 (dw rcX12_readSlip_0 7 rfl) rfl
theorem dX12_readSlip_13 : decode cX12_readSlip 13 = .ok (.invokevirtual 289, 3) := dk_182 (dw rcX12_readSlip_0 8 rfl) rfl
theorem dX12_readSlip_16 : decode cX12_readSlip 16 = .ok (.iastore, 1) := dk_79 (dw rcX12_readSlip_0 9 rfl)
theorem dX12_readSlip_17 : decode cX12_readSlip 17 = .ok (.aload_n 0, 1) := dk_42 (dw rcX12_readSlip_0 10 rfl)
theorem dX12_readSlip_18 : decode cX12_readSlip 18 = .ok (.getfield 72, 3) := dk_180 (dw rcX12_readSlip_0 11 rfl) rfl
theorem dX12_readSlip_21 : decode cX12_readSlip 21 = .ok (.iconst 1, 1) := dk_4 (dw rcX12_readSlip_0 12 rfl)
theorem dX12_readSlip_22 : decode cX12_readSlip 22 = .ok (.aload_n 0, 1) := dk_42 (dw rcX12_readSlip_0 13 rfl)
theorem dX12_readSlip_23 : decode cX12_readSlip 23 = .ok (.iconst 0, 1) := dk_3 (dw rcX12_readSlip_0 14 rfl)
theorem dX12_readSlip_24 : decode cX12_readSlip 24 = .ok (.bipush 9, 2) := dk_16 (dw rcX12_readSlip_0 15 rfl) rfl
theorem dX12_readSlip_26 : decode cX12_readSlip 26 = .ok (.invokevirtual 289, 3) := dk_182 (dw rcX12_readSlip_0 16 rfl) rfl
theorem dX12_readSlip_29 : decode cX12_readSlip 29 = .ok (.iastore, 1) := dk_79 (dw rcX12_readSlip_0 17 rfl)
theorem dX12_readSlip_30 : decode cX12_readSlip 30 = .ok (.aload_n 0, 1) := dk_42 (dw rcX12_readSlip_0 18 rfl)
theorem dX12_readSlip_31 : decode cX12_readSlip 31 = .ok (.getfield 72, 3) := dk_180 (dw rcX12_readSlip_0 19 rfl) rfl
theorem dX12_readSlip_34 : decode cX12_readSlip 34 = .ok (.iconst 2, 1) := dk_5 (dw rcX12_readSlip_0 20 rfl)
theorem dX12_readSlip_35 : decode cX12_readSlip 35 = .ok (.aload_n 0, 1) := dk_42 (dw rcX12_readSlip_0 21 rfl)
theorem dX12_readSlip_36 : decode cX12_readSlip 36 = .ok (.aload_n 0, 1) := dk_42 (dw rcX12_readSlip_0 22 rfl)
theorem dX12_readSlip_37 : decode cX12_readSlip 37 = .ok (.getfield 72, 3) := dk_180 (dw rcX12_readSlip_0 23 rfl) rfl
noncomputable def rbX12_readSlip_40 : List (Nat × List Nat) := [(40, [3]), (41, [46]), (42, [42]), (43, [180, 0, 72]), (46, [4]), (47, [46]), (48, [96]), (49, [154, 0, 7]), (52, [4]), (53, [167, 0, 4]), (56, [3]), (57, [16, 9]), (59, [182, 1, 33]), (62, [79]), (63, [177])]
theorem rcX12_readSlip_40 : dgo (lb cX12_readSlip) 0 rbX12_readSlip_40 = true := by decide +kernel
theorem dX12_readSlip_40 : decode cX12_readSlip 40 = .ok (.iconst 0, 1) := dk_3 (dw rcX12_readSlip_40 0 rfl)
theorem dX12_readSlip_41 : decode cX12_readSlip 41 = .ok (.iaload, 1) := dk_46 (dw rcX12_readSlip_40 1 rfl)
theorem dX12_readSlip_42 : decode cX12_readSlip 42 = .ok (.aload_n 0, 1) := dk_42 (dw rcX12_readSlip_40 2 rfl)
theorem dX12_readSlip_43 : decode cX12_readSlip 43 = .ok (.getfield 72, 3) := dk_180 (dw rcX12_readSlip_40 3 rfl) rfl
theorem dX12_readSlip_46 : decode cX12_readSlip 46 = .ok (.iconst 1, 1) := dk_4 (dw rcX12_readSlip_40 4 rfl)
theorem dX12_readSlip_47 : decode cX12_readSlip 47 = .ok (.iaload, 1) := dk_46 (dw rcX12_readSlip_40 5 rfl)
theorem dX12_readSlip_48 : decode cX12_readSlip 48 = .ok (.iadd, 1) := dk_96 (dw rcX12_readSlip_40 6 rfl)
theorem dX12_readSlip_49 : decode cX12_readSlip 49 = .ok (.ifCond .ne 7, 3) := dk_154 (dw rcX12_readSlip_40 7 rfl) rfl
theorem dX12_readSlip_52 : decode cX12_readSlip 52 = .ok (.iconst 1, 1) := dk_4 (dw rcX12_readSlip_40 8 rfl)
theorem dX12_readSlip_53 : decode cX12_readSlip 53 = .ok (.goto 4, 3) := dk_167 (dw rcX12_readSlip_40 9 rfl) rfl
theorem dX12_readSlip_56 : decode cX12_readSlip 56 = .ok (.iconst 0, 1) := dk_3 (dw rcX12_readSlip_40 10 rfl)
theorem dX12_readSlip_57 : decode cX12_readSlip 57 = .ok (.bipush 9, 2) := dk_16 (dw rcX12_readSlip_40 11 rfl) rfl
theorem dX12_readSlip_59 : decode cX12_readSlip 59 = .ok (.invokevirtual 289, 3) := dk_182 (dw rcX12_readSlip_40 12 rfl) rfl
theorem dX12_readSlip_62 : decode cX12_readSlip 62 = .ok (.iastore, 1) := dk_79 (dw rcX12_readSlip_40 13 rfl)
theorem dX12_readSlip_63 : decode cX12_readSlip 63 = .ok (.return_, 1) := dk_177 (dw rcX12_readSlip_40 14 rfl)
set_option maxHeartbeats 4000000 in
set_option maxRecDepth 100000 in
theorem n_readRule (l : Launch) (D : va_G) (k : KT) (A : Nat → Prop) (a : Nat → Nat) (z : SK) (G : GS)  (hnf : (G.1 66 2).toInt = 0) (hr6 : (G.1 66 47).toInt < 6) (hE9 : gE G = 1) : Met l yX12_readRule (WS yX12_readRule cX12_readRule 1 none) ({ frames := 5, cells := 0, slots := 0, locals := 109 }) (va_Pc [.ref (a 66)] (cW D k A a z G)) (va_Qv (fun (G1 : GS) => Q_readRule G G1) (fun (G1 : GS) t => Wd D k A a G1 t.heap) A) 0 0 A := by
  refine Met.ofW (cc := cX12_readRule) (maxL := 1) (ret := none) (by decide) rfl ?_
  intro p e s m args below meth c s₁ B hml hv
  obtain ⟨rfl, hW, hB_G, hK, hZ⟩ := hv
  have hx := B.exec
  have hb := B.bytes
  have hr := B.returns
  have hts := atoms_spec (ws := WS yX12_readRule cX12_readRule 1 none) B.pre
  have hgd : ∀ w ∈ gd, w ∈ WS yX12_readRule cX12_readRule 1 none := fun w h => List.mem_cons_of_mem _ h
  have hg : ∀ w ∈ gd, w.before _ s = true := fun w h => hts w (hgd w h)
  have hown : s.vm.findClass RX12 = some m.cls := findClass_of_methodNamed B.named
  have hS : va_S A s.heap s.heap [] := va_S.rf
  have hF : Fr [68, 69, 70, 71, 75] [(66, 2), (66, 3), (66, 4), (66, 6), (66, 7), (66, 8), (66, 9), (66, 19), (66, 20), (66, 21), (66, 23), (66, 24), (66, 47)] G G := Fr.rf
  have hl := lv_entry ([.ref (a 66)]) (n := 1) (Nat.le_of_ble_eq_true rfl)
  rw [lg_entry_eq]
  generalize (lg_sl ([.ref (a 66)]) ++ List.replicate (1 - (lg_sl ([.ref (a 66)])).length) Slot.unset).toArray = ls at hl ⊢
  have hl : lv_has ls 1 [(0, .ref (a 66))] := hl
  refine lv_aload_n hx hb dX12_readRule_0 rfl (lv_at hl 0 rfl) ?_
  refine lv_bipush (v := 7) hx hb dX12_readRule_1 (by decide) ?_
  refine lv_aload_n hx hb dX12_readRule_3 rfl (lv_at hl 0 rfl) ?_
  have b_1 : 0 ≤ (G.1 66 47).toInt ∧ (G.1 66 47).toInt ≤ 6 := bd_66_47 hB_G
  refine S_getI (v := (G.1 66 47)) (C := RX12) (T := TX12) (N := 89) hx hb hg iX12 hown hK hW kd_66 rfl 47 (lt_b rfl) (hg (Cond.fieldLink RX12 385 "SlabWalkModel" "nRules" "I") m1361) (fun _ h9 => h9) rfl rfl dX12_readRule_4 ?_
  have qc_2 : (7 : Int32).toInt = 7 := rfl
  refine S_callv (va_runV (As := [.int 7, .int (G.1 66 47)]) (rest := []) ⟨hx, hb, hml, hown, hts⟩ (n_newName l D k A a z G 7 (G.1 66 47) ⟨by decide, by decide⟩ ⟨by omega, by omega⟩) (cwV 2 hts (gd_V hgd m1632 m1634 m55 m131 m1635) rfl rfl rfl hd_X12_newName ⟨Nat.le_of_ble_eq_true rfl, Nat.le_of_ble_eq_true rfl⟩) (pre_W hW hB_G hK hZ hS kd_66 rfl) rfl rfl hl.1 rfl (lv_room (Nat.le_of_ble_eq_true rfl)) dX12_readRule_7 ⟨Nat.le_of_ble_eq_true rfl, Nat.le_of_ble_eq_true rfl⟩) hS (fun G_4 H locs hpo hW hS => ?_)
  have hX_7 : Q_newName 7 (G.1 66 47) G G_4 := hpo
  obtain ⟨hB_G_4, hq_5, ⟨d_1, d_2, d_3⟩, -⟩ := hpo
  have hF := hF.call9 hq_5 rfl rfl
  refine lv_aload_n hx hb dX12_readRule_10 rfl (lv_at hl 0 rfl) ?_
  have b_8 : 0 ≤ (G_4.1 66 2).toInt ∧ (G_4.1 66 2).toInt ≤ 4 := bd_66_2 hB_G_4
  refine S_getI (v := (G_4.1 66 2)) (C := RX12) (T := TX12) (N := 89) hx hb hg iX12 hown hK hW kd_66 rfl 2 (lt_b rfl) (hg (Cond.fieldLink RX12 218 "SlabWalkModel" "fault" "I") m1316) (fun _ h9 => h9) rfl rfl dX12_readRule_11 ?_
  refine lv_if_le (tgt := 18) hx hb dX12_readRule_14 rfl (fun c_9 => ?_) (fun c_9 => ?_)
  · have c_9 : (G_4.1 66 2).toInt ≤ 0 := xI_le rfl rfl c_9
    refine lv_aload_n hx hb dX12_readRule_18 rfl (lv_at hl 0 rfl) ?_
    refine lv_aload_n hx hb dX12_readRule_19 rfl (lv_at hl 0 rfl) ?_
    refine S_getI (v := (G.1 66 47)) (C := RX12) (T := TX12) (N := 89) hx hb hg iX12 hown hK hW kd_66 rfl 47 (lt_b rfl) (hg (Cond.fieldLink RX12 385 "SlabWalkModel" "nRules" "I") m1361) (fun _ h9 => h9) rfl ((hq_5.i9 66 47 rfl rfl).trans (rfl)) dX12_readRule_20 ?_
    have fr_10 : Fr [68] [(66, 2), (66, 3), (66, 4), (66, 6), (66, 7), (66, 8), (66, 9)] G G_4 := (Fr.call9 (rs := [68]) (fs := [(66, 2), (66, 3), (66, 4), (66, 6), (66, 7), (66, 8), (66, 9)]) Fr.rf hq_5 rfl rfl)
    have g_11 : gE G_4 = gE G := gE_fr fr_10 (gr_q rfl) (gf_q rfl)
    have g_12 : (G_4.1 66 47).toInt = (G.1 66 47).toInt := (congrArg Int32.toInt (show G_4.1 66 47 = (G.1 66 47) from ((hq_5.i9 66 47 rfl rfl).trans (rfl))))
    have b_13 : 0 ≤ (G_4.1 66 4).toInt ∧ (G_4.1 66 4).toInt ≤ 1600 := bd_66_4 hB_G_4
    refine S_callv (va_runV (As := [.int (G.1 66 47)]) (rest := []) ⟨hx, hb, hml, hown, hts⟩ (n_formula l D k A a z G_4 (G.1 66 47) ⟨(by first | (clear hnf hE9 d_1 d_2 d_3 b_8 c_9 g_11 b_13; omega) | omega), (by first | (clear hnf hE9 d_1 d_2 d_3 b_8 c_9 g_11 b_13; omega) | omega)⟩ ((by first | (clear hr6 hE9 b_1 d_1 d_2 g_11 g_12 b_13; omega) | omega)) ((by first | (clear hnf hr6 b_1 d_1 d_2 d_3 b_8 c_9 g_12 b_13; omega) | omega)) ((by first | (clear hnf hE9 d_1 d_2 d_3 b_8 c_9 g_11 b_13; omega) | omega))) (cwV 1 hts (gd_V hgd m1710 m1712 m69 m131 m1713) rfl rfl rfl hd_X12_formula ⟨Nat.le_of_ble_eq_true rfl, Nat.le_of_ble_eq_true rfl⟩) (pre_W hW hB_G_4 hK hZ hS kd_66 rfl) rfl rfl hl.1 rfl (lv_room (Nat.le_of_ble_eq_true rfl)) dX12_readRule_23 ⟨Nat.le_of_ble_eq_true rfl, Nat.le_of_ble_eq_true rfl⟩) hS (fun G_15 H locs hpo hW hS => ?_)
    have hX_18 : Q_formula (G.1 66 47) G_4 G_15 := hpo
    obtain ⟨hB_G_15, hq_16, ⟨d_4, d_5, d_6⟩, -⟩ := hpo
    have hF := hF.call9 hq_16 rfl rfl
    refine lv_aload_n hx hb dX12_readRule_26 rfl (lv_at hl 0 rfl) ?_
    have b_19 : 0 ≤ (G_15.1 66 2).toInt ∧ (G_15.1 66 2).toInt ≤ 4 := bd_66_2 hB_G_15
    refine S_getI (v := (G_15.1 66 2)) (C := RX12) (T := TX12) (N := 89) hx hb hg iX12 hown hK hW kd_66 rfl 2 (lt_b rfl) (hg (Cond.fieldLink RX12 218 "SlabWalkModel" "fault" "I") m1316) (fun _ h9 => h9) rfl rfl dX12_readRule_27 ?_
    refine lv_if_ne (tgt := 43) hx hb dX12_readRule_30 rfl (fun c_20 => ?_) (fun c_20 => ?_)
    · have c_20 : (G_15.1 66 2).toInt ≠ 0 := xI_ne rfl rfl c_20
      have b_21 : 0 ≤ (G_15.1 66 4).toInt ∧ (G_15.1 66 4).toInt ≤ 1600 := bd_66_4 hB_G_15
      exact W.vret hx hb hr (fun t ht _ => ⟨⟨G_15, rfl, (Q_readRule_mk ⟨hB_G_15, hF, ((by first | exact ⟨((by first | (clear hnf hr6 hE9 b_1 d_3 b_8 c_9 g_11 g_12 d_6 b_19 c_20; omega) | omega)), ⟨(fun h9 => by have q0_ := d_2 (by first | (clear hnf hr6 hE9 b_1 d_2 d_3 b_8 c_9 g_11 g_12 d_5 d_6 b_19 c_20; omega) | omega); have q1_ := d_5 (by first | (clear hnf hr6 hE9 b_1 d_2 d_3 b_8 c_9 g_11 g_12 d_5 d_6 b_19 c_20; omega) | omega); (first | (clear hnf hr6 hE9 b_1 d_1 d_2 d_3 b_8 c_9 g_11 g_12 b_13 d_4 d_5 d_6 b_19 c_20 b_21; omega) | omega)), (fun h9 => ((by first | (clear hnf hE9 d_1 d_2 d_3 b_8 c_9 g_11 b_13 d_4 d_5 d_6 b_21; omega) | omega)))⟩⟩ | omega)), ⟨G_4, hX_7, (Or.inl ⟨c_9, ⟨G_15, hX_18, (Or.inr ⟨c_20, rfl⟩)⟩⟩)⟩⟩), wd_t ht hW⟩, hS.F ht⟩) hS.2.2 dX12_readRule_43
    · have c_20 : (G_15.1 66 2).toInt = 0 := xI_eq rfl rfl c_20
      have d_7 := d_6 c_20
      have b_22 : 0 ≤ (G_15.1 66 19).toInt ∧ (G_15.1 66 19).toInt ≤ 5 := bd_66_19 hB_G_15
      have g_23 : (G_15.1 66 47).toInt = (G.1 66 47).toInt := (congrArg Int32.toInt (show G_15.1 66 47 = (G.1 66 47) from ((hq_16.i9 66 47 rfl rfl).trans ((hq_5.i9 66 47 rfl rfl).trans (rfl)))))
      refine lv_aload_n hx hb dX12_readRule_33 rfl (lv_at hl 0 rfl) ?_
      refine lv_dup hx hb dX12_readRule_34 rfl ?_
      refine S_getI (v := (G.1 66 47)) (C := RX12) (T := TX12) (N := 89) hx hb hg iX12 hown hK hW kd_66 rfl 47 (lt_b rfl) (hg (Cond.fieldLink RX12 385 "SlabWalkModel" "nRules" "I") m1361) (fun _ h9 => h9) rfl ((hq_16.i9 66 47 rfl rfl).trans ((hq_5.i9 66 47 rfl rfl).trans (rfl))) dX12_readRule_35 ?_
      refine ic_1 hx hb dX12_readRule_38 ?_
      refine lv_iadd hx hb dX12_readRule_39 ?_
      refine lv_topi (fun y_24 ey_24 => ?_)
      have ty_24 : y_24.toInt = (G.1 66 47).toInt + 1 := xI_add rfl rfl ey_24 ((by first | (clear hnf hE9 d_1 d_2 d_3 b_8 c_9 g_11 b_13 d_4 d_5 d_6; omega) | omega)) ((by first | (clear hnf hE9 d_1 d_2 d_3 b_8 c_9 g_11 b_13 d_4 d_5 d_6; omega) | omega))
      refine S_putI (ty := .int) (C := RX12) (T := TX12) (N := 89) hx hb hg iX12 tyX12 tyX12_ok nmX12 hown hK hW hS kd_66 rfl 47 (lt_b rfl) (hg (Cond.fieldLink RX12 385 "SlabWalkModel" "nRules" "I") m1361) (fun _ h9 => h9) rfl (by decide +kernel) rfl rfl rfl dX12_readRule_40 (fun G_25 H locs eG_25 hW hS => ?_)
      have hB_G_25 : Bd G_25 := hB_G_15.put (V := y_24.toInt) (lo := 0) (hi := 6) eG_25 rfl rfl rfl ((by first | (clear hnf hE9 d_1 d_2 d_3 b_8 c_9 g_11 b_13 d_4 d_5 d_6; omega) | omega)) ((by first | (clear hnf hE9 d_1 d_2 d_3 b_8 c_9 g_11 b_13 d_4 d_5 d_6; omega) | omega)) (hB_G_15.2.put eG_25 rfl)
      have hF := hF.put eG_25 (Or.inr (by decide))
      have u_26 := rule_gh (Ga := G_15) (by first | (clear d_6; omega) | omega) (by first | (clear d_6; omega) | omega) eG_25 (by first | (clear d_6; omega) | omega) (by first | (clear d_6; omega) | omega)
      have g_27 : (G_25.1 66 2).toInt = (G_15.1 66 2).toInt := (congrArg Int32.toInt (show G_25.1 66 2 = (G_15.1 66 2) from ((gp_ne eG_25 (by decide)).trans (rfl))))
      have b_28 : 0 ≤ (G_15.1 66 4).toInt ∧ (G_15.1 66 4).toInt ≤ 1600 := bd_66_4 hB_G_15
      have g_29 : (G_25.1 66 4).toInt = (G_15.1 66 4).toInt := (congrArg Int32.toInt (show G_25.1 66 4 = (G_15.1 66 4) from (gp_ne eG_25 (by decide))))
      have g_30 : (G_25.1 66 6).toInt = (G_15.1 66 6).toInt := (congrArg Int32.toInt (show G_25.1 66 6 = (G_15.1 66 6) from (gp_ne eG_25 (by decide))))
      exact W.vret hx hb hr (fun t ht _ => ⟨⟨G_25, rfl, (Q_readRule_mk ⟨hB_G_25, hF, ((by first | exact ⟨((by first | (clear hnf hr6 hE9 b_1 d_3 b_8 c_9 g_11 g_12 d_6 b_19 c_20 d_7 b_22 g_23 ty_24 g_27; omega) | omega)), ⟨(fun h9 => by have q0_ := d_2 (by first | (clear hnf hr6 hE9 b_1 d_2 d_3 b_8 c_9 g_11 g_12 d_5 d_6 b_19 c_20 d_7 b_22 g_23 ty_24 u_26 g_27 g_30; omega) | omega); have q1_ := d_5 (by first | (clear hnf hr6 hE9 b_1 d_2 d_3 b_8 c_9 g_11 g_12 d_5 d_6 b_19 c_20 d_7 b_22 g_23 ty_24 u_26 g_27 g_30; omega) | omega); (first | (clear hnf hr6 hE9 b_1 d_1 d_2 d_3 b_8 c_9 g_11 g_12 b_13 d_4 d_5 d_6 b_19 c_20 d_7 b_22 g_23 ty_24 u_26 g_27 b_28 g_29; omega) | omega)), (fun h9 => ((by first | (clear hnf hE9 d_1 d_2 d_3 b_8 c_9 g_11 b_13 d_4 d_5 d_6 b_28 g_29 g_30; omega) | omega)))⟩⟩ | omega)), ⟨G_4, hX_7, (Or.inl ⟨c_9, ⟨G_15, hX_18, (Or.inl ⟨c_20, ⟨y_24, ty_24, ⟨(Fr.put (rs := []) (fs := [(66, 47)]) Fr.rf eG_25 (Or.inr (by decide))), (gp_eq eG_25)⟩⟩⟩)⟩⟩)⟩⟩), wd_t ht hW⟩, hS.F ht⟩) hS.2.2 dX12_readRule_43
  · have c_9 : 0 < (G_4.1 66 2).toInt := xI_nle rfl rfl c_9
    have fr_31 : Fr [68] [(66, 2), (66, 3), (66, 4), (66, 6), (66, 7), (66, 8), (66, 9)] G G_4 := (Fr.call9 (rs := [68]) (fs := [(66, 2), (66, 3), (66, 4), (66, 6), (66, 7), (66, 8), (66, 9)]) Fr.rf hq_5 rfl rfl)
    have g_32 : gE G_4 = gE G := gE_fr fr_31 (gr_q rfl) (gf_q rfl)
    have b_33 : 0 ≤ (G_4.1 66 4).toInt ∧ (G_4.1 66 4).toInt ≤ 1600 := bd_66_4 hB_G_4
    exact W.vret hx hb hr (fun t ht _ => ⟨⟨G_4, rfl, (Q_readRule_mk ⟨hB_G_4, hF, ((by first | exact ⟨((by first | (clear hnf hr6 hE9 b_1 d_3 b_8 c_9 g_32; omega) | omega)), ⟨(fun h9 => by have q0_ := d_2 (by first | (clear hnf hr6 hE9 b_1 d_2 d_3 b_8 c_9 g_32; omega) | omega); (first | (clear hnf hr6 hE9 b_1 d_1 d_2 d_3 b_8 c_9 g_32 b_33; omega) | omega)), (fun h9 => ((by first | (clear hr6 b_1 d_1 d_2 b_33; omega) | omega)))⟩⟩ | omega)), ⟨G_4, hX_7, (Or.inr ⟨c_9, rfl⟩)⟩⟩), wd_t ht hW⟩, hS.F ht⟩) hS.2.2 dX12_readRule_17

set_option maxHeartbeats 4000000 in
set_option maxRecDepth 100000 in
theorem n_readSlip (l : Launch) (D : va_G) (k : KT) (A : Nat → Prop) (a : Nat → Nat) (z : SK) (G : GS)  (hnf : (G.1 66 2).toInt = 0) : Met l yX12_readSlip (WS yX12_readSlip cX12_readSlip 1 none) ({ frames := 3, cells := 0, slots := 0, locals := 66 }) (va_Pc [.ref (a 66)] (cW D k A a z G)) (va_Qv (fun (G1 : GS) => Q_readSlip G G1) (fun (G1 : GS) t => Wd D k A a G1 t.heap) A) 0 0 A := by
  refine Met.ofW (cc := cX12_readSlip) (maxL := 1) (ret := none) (by decide) rfl ?_
  intro p e s m args below meth c s₁ B hml hv
  obtain ⟨rfl, hW, hB_G, hK, hZ⟩ := hv
  have hx := B.exec
  have hb := B.bytes
  have hr := B.returns
  have hts := atoms_spec (ws := WS yX12_readSlip cX12_readSlip 1 none) B.pre
  have hgd : ∀ w ∈ gd, w ∈ WS yX12_readSlip cX12_readSlip 1 none := fun w h => List.mem_cons_of_mem _ h
  have hg : ∀ w ∈ gd, w.before _ s = true := fun w h => hts w (hgd w h)
  have hown : s.vm.findClass RX12 = some m.cls := findClass_of_methodNamed B.named
  have hS : va_S A s.heap s.heap [] := va_S.rf
  have hF : Fr [86] [(66, 2), (66, 3), (66, 4), (66, 6), (66, 7), (66, 8), (66, 9)] G G := Fr.rf
  have hl := lv_entry ([.ref (a 66)]) (n := 1) (Nat.le_of_ble_eq_true rfl)
  rw [lg_entry_eq]
  generalize (lg_sl ([.ref (a 66)]) ++ List.replicate (1 - (lg_sl ([.ref (a 66)])).length) Slot.unset).toArray = ls at hl ⊢
  have hl : lv_has ls 1 [(0, .ref (a 66))] := hl
  refine lv_aload_n hx hb dX12_readSlip_0 rfl (lv_at hl 0 rfl) ?_
  refine S_callv (va_runV (As := []) (rest := []) ⟨hx, hb, hml, hown, hts⟩ (n_token l D k A a z G  ) (cwV 0 hts (gd_V hgd m1602 m1604 m50 m131 m1605) rfl rfl rfl hd_X12_token ⟨Nat.le_of_ble_eq_true rfl, Nat.le_of_ble_eq_true rfl⟩) (pre_W hW hB_G hK hZ hS kd_66 rfl) rfl rfl hl.1 rfl (lv_room (Nat.le_of_ble_eq_true rfl)) dX12_readSlip_1 ⟨Nat.le_of_ble_eq_true rfl, Nat.le_of_ble_eq_true rfl⟩) hS (fun G_2 H locs hpo hW hS => ?_)
  have hX_5 : Q_token G G_2 := hpo
  obtain ⟨hB_G_2, hq_3, ⟨d_1, d_2⟩, -⟩ := hpo
  have hF := hF.call9 hq_3 rfl rfl
  refine lv_aload_n hx hb dX12_readSlip_4 rfl (lv_at hl 0 rfl) ?_
  refine S_getR (n := 86) (C := RX12) (T := TX12) (N := 89) hx hb hg iX12 hown hK hW kd_66 rfl 34 (lt_b rfl) (hg (Cond.fieldLink RX12 72 "SlabWalkModel" "nSlips" "[I") m1348) (fun _ h9 => h9) rfl dX12_readSlip_5 ?_
  refine ic_0 hx hb dX12_readSlip_8 ?_
  refine lv_aload_n hx hb dX12_readSlip_9 rfl (lv_at hl 0 rfl) ?_
  refine ic_0 hx hb dX12_readSlip_10 ?_
  refine lv_bipush (v := 9) hx hb dX12_readSlip_11 (by decide) ?_
  have qc_6 : (0 : Int32).toInt = 0 := rfl
  have qc_7 : (9 : Int32).toInt = 9 := rfl
  have b_8 : 0 ≤ (G.1 66 2).toInt ∧ (G.1 66 2).toInt ≤ 4 := bd_66_2 hB_G
  have g_9 : (G_2.1 66 2).toInt = (G.1 66 2).toInt := (congrArg Int32.toInt (show G_2.1 66 2 = (G.1 66 2) from (hq_3.i9 66 2 rfl rfl)))
  have b_10 : 0 ≤ (G_2.1 66 4).toInt ∧ (G_2.1 66 4).toInt ≤ 1600 := bd_66_4 hB_G_2
  refine S_calli (va_runV (As := [.int 0, .int 9]) (rest := [.int 0, .ref (a 86)]) ⟨hx, hb, hml, hown, hts⟩ (n_told l D k A a z G_2 0 9 ) (cwV 2 hts (gd_V hgd m1682 m1684 m62 m131 m1685) rfl rfl rfl hd_X12_toldNumber ⟨Nat.le_of_ble_eq_true rfl, Nat.le_of_ble_eq_true rfl⟩) (pre_W hW hB_G_2 hK hZ hS kd_66 rfl) rfl rfl hl.1 rfl (lv_room (Nat.le_of_ble_eq_true rfl)) dX12_readSlip_13 ⟨Nat.le_of_ble_eq_true rfl, Nat.le_of_ble_eq_true rfl⟩) hS (fun r_11 G_12 H locs hpo hW hS => ?_)
  have hX_15 : Q_told 0 9 G_2 r_11 G_12 := hpo
  obtain ⟨hB_G_12, hq_13, ⟨d_3, d_4, d_5, d_6⟩, -⟩ := hpo
  have hF := hF.call9 hq_13 rfl rfl
  refine S_iast hx hb hK hW hS kd_86 (vin (by decide) (by decide)) dX12_readSlip_16 (fun G_16 H locs eG_16 hW hS => ?_)
  have hB_G_16 : Bd G_16 := hB_G_12.put (lo := (-2147483648)) (hi := 2147483647) eG_16 rfl rfl rfl (tI_rng _).1 (tI_rng _).2 (hB_G_12.2.put eG_16 rfl)
  have hF := hF.put eG_16 (Or.inl (by decide))
  refine lv_aload_n hx hb dX12_readSlip_17 rfl (lv_at hl 0 rfl) ?_
  refine S_getR (n := 86) (C := RX12) (T := TX12) (N := 89) hx hb hg iX12 hown hK hW kd_66 rfl 34 (lt_b rfl) (hg (Cond.fieldLink RX12 72 "SlabWalkModel" "nSlips" "[I") m1348) (fun _ h9 => h9) rfl dX12_readSlip_18 ?_
  refine ic_1 hx hb dX12_readSlip_21 ?_
  refine lv_aload_n hx hb dX12_readSlip_22 rfl (lv_at hl 0 rfl) ?_
  refine ic_0 hx hb dX12_readSlip_23 ?_
  refine lv_bipush (v := 9) hx hb dX12_readSlip_24 (by decide) ?_
  have qc_17 : (0 : Int32).toInt = 0 := rfl
  have qc_18 : (9 : Int32).toInt = 9 := rfl
  have b_19 : 0 ≤ (G_12.1 66 2).toInt ∧ (G_12.1 66 2).toInt ≤ 4 := bd_66_2 hB_G_12
  have g_20 : (G_16.1 66 2).toInt = (G_12.1 66 2).toInt := (congrArg Int32.toInt (show G_16.1 66 2 = (G_12.1 66 2) from (gp_ne eG_16 (fun q => absurd q.1 (Nat.ne_of_beq_eq_false rfl)))))
  have b_21 : 0 ≤ (G_12.1 66 4).toInt ∧ (G_12.1 66 4).toInt ≤ 1600 := bd_66_4 hB_G_12
  have g_22 : (G_16.1 66 4).toInt = (G_12.1 66 4).toInt := (congrArg Int32.toInt (show G_16.1 66 4 = (G_12.1 66 4) from (gp_ne eG_16 (fun q => absurd q.1 (Nat.ne_of_beq_eq_false rfl)))))
  have g_23 : (G_16.1 66 6).toInt = (G_12.1 66 6).toInt := (congrArg Int32.toInt (show G_16.1 66 6 = (G_12.1 66 6) from (gp_ne eG_16 (fun q => absurd q.1 (Nat.ne_of_beq_eq_false rfl)))))
  refine S_calli (va_runV (As := [.int 0, .int 9]) (rest := [.int 1, .ref (a 86)]) ⟨hx, hb, hml, hown, hts⟩ (n_told l D k A a z G_16 0 9 ) (cwV 2 hts (gd_V hgd m1682 m1684 m62 m131 m1685) rfl rfl rfl hd_X12_toldNumber ⟨Nat.le_of_ble_eq_true rfl, Nat.le_of_ble_eq_true rfl⟩) (pre_W hW hB_G_16 hK hZ hS kd_66 rfl) rfl rfl hl.1 rfl (lv_room (Nat.le_of_ble_eq_true rfl)) dX12_readSlip_26 ⟨Nat.le_of_ble_eq_true rfl, Nat.le_of_ble_eq_true rfl⟩) hS (fun r_24 G_25 H locs hpo hW hS => ?_)
  have hX_28 : Q_told 0 9 G_16 r_24 G_25 := hpo
  obtain ⟨hB_G_25, hq_26, ⟨d_7, d_8, d_9, d_10⟩, -⟩ := hpo
  have hF := hF.call9 hq_26 rfl rfl
  refine S_iast hx hb hK hW hS kd_86 (vin (by decide) (by decide)) dX12_readSlip_29 (fun G_29 H locs eG_29 hW hS => ?_)
  have hB_G_29 : Bd G_29 := hB_G_25.put (lo := (-2147483648)) (hi := 2147483647) eG_29 rfl rfl rfl (tI_rng _).1 (tI_rng _).2 (hB_G_25.2.put eG_29 rfl)
  have hF := hF.put eG_29 (Or.inl (by decide))
  refine lv_aload_n hx hb dX12_readSlip_30 rfl (lv_at hl 0 rfl) ?_
  refine S_getR (n := 86) (C := RX12) (T := TX12) (N := 89) hx hb hg iX12 hown hK hW kd_66 rfl 34 (lt_b rfl) (hg (Cond.fieldLink RX12 72 "SlabWalkModel" "nSlips" "[I") m1348) (fun _ h9 => h9) rfl dX12_readSlip_31 ?_
  refine ic_2 hx hb dX12_readSlip_34 ?_
  refine lv_aload_n hx hb dX12_readSlip_35 rfl (lv_at hl 0 rfl) ?_
  refine lv_aload_n hx hb dX12_readSlip_36 rfl (lv_at hl 0 rfl) ?_
  refine S_getR (n := 86) (C := RX12) (T := TX12) (N := 89) hx hb hg iX12 hown hK hW kd_66 rfl 34 (lt_b rfl) (hg (Cond.fieldLink RX12 72 "SlabWalkModel" "nSlips" "[I") m1348) (fun _ h9 => h9) rfl dX12_readSlip_37 ?_
  refine ic_0 hx hb dX12_readSlip_40 ?_
  refine S_iald hx hb hK hW kd_86 (vin (by decide) (by decide)) dX12_readSlip_41 (fun y_30 ey_30 => ?_)
  have u_31 : y_30.toInt = r_11.toInt := congrArg Int32.toInt (ey_30.trans (((gp_ne eG_29 (fun q => absurd q.2 (Nat.ne_of_beq_eq_false rfl))).trans ((hq_26.i9 86 0 rfl rfl).trans (gp_eq eG_16)))))
  refine lv_aload_n hx hb dX12_readSlip_42 rfl (lv_at hl 0 rfl) ?_
  refine S_getR (n := 86) (C := RX12) (T := TX12) (N := 89) hx hb hg iX12 hown hK hW kd_66 rfl 34 (lt_b rfl) (hg (Cond.fieldLink RX12 72 "SlabWalkModel" "nSlips" "[I") m1348) (fun _ h9 => h9) rfl dX12_readSlip_43 ?_
  refine ic_1 hx hb dX12_readSlip_46 ?_
  refine S_iald hx hb hK hW kd_86 (vin (by decide) (by decide)) dX12_readSlip_47 (fun y_32 ey_32 => ?_)
  have u_33 : y_32.toInt = r_24.toInt := congrArg Int32.toInt (ey_32.trans ((gp_eq eG_29)))
  refine lv_iadd hx hb dX12_readSlip_48 ?_
  refine lv_topi (fun y_34 ey_34 => ?_)
  have u_35 := xI_addC ey_34
  refine lv_if_ne (tgt := 56) hx hb dX12_readSlip_49 rfl (fun c_36 => ?_) (fun c_36 => ?_)
  · have c_36 : y_34.toInt ≠ 0 := xI_ne rfl rfl c_36
    refine ic_0 hx hb dX12_readSlip_56 ?_
    refine lv_bipush (v := 9) hx hb dX12_readSlip_57 (by decide) ?_
    have qc_37 : (0 : Int32).toInt = 0 := rfl
    have qc_38 : (9 : Int32).toInt = 9 := rfl
    have b_39 : 0 ≤ (G_25.1 66 2).toInt ∧ (G_25.1 66 2).toInt ≤ 4 := bd_66_2 hB_G_25
    have g_40 : (G_29.1 66 2).toInt = (G_25.1 66 2).toInt := (congrArg Int32.toInt (show G_29.1 66 2 = (G_25.1 66 2) from (gp_ne eG_29 (fun q => absurd q.1 (Nat.ne_of_beq_eq_false rfl)))))
    have b_41 : 0 ≤ (G_25.1 66 4).toInt ∧ (G_25.1 66 4).toInt ≤ 1600 := bd_66_4 hB_G_25
    have g_42 : (G_29.1 66 4).toInt = (G_25.1 66 4).toInt := (congrArg Int32.toInt (show G_29.1 66 4 = (G_25.1 66 4) from (gp_ne eG_29 (fun q => absurd q.1 (Nat.ne_of_beq_eq_false rfl)))))
    have g_43 : (G_29.1 66 6).toInt = (G_25.1 66 6).toInt := (congrArg Int32.toInt (show G_29.1 66 6 = (G_25.1 66 6) from (gp_ne eG_29 (fun q => absurd q.1 (Nat.ne_of_beq_eq_false rfl)))))
    refine S_calli (va_runV (As := [.int 0, .int 9]) (rest := [.int 2, .ref (a 86)]) ⟨hx, hb, hml, hown, hts⟩ (n_told l D k A a z G_29 0 9 ) (cwV 2 hts (gd_V hgd m1682 m1684 m62 m131 m1685) rfl rfl rfl hd_X12_toldNumber ⟨Nat.le_of_ble_eq_true rfl, Nat.le_of_ble_eq_true rfl⟩) (pre_W hW hB_G_29 hK hZ hS kd_66 rfl) rfl rfl hl.1 rfl (lv_room (Nat.le_of_ble_eq_true rfl)) dX12_readSlip_59 ⟨Nat.le_of_ble_eq_true rfl, Nat.le_of_ble_eq_true rfl⟩) hS (fun r_44 G_45 H locs hpo hW hS => ?_)
    have hX_48 : Q_told 0 9 G_29 r_44 G_45 := hpo
    obtain ⟨hB_G_45, hq_46, ⟨d_11, d_12, d_13, d_14⟩, -⟩ := hpo
    have hF := hF.call9 hq_46 rfl rfl
    refine S_iast hx hb hK hW hS kd_86 (vin (by decide) (by decide)) dX12_readSlip_62 (fun G_49 H locs eG_49 hW hS => ?_)
    have hB_G_49 : Bd G_49 := hB_G_45.put (lo := (-2147483648)) (hi := 2147483647) eG_49 rfl rfl rfl (tI_rng _).1 (tI_rng _).2 (hB_G_45.2.put eG_49 rfl)
    have hF := hF.put eG_49 (Or.inl (by decide))
    have b_50 : 0 ≤ (G_45.1 66 2).toInt ∧ (G_45.1 66 2).toInt ≤ 4 := bd_66_2 hB_G_45
    have g_51 : (G_49.1 66 2).toInt = (G_45.1 66 2).toInt := (congrArg Int32.toInt (show G_49.1 66 2 = (G_45.1 66 2) from (gp_ne eG_49 (fun q => absurd q.1 (Nat.ne_of_beq_eq_false rfl)))))
    have b_52 : 0 ≤ (G_45.1 66 4).toInt ∧ (G_45.1 66 4).toInt ≤ 1600 := bd_66_4 hB_G_45
    have g_53 : (G_49.1 66 4).toInt = (G_45.1 66 4).toInt := (congrArg Int32.toInt (show G_49.1 66 4 = (G_45.1 66 4) from (gp_ne eG_49 (fun q => absurd q.1 (Nat.ne_of_beq_eq_false rfl)))))
    have g_54 : (G_49.1 66 6).toInt = (G_45.1 66 6).toInt := (congrArg Int32.toInt (show G_49.1 66 6 = (G_45.1 66 6) from (gp_ne eG_49 (fun q => absurd q.1 (Nat.ne_of_beq_eq_false rfl)))))
    have g_55 : (G_49.1 86 0).toInt = y_30.toInt := (congrArg Int32.toInt (show G_49.1 86 0 = y_30 from ((gp_ne eG_49 (fun q => absurd q.2 (Nat.ne_of_beq_eq_false rfl))).trans ((hq_46.i9 86 0 rfl rfl).trans (ey_30.symm)))))
    have g_56 : (G_49.1 86 1).toInt = y_32.toInt := (congrArg Int32.toInt (show G_49.1 86 1 = y_32 from ((gp_ne eG_49 (fun q => absurd q.2 (Nat.ne_of_beq_eq_false rfl))).trans ((hq_46.i9 86 1 rfl rfl).trans (ey_32.symm)))))
    have g_57 : (G_49.1 86 2).toInt = r_44.toInt := (congrArg Int32.toInt (show G_49.1 86 2 = r_44 from (gp_eq eG_49)))
    exact W.vret hx hb hr (fun t ht _ => ⟨⟨G_49, rfl, (Q_readSlip_mk ⟨hB_G_49, hF, ((by first | exact ⟨((by first | (clear hnf b_8 g_9 d_5 d_6 b_19 g_20 b_21 d_9 d_10 u_31 u_33 u_35 c_36 b_39 g_40 d_13 d_14 b_50 g_51 g_55 g_56 g_57; omega) | omega)), ⟨(fun h9 => by have q0_ := d_2 (by first | (clear hnf d_2 b_8 g_9 d_4 d_5 d_6 b_19 g_20 g_23 d_8 d_9 d_10 u_31 u_33 u_35 c_36 b_39 g_40 g_43 d_12 d_13 d_14 b_50 g_51 g_54 g_55 g_56 g_57; omega) | omega); have q1_ := d_4 (by first | (clear hnf d_2 b_8 g_9 d_4 d_5 d_6 b_19 g_20 g_23 d_8 d_9 d_10 u_31 u_33 u_35 c_36 b_39 g_40 g_43 d_12 d_13 d_14 b_50 g_51 g_54 g_55 g_56 g_57; omega) | omega); have q2_ := d_8 (by first | (clear hnf d_2 b_8 g_9 d_4 d_5 d_6 b_19 g_20 g_23 d_8 d_9 d_10 u_31 u_33 u_35 c_36 b_39 g_40 g_43 d_12 d_13 d_14 b_50 g_51 g_54 g_55 g_56 g_57; omega) | omega); have r1_ : (G_12.1 66 6).toInt = (G.1 66 6).toInt ∨ (G_12.1 66 6).toInt ≤ 3 := (by (first | (clear hnf d_1 d_2 b_8 g_9 b_10 d_3 d_4 d_5 d_6 b_19 g_20 b_21 g_22 d_7 d_8 d_9 d_10 u_31 u_33 u_35 c_36 b_39 g_40 b_41 g_42 d_11 d_12 d_13 d_14 b_50 g_51 b_52 g_53 g_55 g_56 g_57; omega) | omega)); clear q1_ q0_; have q3_ := d_12 (by first | (clear hnf d_2 b_8 g_9 d_4 d_5 d_6 b_19 g_20 g_23 d_8 d_9 d_10 u_31 u_33 u_35 c_36 b_39 g_40 g_43 d_12 d_13 d_14 b_50 g_51 g_54 g_55 g_56 g_57; omega) | omega); have r2_ : (G_25.1 66 6).toInt = (G.1 66 6).toInt ∨ (G_25.1 66 6).toInt ≤ 3 := (by (first | (clear hnf d_1 d_2 b_8 g_9 b_10 d_3 d_4 d_5 d_6 b_19 g_20 b_21 g_22 d_7 d_8 d_9 d_10 u_31 u_33 u_35 c_36 b_39 g_40 b_41 g_42 d_11 d_12 d_13 d_14 b_50 g_51 b_52 g_53 g_55 g_56 g_57; omega) | omega)); clear q2_ r1_; (first | (clear hnf d_1 d_2 b_8 g_9 b_10 d_3 d_4 d_5 d_6 b_19 g_20 b_21 g_22 d_7 d_8 d_9 d_10 u_31 u_33 u_35 c_36 b_39 g_40 b_41 g_42 d_11 d_12 d_13 d_14 b_50 g_51 b_52 g_53 g_55 g_56 g_57; omega) | omega)), (fun h9 => ⟨((by first | (clear d_1 d_2 b_8 b_10 d_3 d_4 b_21 g_22 g_23 d_7 d_8 u_35 c_36 b_41 g_42 g_43 d_11 d_12 b_52 g_53 g_54; omega) | omega)), ⟨((by first | (clear d_1 d_2 b_8 b_10 d_3 d_4 b_21 g_22 g_23 d_7 d_8 u_35 c_36 b_41 g_42 g_43 d_11 d_12 b_52 g_53 g_54; omega) | omega)), ⟨((by first | (clear hnf d_1 d_2 b_8 g_9 b_10 d_3 d_4 d_5 d_6 b_19 b_21 g_22 g_23 d_7 d_8 u_31 u_35 c_36 b_41 g_42 g_43 d_11 d_12 b_52 g_53 g_54 g_55; omega) | omega)), ⟨((by first | (clear hnf d_1 d_2 b_8 g_9 b_10 d_3 d_4 d_5 d_6 b_19 b_21 g_22 g_23 d_7 d_8 u_31 u_35 c_36 b_41 g_42 g_43 d_11 d_12 b_52 g_53 g_54 g_55; omega) | omega)), ⟨((by first | (clear hnf d_1 d_2 b_8 g_9 b_10 d_3 d_4 d_5 d_6 b_19 b_21 g_22 g_23 d_7 d_8 u_31 u_35 c_36 b_41 g_42 g_43 d_11 d_12 b_52 g_53 g_54 g_55; omega) | omega)), ⟨((by first | (clear hnf d_1 d_2 b_8 g_9 b_10 d_3 d_4 d_5 d_6 b_19 b_21 g_22 g_23 d_7 d_8 u_31 u_35 c_36 b_41 g_42 g_43 d_11 d_12 b_52 g_53 g_54 g_55; omega) | omega)), ((by first | (clear d_1 d_2 b_8 b_10 d_3 d_4 b_21 g_22 g_23 d_7 d_8 u_35 c_36 b_41 g_42 g_43 d_11 d_12 b_52 g_53 g_54; omega) | omega))⟩⟩⟩⟩⟩⟩)⟩⟩ | omega)), ⟨G_2, hX_5, ⟨r_11, G_12, hX_15, ⟨G_16, hB_G_16, (Fr.put (rs := [86]) (fs := []) Fr.rf eG_16 (Or.inl (by decide))), rw_ast eG_16, ⟨r_24, G_25, hX_28, ⟨y_30, ey_30.trans (congrFun (rw_ast eG_29) _), ⟨y_32, ey_32.trans (congrFun (rw_ast eG_29) _), ⟨y_34, ey_34, (Or.inr ⟨c_36, ⟨G_29, hB_G_29, (Fr.put (rs := [86]) (fs := []) Fr.rf eG_29 (Or.inl (by decide))), rw_ast eG_29, ⟨r_44, G_45, hX_48, ⟨(Fr.put (rs := [86]) (fs := []) Fr.rf eG_49 (Or.inl (by decide))), rw_ast eG_49⟩⟩⟩⟩)⟩⟩⟩⟩⟩⟩⟩⟩), wd_t ht hW⟩, hS.F ht⟩) hS.2.2 dX12_readSlip_63
  · have c_36 : y_34.toInt = 0 := xI_eq rfl rfl c_36
    refine ic_1 hx hb dX12_readSlip_52 ?_
    refine lv_goto (tgt := 57) hx hb dX12_readSlip_53 rfl ?_
    refine lv_bipush (v := 9) hx hb dX12_readSlip_57 (by decide) ?_
    have qc_58 : (1 : Int32).toInt = 1 := rfl
    have qc_59 : (9 : Int32).toInt = 9 := rfl
    have b_60 : 0 ≤ (G_25.1 66 2).toInt ∧ (G_25.1 66 2).toInt ≤ 4 := bd_66_2 hB_G_25
    have g_61 : (G_29.1 66 2).toInt = (G_25.1 66 2).toInt := (congrArg Int32.toInt (show G_29.1 66 2 = (G_25.1 66 2) from (gp_ne eG_29 (fun q => absurd q.1 (Nat.ne_of_beq_eq_false rfl)))))
    have b_62 : 0 ≤ (G_25.1 66 4).toInt ∧ (G_25.1 66 4).toInt ≤ 1600 := bd_66_4 hB_G_25
    have g_63 : (G_29.1 66 4).toInt = (G_25.1 66 4).toInt := (congrArg Int32.toInt (show G_29.1 66 4 = (G_25.1 66 4) from (gp_ne eG_29 (fun q => absurd q.1 (Nat.ne_of_beq_eq_false rfl)))))
    have g_64 : (G_29.1 66 6).toInt = (G_25.1 66 6).toInt := (congrArg Int32.toInt (show G_29.1 66 6 = (G_25.1 66 6) from (gp_ne eG_29 (fun q => absurd q.1 (Nat.ne_of_beq_eq_false rfl)))))
    refine S_calli (va_runV (As := [.int 1, .int 9]) (rest := [.int 2, .ref (a 86)]) ⟨hx, hb, hml, hown, hts⟩ (n_told l D k A a z G_29 1 9 ) (cwV 2 hts (gd_V hgd m1682 m1684 m62 m131 m1685) rfl rfl rfl hd_X12_toldNumber ⟨Nat.le_of_ble_eq_true rfl, Nat.le_of_ble_eq_true rfl⟩) (pre_W hW hB_G_29 hK hZ hS kd_66 rfl) rfl rfl hl.1 rfl (lv_room (Nat.le_of_ble_eq_true rfl)) dX12_readSlip_59 ⟨Nat.le_of_ble_eq_true rfl, Nat.le_of_ble_eq_true rfl⟩) hS (fun r_65 G_66 H locs hpo hW hS => ?_)
    have hX_69 : Q_told 1 9 G_29 r_65 G_66 := hpo
    obtain ⟨hB_G_66, hq_67, ⟨d_15, d_16, d_17, d_18⟩, -⟩ := hpo
    have hF := hF.call9 hq_67 rfl rfl
    refine S_iast hx hb hK hW hS kd_86 (vin (by decide) (by decide)) dX12_readSlip_62 (fun G_70 H locs eG_70 hW hS => ?_)
    have hB_G_70 : Bd G_70 := hB_G_66.put (lo := (-2147483648)) (hi := 2147483647) eG_70 rfl rfl rfl (tI_rng _).1 (tI_rng _).2 (hB_G_66.2.put eG_70 rfl)
    have hF := hF.put eG_70 (Or.inl (by decide))
    have b_71 : 0 ≤ (G_66.1 66 2).toInt ∧ (G_66.1 66 2).toInt ≤ 4 := bd_66_2 hB_G_66
    have g_72 : (G_70.1 66 2).toInt = (G_66.1 66 2).toInt := (congrArg Int32.toInt (show G_70.1 66 2 = (G_66.1 66 2) from (gp_ne eG_70 (fun q => absurd q.1 (Nat.ne_of_beq_eq_false rfl)))))
    have b_73 : 0 ≤ (G_66.1 66 4).toInt ∧ (G_66.1 66 4).toInt ≤ 1600 := bd_66_4 hB_G_66
    have g_74 : (G_70.1 66 4).toInt = (G_66.1 66 4).toInt := (congrArg Int32.toInt (show G_70.1 66 4 = (G_66.1 66 4) from (gp_ne eG_70 (fun q => absurd q.1 (Nat.ne_of_beq_eq_false rfl)))))
    have g_75 : (G_70.1 66 6).toInt = (G_66.1 66 6).toInt := (congrArg Int32.toInt (show G_70.1 66 6 = (G_66.1 66 6) from (gp_ne eG_70 (fun q => absurd q.1 (Nat.ne_of_beq_eq_false rfl)))))
    have g_76 : (G_70.1 86 0).toInt = y_30.toInt := (congrArg Int32.toInt (show G_70.1 86 0 = y_30 from ((gp_ne eG_70 (fun q => absurd q.2 (Nat.ne_of_beq_eq_false rfl))).trans ((hq_67.i9 86 0 rfl rfl).trans (ey_30.symm)))))
    have g_77 : (G_70.1 86 1).toInt = y_32.toInt := (congrArg Int32.toInt (show G_70.1 86 1 = y_32 from ((gp_ne eG_70 (fun q => absurd q.2 (Nat.ne_of_beq_eq_false rfl))).trans ((hq_67.i9 86 1 rfl rfl).trans (ey_32.symm)))))
    have g_78 : (G_70.1 86 2).toInt = r_65.toInt := (congrArg Int32.toInt (show G_70.1 86 2 = r_65 from (gp_eq eG_70)))
    exact W.vret hx hb hr (fun t ht _ => ⟨⟨G_70, rfl, (Q_readSlip_mk ⟨hB_G_70, hF, ((by first | exact ⟨((by first | (clear hnf b_8 g_9 d_5 d_6 b_19 g_20 b_21 d_9 d_10 u_31 u_33 u_35 c_36 b_60 g_61 d_17 d_18 b_71 g_72 g_76 g_77 g_78; omega) | omega)), ⟨(fun h9 => by have q0_ := d_2 (by first | (clear hnf d_2 b_8 g_9 d_4 d_5 d_6 b_19 g_20 g_23 d_8 d_9 d_10 u_31 u_33 u_35 c_36 b_60 g_61 g_64 d_16 d_17 d_18 b_71 g_72 g_75 g_76 g_77 g_78; omega) | omega); have q1_ := d_4 (by first | (clear hnf d_2 b_8 g_9 d_4 d_5 d_6 b_19 g_20 g_23 d_8 d_9 d_10 u_31 u_33 u_35 c_36 b_60 g_61 g_64 d_16 d_17 d_18 b_71 g_72 g_75 g_76 g_77 g_78; omega) | omega); have q2_ := d_8 (by first | (clear hnf d_2 b_8 g_9 d_4 d_5 d_6 b_19 g_20 g_23 d_8 d_9 d_10 u_31 u_33 u_35 c_36 b_60 g_61 g_64 d_16 d_17 d_18 b_71 g_72 g_75 g_76 g_77 g_78; omega) | omega); have r1_ : (G_12.1 66 6).toInt = (G.1 66 6).toInt ∨ (G_12.1 66 6).toInt ≤ 3 := (by (first | (clear hnf d_1 d_2 b_8 g_9 b_10 d_3 d_4 d_5 d_6 b_19 g_20 b_21 g_22 d_7 d_8 d_9 d_10 u_31 u_33 u_35 c_36 b_60 g_61 b_62 g_63 d_15 d_16 d_17 d_18 b_71 g_72 b_73 g_74 g_76 g_77 g_78; omega) | omega)); clear q1_ q0_; have q3_ := d_16 (by first | (clear hnf d_2 b_8 g_9 d_4 d_5 d_6 b_19 g_20 g_23 d_8 d_9 d_10 u_31 u_33 u_35 c_36 b_60 g_61 g_64 d_16 d_17 d_18 b_71 g_72 g_75 g_76 g_77 g_78; omega) | omega); have r2_ : (G_25.1 66 6).toInt = (G.1 66 6).toInt ∨ (G_25.1 66 6).toInt ≤ 3 := (by (first | (clear hnf d_1 d_2 b_8 g_9 b_10 d_3 d_4 d_5 d_6 b_19 g_20 b_21 g_22 d_7 d_8 d_9 d_10 u_31 u_33 u_35 c_36 b_60 g_61 b_62 g_63 d_15 d_16 d_17 d_18 b_71 g_72 b_73 g_74 g_76 g_77 g_78; omega) | omega)); clear q2_ r1_; (first | (clear hnf d_1 d_2 b_8 g_9 b_10 d_3 d_4 d_5 d_6 b_19 g_20 b_21 g_22 d_7 d_8 d_9 d_10 u_31 u_33 u_35 c_36 b_60 g_61 b_62 g_63 d_15 d_16 d_17 d_18 b_71 g_72 b_73 g_74 g_76 g_77 g_78; omega) | omega)), (fun h9 => ⟨((by first | (clear d_1 d_2 b_8 b_10 d_3 d_4 b_21 g_22 g_23 d_7 d_8 u_35 c_36 b_62 g_63 g_64 d_15 d_16 b_73 g_74 g_75; omega) | omega)), ⟨((by first | (clear d_1 d_2 b_8 b_10 d_3 d_4 b_21 g_22 g_23 d_7 d_8 u_35 c_36 b_62 g_63 g_64 d_15 d_16 b_73 g_74 g_75; omega) | omega)), ⟨((by first | (clear hnf d_1 d_2 b_8 g_9 b_10 d_3 d_4 d_5 d_6 b_19 b_21 g_22 g_23 d_7 d_8 u_31 u_35 c_36 b_62 g_63 g_64 d_15 d_16 b_73 g_74 g_75 g_76; omega) | omega)), ⟨((by first | (clear hnf d_1 d_2 b_8 g_9 b_10 d_3 d_4 d_5 d_6 b_19 b_21 g_22 g_23 d_7 d_8 u_31 u_35 c_36 b_62 g_63 g_64 d_15 d_16 b_73 g_74 g_75 g_76; omega) | omega)), ⟨((by first | (clear hnf d_1 d_2 b_8 g_9 b_10 d_3 d_4 d_5 d_6 b_19 b_21 g_22 g_23 d_7 d_8 u_31 u_35 c_36 b_62 g_63 g_64 d_15 d_16 b_73 g_74 g_75 g_76; omega) | omega)), ⟨((by first | (clear hnf d_1 d_2 b_8 g_9 b_10 d_3 d_4 d_5 d_6 b_19 b_21 g_22 g_23 d_7 d_8 u_31 u_35 c_36 b_62 g_63 g_64 d_15 d_16 b_73 g_74 g_75 g_76; omega) | omega)), ((by first | (clear d_1 d_2 b_8 b_10 d_3 d_4 b_21 g_22 g_23 d_7 d_8 u_35 c_36 b_62 g_63 g_64 d_15 d_16 b_73 g_74 g_75; omega) | omega))⟩⟩⟩⟩⟩⟩)⟩⟩ | omega)), ⟨G_2, hX_5, ⟨r_11, G_12, hX_15, ⟨G_16, hB_G_16, (Fr.put (rs := [86]) (fs := []) Fr.rf eG_16 (Or.inl (by decide))), rw_ast eG_16, ⟨r_24, G_25, hX_28, ⟨y_30, ey_30.trans (congrFun (rw_ast eG_29) _), ⟨y_32, ey_32.trans (congrFun (rw_ast eG_29) _), ⟨y_34, ey_34, (Or.inl ⟨c_36, ⟨G_29, hB_G_29, (Fr.put (rs := [86]) (fs := []) Fr.rf eG_29 (Or.inl (by decide))), rw_ast eG_29, ⟨r_65, G_66, hX_69, ⟨(Fr.put (rs := [86]) (fs := []) Fr.rf eG_70 (Or.inl (by decide))), rw_ast eG_70⟩⟩⟩⟩)⟩⟩⟩⟩⟩⟩⟩⟩), wd_t ht hW⟩, hS.F ht⟩) hS.2.2 dX12_readSlip_63

set_option maxHeartbeats 4000000 in
set_option maxRecDepth 100000 in
theorem n_isOnce (l : Launch) (D : va_G) (k : KT) (A : Nat → Prop) (a : Nat → Nat) (z : SK) (G : GS) (p0 : Int64) (p1 : Int32)  : Met l yX12_isOnce (WS yX12_isOnce cX12_isOnce 4 (some .boolean)) ({ frames := 1, cells := 0, slots := 0, locals := 22 }) (va_Pc [.ref (a 66), .long p0, .int p1] (cW D k A a z G)) (va_Qi (fun (r : Int32) (G1 : GS) => Q_isOnce p0 p1 G r G1) (fun (G1 : GS) t => Wd D k A a G1 t.heap) A) 0 0 A := by
  refine Met.ofW (cc := cX12_isOnce) (maxL := 4) (ret := (some .boolean)) (by decide) rfl ?_
  intro p e s m args below meth c s₁ B hml hv
  obtain ⟨rfl, hW, hB_G, hK, hZ⟩ := hv
  have hx := B.exec
  have hb := B.bytes
  have hr := B.returns
  have hts := atoms_spec (ws := WS yX12_isOnce cX12_isOnce 4 (some .boolean)) B.pre
  have hgd : ∀ w ∈ gd, w ∈ WS yX12_isOnce cX12_isOnce 4 (some .boolean) := fun w h => List.mem_cons_of_mem _ h
  have hg : ∀ w ∈ gd, w.before _ s = true := fun w h => hts w (hgd w h)
  have hown : s.vm.findClass RX12 = some m.cls := findClass_of_methodNamed B.named
  have hS : va_S A s.heap s.heap [] := va_S.rf
  have hF : Fr [] [] G G := Fr.rf
  have hl := lv_entry ([.ref (a 66), .long p0, .int p1]) (n := 4) (Nat.le_of_ble_eq_true rfl)
  rw [lg_entry_eq]
  generalize (lg_sl ([.ref (a 66), .long p0, .int p1]) ++ List.replicate (4 - (lg_sl ([.ref (a 66), .long p0, .int p1])).length) Slot.unset).toArray = ls at hl ⊢
  have hl : lv_has ls 4 [(0, .ref (a 66)), (1, .long p0), (3, .int p1)] := hl
  refine lv_aload_n hx hb dX12_isOnce_0 rfl (lv_at hl 0 rfl) ?_
  refine lv_lload_n hx hb dX12_isOnce_1 rfl (lv_at hl 1 rfl) ?_
  refine S_calli (va_runV (As := [.long p0]) (rest := []) ⟨hx, hb, hml, hown, hts⟩ (n_isWord l D k A a z G p0 ) (cwV 1 hts (gd_V hgd m1624 m1626 m53 m131 m1627) rfl rfl rfl hd_X12_isWord ⟨Nat.le_of_ble_eq_true rfl, Nat.le_of_ble_eq_true rfl⟩) (pre_W hW hB_G hK hZ hS kd_66 rfl) rfl rfl hl.1 rfl (lv_room (Nat.le_of_ble_eq_true rfl)) dX12_isOnce_2 ⟨Nat.le_of_ble_eq_true rfl, Nat.le_of_ble_eq_true rfl⟩) hS (fun r_1 G_2 H locs hpo hW hS => ?_)
  have hX_5 : Q_isWord p0 G r_1 G_2 := hpo
  obtain ⟨hB_G_2, hq_3, f_6, hp_4, -⟩ := hpo
  have hF := hF.call9 hq_3 rfl rfl
  refine lv_if_eq (tgt := 21) hx hb dX12_isOnce_5 rfl (fun c_7 => ?_) (fun c_7 => ?_)
  · have c_7 : r_1.toInt = 0 := xI_eq rfl rfl c_7
    refine ic_0 hx hb dX12_isOnce_21 ?_
    exact W.zret (v := 0) hx hb hr (by decide) (fun t ht _ => ⟨⟨0, G_2, rfl, (Q_isOnce_mk ⟨hB_G_2, hF, ⟨by decide, by decide⟩, (by have hq : (0 : Int32).toInt = 0 := rfl; (try dsimp only); omega), ⟨r_1, G_2, hX_5, (Or.inl ⟨c_7, ⟨rfl, rfl⟩⟩)⟩⟩), wd_t ht hW⟩, hS.F ht⟩) hS.2.2 dX12_isOnce_22
  · have c_7 : r_1.toInt ≠ 0 := xI_ne rfl rfl c_7
    refine lv_aload_n hx hb dX12_isOnce_8 rfl (lv_at hl 0 rfl) ?_
    refine S_getI (v := (G.1 66 51)) (C := RX12) (T := TX12) (N := 89) hx hb hg iX12 hown hK hW kd_66 rfl 51 (lt_b rfl) (hg (Cond.fieldLink RX12 391 "SlabWalkModel" "nOnce" "I") m1365) (fun _ h9 => h9) rfl (hq_3.i9 66 51 rfl rfl) dX12_isOnce_9 ?_
    refine lv_iload_n hx hb dX12_isOnce_12 rfl (lv_at hl 2 rfl) ?_
    refine lv_iand hx hb dX12_isOnce_13 ?_
    refine lv_topi (fun y_8 ey_8 => ?_)
    refine lv_if_ne (tgt := 21) hx hb dX12_isOnce_14 rfl (fun c_9 => ?_) (fun c_9 => ?_)
    · have c_9 : y_8.toInt ≠ 0 := xI_ne rfl rfl c_9
      refine ic_0 hx hb dX12_isOnce_21 ?_
      exact W.zret (v := 0) hx hb hr (by decide) (fun t ht _ => ⟨⟨0, G_2, rfl, (Q_isOnce_mk ⟨hB_G_2, hF, ⟨by decide, by decide⟩, (by have hq : (0 : Int32).toInt = 0 := rfl; (try dsimp only); omega), ⟨r_1, G_2, hX_5, (Or.inr ⟨c_7, ⟨y_8, ey_8, (Or.inr ⟨c_9, ⟨rfl, rfl⟩⟩)⟩⟩)⟩⟩), wd_t ht hW⟩, hS.F ht⟩) hS.2.2 dX12_isOnce_22
    · have c_9 : y_8.toInt = 0 := xI_eq rfl rfl c_9
      refine ic_1 hx hb dX12_isOnce_17 ?_
      refine lv_goto (tgt := 22) hx hb dX12_isOnce_18 rfl ?_
      exact W.zret (v := 1) hx hb hr (by decide) (fun t ht _ => ⟨⟨1, G_2, rfl, (Q_isOnce_mk ⟨hB_G_2, hF, ⟨by decide, by decide⟩, (by have hq : (1 : Int32).toInt = 1 := rfl; (try dsimp only); omega), ⟨r_1, G_2, hX_5, (Or.inr ⟨c_7, ⟨y_8, ey_8, (Or.inl ⟨c_9, ⟨rfl, rfl⟩⟩)⟩⟩)⟩⟩), wd_t ht hW⟩, hS.F ht⟩) hS.2.2 dX12_isOnce_22

set_option maxHeartbeats 4000000 in
set_option maxRecDepth 100000 in
theorem n_readLine (l : Launch) (D : va_G) (k : KT) (A : Nat → Prop) (a : Nat → Nat) (z : SK) (G : GS)  (hnf : (G.1 66 2).toInt = 0) (hE9 : gE G = 1) (hN9 : gN G = 1) (hS9 : 0 ≤ (G.1 86 0).toInt ∧ (G.1 86 0).toInt ≤ 9 ∧ 0 ≤ (G.1 86 1).toInt ∧ (G.1 86 1).toInt ≤ 9 ∧ 0 ≤ (G.1 86 2).toInt ∧ (G.1 86 2).toInt ≤ 9 ∧ 1 ≤ (G.1 86 0).toInt + (G.1 86 1).toInt + (G.1 86 2).toInt) : Met l yX12_readLine (WS yX12_readLine cX12_readLine 1 none) ({ frames := 6, cells := 0, slots := 0, locals := 129 }) (va_Pc [.ref (a 66)] (cW D k A a z G)) (va_Qv (fun (G1 : GS) => Q_readLine G G1) (fun (G1 : GS) t => Wd D k A a G1 t.heap) A) 0 0 A := by
  refine Met.ofW (cc := cX12_readLine) (maxL := 1) (ret := none) (by decide) rfl ?_
  intro p e s m args below meth c s₁ B hml hv
  obtain ⟨rfl, hW, hB_G, hK, hZ⟩ := hv
  have hx := B.exec
  have hb := B.bytes
  have hr := B.returns
  have hts := atoms_spec (ws := WS yX12_readLine cX12_readLine 1 none) B.pre
  have hgd : ∀ w ∈ gd, w ∈ WS yX12_readLine cX12_readLine 1 none := fun w h => List.mem_cons_of_mem _ h
  have hg : ∀ w ∈ gd, w.before _ s = true := fun w h => hts w (hgd w h)
  have hown : s.vm.findClass RX12 = some m.cls := findClass_of_methodNamed B.named
  have hS : va_S A s.heap s.heap [] := va_S.rf
  have hF : Fr [68, 69, 70, 71, 75, 77, 78, 79, 80, 81, 82, 83, 84, 85, 86] [(66, 2), (66, 3), (66, 4), (66, 6), (66, 7), (66, 8), (66, 9), (66, 19), (66, 20), (66, 21), (66, 23), (66, 24), (66, 45), (66, 46), (66, 47), (66, 48), (66, 49), (66, 50), (66, 51)] G G := Fr.rf
  have hl := lv_entry ([.ref (a 66)]) (n := 1) (Nat.le_of_ble_eq_true rfl)
  rw [lg_entry_eq]
  generalize (lg_sl ([.ref (a 66)]) ++ List.replicate (1 - (lg_sl ([.ref (a 66)])).length) Slot.unset).toArray = ls at hl ⊢
  have hl : lv_has ls 1 [(0, .ref (a 66))] := hl
  refine lv_aload_n hx hb dX12_readLine_0 rfl (lv_at hl 0 rfl) ?_
  refine lv_ldc2 (v := 126943972648308) hx hb hown (hg (Cond.constantLong RX12 221 126943972648308) m1623) dX12_readLine_1 ?_
  refine S_calli (va_runV (As := [.long 126943972648308]) (rest := []) ⟨hx, hb, hml, hown, hts⟩ (n_isWord l D k A a z G 126943972648308 ) (cwV 1 hts (gd_V hgd m1624 m1626 m53 m131 m1627) rfl rfl rfl hd_X12_isWord ⟨Nat.le_of_ble_eq_true rfl, Nat.le_of_ble_eq_true rfl⟩) (pre_W hW hB_G hK hZ hS kd_66 rfl) rfl rfl hl.1 rfl (lv_room (Nat.le_of_ble_eq_true rfl)) dX12_readLine_4 ⟨Nat.le_of_ble_eq_true rfl, Nat.le_of_ble_eq_true rfl⟩) hS (fun r_1 G_2 H locs hpo hW hS => ?_)
  have hX_5 : Q_isWord 126943972648308 G r_1 G_2 := hpo
  obtain ⟨hB_G_2, hq_3, f_6, hp_4, -⟩ := hpo
  have hF := hF.call9 hq_3 rfl rfl
  refine W.cut (σ := Unit) (pcJ := 25) (J := fun y H locs ls => ∃ (G_8 : GS), Jn_n_readLine_1 r_1 G G_2 G_8 ∧ Wd D k A a G_8 H ∧ Bd G_8 ∧ Fr [68, 69, 70, 71, 75, 77, 78, 79, 80, 81, 82, 83, 84, 85, 86] [(66, 2), (66, 3), (66, 4), (66, 6), (66, 7), (66, 8), (66, 9), (66, 19), (66, 20), (66, 21), (66, 23), (66, 24), (66, 45), (66, 46), (66, 47), (66, 48), (66, 49), (66, 50), (66, 51)] G G_8 ∧ Fr [] [] G_2 G_8 ∧ va_S A s.heap H locs ∧ lv_has ls 1 [(0, .ref (a 66))]) (stJ := fun _ => []) ?_ (fun hJ_9 => ?_)
  · intro y H locs ls hI
    obtain ⟨G_8, hX_11, hW, hB_G_8, hF, hq_10, hS, hl⟩ := hI
    refine lv_aload_n hx hb dX12_readLine_25 rfl (lv_at hl 0 rfl) ?_
    refine lv_ldc2 (v := 131260314510706) hx hb hown (hg (Cond.constantLong RX12 225 131260314510706) m1645) dX12_readLine_26 ?_
    have g_12 : (G_8.1 66 6).toInt = (G.1 66 6).toInt := (congrArg Int32.toInt (show G_8.1 66 6 = (G.1 66 6) from ((hq_10.i9 66 6 rfl rfl).trans (hq_3.i9 66 6 rfl rfl))))
    refine S_calli (va_runV (As := [.long 131260314510706]) (rest := []) ⟨hx, hb, hml, hown, hts⟩ (n_isWord l D k A a z G_8 131260314510706 ) (cwV 1 hts (gd_V hgd m1624 m1626 m53 m131 m1627) rfl rfl rfl hd_X12_isWord ⟨Nat.le_of_ble_eq_true rfl, Nat.le_of_ble_eq_true rfl⟩) (pre_W hW hB_G_8 hK hZ hS kd_66 rfl) rfl rfl hl.1 rfl (lv_room (Nat.le_of_ble_eq_true rfl)) dX12_readLine_29 ⟨Nat.le_of_ble_eq_true rfl, Nat.le_of_ble_eq_true rfl⟩) hS (fun r_13 G_14 H locs hpo hW hS => ?_)
    have hX_17 : Q_isWord 131260314510706 G_8 r_13 G_14 := hpo
    obtain ⟨hB_G_14, hq_15, f_18, hp_16, -⟩ := hpo
    have hF := hF.call9 hq_15 rfl rfl
    refine W.cut (σ := Unit) (pcJ := 50) (J := fun y H locs ls => ∃ (G_20 : GS), Jn_n_readLine_2 r_13 G G_14 G_20 ∧ Wd D k A a G_20 H ∧ Bd G_20 ∧ Fr [68, 69, 70, 71, 75, 77, 78, 79, 80, 81, 82, 83, 84, 85, 86] [(66, 2), (66, 3), (66, 4), (66, 6), (66, 7), (66, 8), (66, 9), (66, 19), (66, 20), (66, 21), (66, 23), (66, 24), (66, 45), (66, 46), (66, 47), (66, 48), (66, 49), (66, 50), (66, 51)] G G_20 ∧ Fr [] [] G_14 G_20 ∧ va_S A s.heap H locs ∧ lv_has ls 1 [(0, .ref (a 66))]) (stJ := fun _ => []) ?_ (fun hJ_21 => ?_)
    · intro y H locs ls hI
      obtain ⟨G_20, hX_23, hW, hB_G_20, hF, hq_22, hS, hl⟩ := hI
      refine lv_aload_n hx hb dX12_readLine_50 rfl (lv_at hl 0 rfl) ?_
      refine lv_ldc2 (v := 1920298085) hx hb hown (hg (Cond.constantLong RX12 235 1920298085) m1650) dX12_readLine_51 ?_
      have g_24 : (G_20.1 66 6).toInt = (G.1 66 6).toInt := (congrArg Int32.toInt (show G_20.1 66 6 = (G.1 66 6) from ((hq_22.i9 66 6 rfl rfl).trans ((hq_15.i9 66 6 rfl rfl).trans ((hq_10.i9 66 6 rfl rfl).trans ((hq_3.i9 66 6 rfl rfl).trans (rfl)))))))
      refine S_calli (va_runV (As := [.long 1920298085]) (rest := []) ⟨hx, hb, hml, hown, hts⟩ (n_isWord l D k A a z G_20 1920298085 ) (cwV 1 hts (gd_V hgd m1624 m1626 m53 m131 m1627) rfl rfl rfl hd_X12_isWord ⟨Nat.le_of_ble_eq_true rfl, Nat.le_of_ble_eq_true rfl⟩) (pre_W hW hB_G_20 hK hZ hS kd_66 rfl) rfl rfl hl.1 rfl (lv_room (Nat.le_of_ble_eq_true rfl)) dX12_readLine_54 ⟨Nat.le_of_ble_eq_true rfl, Nat.le_of_ble_eq_true rfl⟩) hS (fun r_25 G_26 H locs hpo hW hS => ?_)
      have hX_29 : Q_isWord 1920298085 G_20 r_25 G_26 := hpo
      obtain ⟨hB_G_26, hq_27, f_30, hp_28, -⟩ := hpo
      have hF := hF.call9 hq_27 rfl rfl
      refine W.cut (σ := Unit) (pcJ := 76) (J := fun y H locs ls => ∃ (G_32 : GS), Jn_n_readLine_3 r_25 G G_26 G_32 ∧ Wd D k A a G_32 H ∧ Bd G_32 ∧ Fr [68, 69, 70, 71, 75, 77, 78, 79, 80, 81, 82, 83, 84, 85, 86] [(66, 2), (66, 3), (66, 4), (66, 6), (66, 7), (66, 8), (66, 9), (66, 19), (66, 20), (66, 21), (66, 23), (66, 24), (66, 45), (66, 46), (66, 47), (66, 48), (66, 49), (66, 50), (66, 51)] G G_32 ∧ Fr [] [] G_26 G_32 ∧ va_S A s.heap H locs ∧ lv_has ls 1 [(0, .ref (a 66))]) (stJ := fun _ => []) ?_ (fun hJ_33 => ?_)
      · intro y H locs ls hI
        obtain ⟨G_32, hX_35, hW, hB_G_32, hF, hq_34, hS, hl⟩ := hI
        refine lv_aload_n hx hb dX12_readLine_76 rfl (lv_at hl 0 rfl) ?_
        refine lv_ldc2 (v := 1936484720) hx hb hown (hg (Cond.constantLong RX12 237 1936484720) m1651) dX12_readLine_77 ?_
        refine ic_1 hx hb dX12_readLine_80 ?_
        have qc_36 : (1 : Int32).toInt = 1 := rfl
        have g_37 : (G_32.1 66 6).toInt = (G.1 66 6).toInt := (congrArg Int32.toInt (show G_32.1 66 6 = (G.1 66 6) from ((hq_34.i9 66 6 rfl rfl).trans ((hq_27.i9 66 6 rfl rfl).trans ((hq_22.i9 66 6 rfl rfl).trans ((hq_15.i9 66 6 rfl rfl).trans ((hq_10.i9 66 6 rfl rfl).trans ((hq_3.i9 66 6 rfl rfl).trans (rfl)))))))))
        refine S_calli (va_runV (As := [.long 1936484720, .int 1]) (rest := []) ⟨hx, hb, hml, hown, hts⟩ (n_isOnce l D k A a z G_32 1936484720 1 ) (cwV 2 hts (gd_V hgd m1761 m1763 m81 m131 m1764) rfl rfl rfl hd_X12_isOnce ⟨Nat.le_of_ble_eq_true rfl, Nat.le_of_ble_eq_true rfl⟩) (pre_W hW hB_G_32 hK hZ hS kd_66 rfl) rfl rfl hl.1 rfl (lv_room (Nat.le_of_ble_eq_true rfl)) dX12_readLine_81 ⟨Nat.le_of_ble_eq_true rfl, Nat.le_of_ble_eq_true rfl⟩) hS (fun r_38 G_39 H locs hpo hW hS => ?_)
        have hX_42 : Q_isOnce 1936484720 1 G_32 r_38 G_39 := hpo
        obtain ⟨hB_G_39, hq_40, f_43, hp_41, -⟩ := hpo
        have hF := hF.call9 hq_40 rfl rfl
        refine W.cut (σ := Unit) (pcJ := 200) (J := fun y H locs ls => ∃ (G_45 : GS), ((G.1 66 4).toInt ≤ (G_45.1 66 4).toInt ∧ ((G_45.1 66 4).toInt = (G.1 66 4).toInt → (G_45.1 66 6).toInt = (G.1 66 6).toInt ∨ (G_45.1 66 6).toInt ≤ 3)) ∧ ((G_45.1 66 2).toInt = 0 → (G.1 66 6).toInt = 1 ∧ gE G_45 = 1 ∧ gN G_45 = 1 ∧ 0 ≤ (G_45.1 86 0).toInt ∧ (G_45.1 86 0).toInt ≤ 9 ∧ 0 ≤ (G_45.1 86 1).toInt ∧ (G_45.1 86 1).toInt ≤ 9 ∧ 0 ≤ (G_45.1 86 2).toInt ∧ (G_45.1 86 2).toInt ≤ 9 ∧ 1 ≤ (G_45.1 86 0).toInt + (G_45.1 86 1).toInt + (G_45.1 86 2).toInt) ∧ Jn_n_readLine_4 r_38 G G_39 G_45 ∧ Wd D k A a G_45 H ∧ Bd G_45 ∧ Fr [68, 69, 70, 71, 75, 77, 78, 79, 80, 81, 82, 83, 84, 85, 86] [(66, 2), (66, 3), (66, 4), (66, 6), (66, 7), (66, 8), (66, 9), (66, 19), (66, 20), (66, 21), (66, 23), (66, 24), (66, 45), (66, 46), (66, 47), (66, 48), (66, 49), (66, 50), (66, 51)] G G_45 ∧ Fr [86] [(66, 2), (66, 3), (66, 4), (66, 6), (66, 7), (66, 8), (66, 9), (66, 48), (66, 49), (66, 50), (66, 51)] G_39 G_45 ∧ va_S A s.heap H locs ∧ lv_has ls 1 [(0, .ref (a 66))]) (stJ := fun _ => []) ?_ (fun hJ_46 => ?_)
        · intro y H locs ls hI
          obtain ⟨G_45, f_49, f_50, hX_48, hW, hB_G_45, hF, hq_47, hS, hl⟩ := hI
          have d_1 := f_49.1
          have d_2 := f_49.2
          have b_51 : 0 ≤ (G_45.1 66 4).toInt ∧ (G_45.1 66 4).toInt ≤ 1600 := bd_66_4 hB_G_45
          have fr_52 : Fr [86] [(66, 2), (66, 3), (66, 4), (66, 6), (66, 7), (66, 8), (66, 9), (66, 48), (66, 49), (66, 50), (66, 51)] G G_45 := (Fr.call9 (rs := [86]) (fs := [(66, 2), (66, 3), (66, 4), (66, 6), (66, 7), (66, 8), (66, 9), (66, 48), (66, 49), (66, 50), (66, 51)]) (Fr.call9 (rs := [86]) (fs := [(66, 2), (66, 3), (66, 4), (66, 6), (66, 7), (66, 8), (66, 9), (66, 48), (66, 49), (66, 50), (66, 51)]) (Fr.call9 (rs := [86]) (fs := [(66, 2), (66, 3), (66, 4), (66, 6), (66, 7), (66, 8), (66, 9), (66, 48), (66, 49), (66, 50), (66, 51)]) (Fr.call9 (rs := [86]) (fs := [(66, 2), (66, 3), (66, 4), (66, 6), (66, 7), (66, 8), (66, 9), (66, 48), (66, 49), (66, 50), (66, 51)]) (Fr.call9 (rs := [86]) (fs := [(66, 2), (66, 3), (66, 4), (66, 6), (66, 7), (66, 8), (66, 9), (66, 48), (66, 49), (66, 50), (66, 51)]) (Fr.call9 (rs := [86]) (fs := [(66, 2), (66, 3), (66, 4), (66, 6), (66, 7), (66, 8), (66, 9), (66, 48), (66, 49), (66, 50), (66, 51)]) (Fr.call9 (rs := [86]) (fs := [(66, 2), (66, 3), (66, 4), (66, 6), (66, 7), (66, 8), (66, 9), (66, 48), (66, 49), (66, 50), (66, 51)]) (Fr.call9 (rs := [86]) (fs := [(66, 2), (66, 3), (66, 4), (66, 6), (66, 7), (66, 8), (66, 9), (66, 48), (66, 49), (66, 50), (66, 51)]) Fr.rf hq_3 rfl rfl) hq_10 rfl rfl) hq_15 rfl rfl) hq_22 rfl rfl) hq_27 rfl rfl) hq_34 rfl rfl) hq_40 rfl rfl) hq_47 rfl rfl)
          have g_53 : gE G_45 = gE G := gE_fr fr_52 (gr_q rfl) (gf_q rfl)
          have g_54 : gN G_45 = gN G := gN_fr fr_52 (gr_q rfl) (gf_q rfl)
          have b_55 : 0 ≤ (G_45.1 66 2).toInt ∧ (G_45.1 66 2).toInt ≤ 4 := bd_66_2 hB_G_45
          refine lv_aload_n hx hb dX12_readLine_200 rfl (lv_at hl 0 rfl) ?_
          refine S_getI (v := (G_45.1 66 2)) (C := RX12) (T := TX12) (N := 89) hx hb hg iX12 hown hK hW kd_66 rfl 2 (lt_b rfl) (hg (Cond.fieldLink RX12 218 "SlabWalkModel" "fault" "I") m1316) (fun _ h9 => h9) rfl rfl dX12_readLine_201 ?_
          refine lv_if_ne (tgt := 221) hx hb dX12_readLine_204 rfl (fun c_56 => ?_) (fun c_56 => ?_)
          · have c_56 : (G_45.1 66 2).toInt ≠ 0 := xI_ne rfl rfl c_56
            refine lv_aload_n hx hb dX12_readLine_221 rfl (lv_at hl 0 rfl) ?_
            refine S_getI (v := (G_45.1 66 2)) (C := RX12) (T := TX12) (N := 89) hx hb hg iX12 hown hK hW kd_66 rfl 2 (lt_b rfl) (hg (Cond.fieldLink RX12 218 "SlabWalkModel" "fault" "I") m1316) (fun _ h9 => h9) rfl rfl dX12_readLine_222 ?_
            refine lv_if_ne (tgt := 232) hx hb dX12_readLine_225 rfl (fun c_57 => ?_) (fun c_57 => ?_)
            · have c_57 : (G_45.1 66 2).toInt ≠ 0 := xI_ne rfl rfl c_57
              exact W.vret hx hb hr (fun t ht _ => ⟨⟨G_45, rfl, (Q_readLine_mk ⟨hB_G_45, hF, ((by first | exact ⟨((by first | (clear hnf hS9 f_6 f_18 f_30 f_43 f_49 f_50 b_55 c_56 c_57; omega) | omega)), (fun h9 => ⟨((by first | (clear hnf hS9 f_6 f_18 f_30 f_43 f_49 f_50; omega) | omega)), ⟨((by first | (clear hnf hS9 f_6 f_18 f_30 f_43 f_49 f_50 d_1 b_51; omega) | omega)), ⟨((by first | (clear hnf hS9 f_6 f_18 f_30 f_43 f_49 f_50 d_1 b_51; omega) | omega)), ⟨((by first | (clear hnf hS9 f_6 f_18 f_30 f_43 f_49 f_50 d_1 b_51; omega) | omega)), ⟨((by first | (clear hnf hS9 f_6 f_18 f_30 f_43 f_49 f_50 d_1 b_51; omega) | omega)), ⟨((by first | (clear hnf hS9 f_6 f_18 f_30 f_43 f_49 f_50 d_1 b_51; omega) | omega)), ⟨((by first | (clear hnf hS9 f_6 f_18 f_30 f_43 f_49 f_50 d_1 b_51; omega) | omega)), ⟨((by first | (clear hnf hS9 f_6 f_18 f_30 f_43 f_49 f_50 d_1 b_51; omega) | omega)), ⟨((by first | (clear hnf hS9 f_6 f_18 f_30 f_43 f_49 f_50 d_1 b_51; omega) | omega)), ((by first | (clear hnf hS9 f_6 f_18 f_30 f_43 f_49 f_50 d_1 b_51; omega) | omega))⟩⟩⟩⟩⟩⟩⟩⟩⟩)⟩ | omega)), ⟨r_1, G_2, hX_5, (Or.inr ⟨G_8, hX_11, hB_G_8, hq_10, ⟨r_13, G_14, hX_17, (Or.inr ⟨G_20, hX_23, hB_G_20, hq_22, ⟨r_25, G_26, hX_29, (Or.inr ⟨G_32, hX_35, hB_G_32, hq_34, ⟨r_38, G_39, hX_42, ⟨G_45, hX_48, f_49, f_50, hB_G_45, hq_47, (Or.inr ⟨c_56, rfl⟩)⟩⟩⟩)⟩⟩)⟩⟩)⟩⟩), wd_t ht hW⟩, hS.F ht⟩) hS.2.2 dX12_readLine_232
            · have c_57 : (G_45.1 66 2).toInt = 0 := xI_eq rfl rfl c_57
              exfalso; first | (clear hnf hS9 f_6 f_18 f_30 f_43 f_49 f_50 d_1 b_51; omega) | omega
          · have c_56 : (G_45.1 66 2).toInt = 0 := xI_eq rfl rfl c_56
            have d_3 := f_50 c_56
            refine lv_aload_n hx hb dX12_readLine_207 rfl (lv_at hl 0 rfl) ?_
            refine S_getI (v := (G_45.1 66 6)) (C := RX12) (T := TX12) (N := 89) hx hb hg iX12 hown hK hW kd_66 rfl 6 (lt_b rfl) (hg (Cond.fieldLink RX12 205 "SlabWalkModel" "sort" "I") m1320) (fun _ h9 => h9) rfl rfl dX12_readLine_208 ?_
            refine lv_bipush (v := 59) hx hb dX12_readLine_211 (by decide) ?_
            refine lv_icmp_eq (tgt := 221) hx hb dX12_readLine_213 rfl (fun c_58 => ?_) (fun c_58 => ?_)
            · have c_58 : (G_45.1 66 6).toInt = 59 := xI_eq rfl rfl c_58
              refine lv_aload_n hx hb dX12_readLine_221 rfl (lv_at hl 0 rfl) ?_
              refine S_getI (v := (G_45.1 66 2)) (C := RX12) (T := TX12) (N := 89) hx hb hg iX12 hown hK hW kd_66 rfl 2 (lt_b rfl) (hg (Cond.fieldLink RX12 218 "SlabWalkModel" "fault" "I") m1316) (fun _ h9 => h9) rfl rfl dX12_readLine_222 ?_
              refine lv_if_ne (tgt := 232) hx hb dX12_readLine_225 rfl (fun c_59 => ?_) (fun c_59 => ?_)
              · have c_59 : (G_45.1 66 2).toInt ≠ 0 := xI_ne rfl rfl c_59
                exfalso; first | (clear hnf hS9 f_6 f_18 f_30 f_43 f_49 f_50 d_1 b_51; omega) | omega
              · have c_59 : (G_45.1 66 2).toInt = 0 := xI_eq rfl rfl c_59
                refine lv_aload_n hx hb dX12_readLine_228 rfl (lv_at hl 0 rfl) ?_
                refine S_callv (va_runV (As := []) (rest := []) ⟨hx, hb, hml, hown, hts⟩ (n_token l D k A a z G_45  ) (cwV 0 hts (gd_V hgd m1602 m1604 m50 m131 m1605) rfl rfl rfl hd_X12_token ⟨Nat.le_of_ble_eq_true rfl, Nat.le_of_ble_eq_true rfl⟩) (pre_W hW hB_G_45 hK hZ hS kd_66 rfl) rfl rfl hl.1 rfl (lv_room (Nat.le_of_ble_eq_true rfl)) dX12_readLine_229 ⟨Nat.le_of_ble_eq_true rfl, Nat.le_of_ble_eq_true rfl⟩) hS (fun G_61 H locs hpo hW hS => ?_)
                have hX_64 : Q_token G_45 G_61 := hpo
                obtain ⟨hB_G_61, hq_62, ⟨d_4, d_5⟩, -⟩ := hpo
                have hF := hF.call9 hq_62 rfl rfl
                have fr_65 : Fr [86] [(66, 2), (66, 3), (66, 4), (66, 6), (66, 7), (66, 8), (66, 9), (66, 48), (66, 49), (66, 50), (66, 51)] G G_61 := (Fr.call9 (rs := [86]) (fs := [(66, 2), (66, 3), (66, 4), (66, 6), (66, 7), (66, 8), (66, 9), (66, 48), (66, 49), (66, 50), (66, 51)]) (Fr.call9 (rs := [86]) (fs := [(66, 2), (66, 3), (66, 4), (66, 6), (66, 7), (66, 8), (66, 9), (66, 48), (66, 49), (66, 50), (66, 51)]) (Fr.call9 (rs := [86]) (fs := [(66, 2), (66, 3), (66, 4), (66, 6), (66, 7), (66, 8), (66, 9), (66, 48), (66, 49), (66, 50), (66, 51)]) (Fr.call9 (rs := [86]) (fs := [(66, 2), (66, 3), (66, 4), (66, 6), (66, 7), (66, 8), (66, 9), (66, 48), (66, 49), (66, 50), (66, 51)]) (Fr.call9 (rs := [86]) (fs := [(66, 2), (66, 3), (66, 4), (66, 6), (66, 7), (66, 8), (66, 9), (66, 48), (66, 49), (66, 50), (66, 51)]) (Fr.call9 (rs := [86]) (fs := [(66, 2), (66, 3), (66, 4), (66, 6), (66, 7), (66, 8), (66, 9), (66, 48), (66, 49), (66, 50), (66, 51)]) (Fr.call9 (rs := [86]) (fs := [(66, 2), (66, 3), (66, 4), (66, 6), (66, 7), (66, 8), (66, 9), (66, 48), (66, 49), (66, 50), (66, 51)]) (Fr.call9 (rs := [86]) (fs := [(66, 2), (66, 3), (66, 4), (66, 6), (66, 7), (66, 8), (66, 9), (66, 48), (66, 49), (66, 50), (66, 51)]) (Fr.call9 (rs := [86]) (fs := [(66, 2), (66, 3), (66, 4), (66, 6), (66, 7), (66, 8), (66, 9), (66, 48), (66, 49), (66, 50), (66, 51)]) Fr.rf hq_3 rfl rfl) hq_10 rfl rfl) hq_15 rfl rfl) hq_22 rfl rfl) hq_27 rfl rfl) hq_34 rfl rfl) hq_40 rfl rfl) hq_47 rfl rfl) hq_62 rfl rfl)
                have g_66 : gE G_61 = gE G := gE_fr fr_65 (gr_q rfl) (gf_q rfl)
                have g_67 : gN G_61 = gN G := gN_fr fr_65 (gr_q rfl) (gf_q rfl)
                have g_68 : (G_61.1 66 2).toInt = (G_45.1 66 2).toInt := (congrArg Int32.toInt (show G_61.1 66 2 = (G_45.1 66 2) from ((hq_62.i9 66 2 rfl rfl).trans (rfl))))
                have b_69 : 0 ≤ (G_61.1 66 4).toInt ∧ (G_61.1 66 4).toInt ≤ 1600 := bd_66_4 hB_G_61
                have g_70 : (G_61.1 86 0).toInt = (G_45.1 86 0).toInt := (congrArg Int32.toInt (show G_61.1 86 0 = (G_45.1 86 0) from ((hq_62.i9 86 0 rfl rfl).trans (rfl))))
                have g_71 : (G_61.1 86 1).toInt = (G_45.1 86 1).toInt := (congrArg Int32.toInt (show G_61.1 86 1 = (G_45.1 86 1) from ((hq_62.i9 86 1 rfl rfl).trans (rfl))))
                have g_72 : (G_61.1 86 2).toInt = (G_45.1 86 2).toInt := (congrArg Int32.toInt (show G_61.1 86 2 = (G_45.1 86 2) from ((hq_62.i9 86 2 rfl rfl).trans (rfl))))
                exact W.vret hx hb hr (fun t ht _ => ⟨⟨G_61, rfl, (Q_readLine_mk ⟨hB_G_61, hF, ((by first | exact ⟨((by first | (clear hnf hS9 f_6 f_18 f_30 f_43 f_49 f_50 b_55; omega) | omega)), (fun h9 => ⟨((by first | (clear hnf hS9 f_6 f_18 f_30 f_43 f_49 f_50; omega) | omega)), ⟨((by first | (clear hnf hS9 f_6 f_18 f_30 f_43 f_49 f_50 d_1 b_51 d_4 d_5 b_69; omega) | omega)), ⟨((by first | (clear hnf hS9 f_6 f_18 f_30 f_43 f_49 f_50 d_1 b_51 d_4 d_5 b_69; omega) | omega)), ⟨((by first | (clear hnf hS9 f_6 f_18 f_30 f_43 f_49 f_50 d_1 b_51 d_4 d_5 b_69; omega) | omega)), ⟨((by first | (clear hnf hS9 f_6 f_18 f_30 f_43 f_49 f_50 d_1 b_51 d_4 d_5 b_69; omega) | omega)), ⟨((by first | (clear hnf hS9 f_6 f_18 f_30 f_43 f_49 f_50 d_1 b_51 d_4 d_5 b_69; omega) | omega)), ⟨((by first | (clear hnf hS9 f_6 f_18 f_30 f_43 f_49 f_50 d_1 b_51 d_4 d_5 b_69; omega) | omega)), ⟨((by first | (clear hnf hS9 f_6 f_18 f_30 f_43 f_49 f_50 d_1 b_51 d_4 d_5 b_69; omega) | omega)), ⟨((by first | (clear hnf hS9 f_6 f_18 f_30 f_43 f_49 f_50 d_1 b_51 d_4 d_5 b_69; omega) | omega)), ((by first | (clear hnf hS9 f_6 f_18 f_30 f_43 f_49 f_50 d_1 b_51 d_4 d_5 b_69; omega) | omega))⟩⟩⟩⟩⟩⟩⟩⟩⟩)⟩ | omega)), ⟨r_1, G_2, hX_5, (Or.inr ⟨G_8, hX_11, hB_G_8, hq_10, ⟨r_13, G_14, hX_17, (Or.inr ⟨G_20, hX_23, hB_G_20, hq_22, ⟨r_25, G_26, hX_29, (Or.inr ⟨G_32, hX_35, hB_G_32, hq_34, ⟨r_38, G_39, hX_42, ⟨G_45, hX_48, f_49, f_50, hB_G_45, hq_47, (Or.inl ⟨c_56, (Or.inl ⟨c_58, ⟨G_61, hX_64, rfl⟩⟩)⟩)⟩⟩⟩)⟩⟩)⟩⟩)⟩⟩), wd_t ht hW⟩, hS.F ht⟩) hS.2.2 dX12_readLine_232
            · have c_58 : (G_45.1 66 6).toInt ≠ 59 := xI_ne rfl rfl c_58
              refine lv_aload_n hx hb dX12_readLine_216 rfl (lv_at hl 0 rfl) ?_
              refine ic_2 hx hb dX12_readLine_217 ?_
              have qc_73 : (2 : Int32).toInt = 2 := rfl
              refine S_callv (va_runV (As := [.int 2]) (rest := []) ⟨hx, hb, hml, hown, hts⟩ (n_wrong l D k A a z G_45 2 ⟨by decide, by decide⟩) (cwV 1 hts (gd_V hgd m1670 m1672 m59 m131 m1673) rfl rfl rfl hd_X12_wrong ⟨Nat.le_of_ble_eq_true rfl, Nat.le_of_ble_eq_true rfl⟩) (pre_W hW hB_G_45 hK hZ hS kd_66 rfl) rfl rfl hl.1 rfl (lv_room (Nat.le_of_ble_eq_true rfl)) dX12_readLine_218 ⟨Nat.le_of_ble_eq_true rfl, Nat.le_of_ble_eq_true rfl⟩) hS (fun G_75 H locs hpo hW hS => ?_)
              have hX_78 : Q_wrong 2 G_45 G_75 := hpo
              obtain ⟨hB_G_75, hq_76, hp_77, -⟩ := hpo
              have hF := hF.call9 hq_76 rfl rfl
              refine lv_aload_n hx hb dX12_readLine_221 rfl (lv_at hl 0 rfl) ?_
              have b_79 : 0 ≤ (G_75.1 66 2).toInt ∧ (G_75.1 66 2).toInt ≤ 4 := bd_66_2 hB_G_75
              refine S_getI (v := (G_75.1 66 2)) (C := RX12) (T := TX12) (N := 89) hx hb hg iX12 hown hK hW kd_66 rfl 2 (lt_b rfl) (hg (Cond.fieldLink RX12 218 "SlabWalkModel" "fault" "I") m1316) (fun _ h9 => h9) rfl rfl dX12_readLine_222 ?_
              refine lv_if_ne (tgt := 232) hx hb dX12_readLine_225 rfl (fun c_80 => ?_) (fun c_80 => ?_)
              · have c_80 : (G_75.1 66 2).toInt ≠ 0 := xI_ne rfl rfl c_80
                have fr_81 : Fr [86] [(66, 2), (66, 3), (66, 4), (66, 6), (66, 7), (66, 8), (66, 9), (66, 48), (66, 49), (66, 50), (66, 51)] G G_75 := (Fr.call9 (rs := [86]) (fs := [(66, 2), (66, 3), (66, 4), (66, 6), (66, 7), (66, 8), (66, 9), (66, 48), (66, 49), (66, 50), (66, 51)]) (Fr.call9 (rs := [86]) (fs := [(66, 2), (66, 3), (66, 4), (66, 6), (66, 7), (66, 8), (66, 9), (66, 48), (66, 49), (66, 50), (66, 51)]) (Fr.call9 (rs := [86]) (fs := [(66, 2), (66, 3), (66, 4), (66, 6), (66, 7), (66, 8), (66, 9), (66, 48), (66, 49), (66, 50), (66, 51)]) (Fr.call9 (rs := [86]) (fs := [(66, 2), (66, 3), (66, 4), (66, 6), (66, 7), (66, 8), (66, 9), (66, 48), (66, 49), (66, 50), (66, 51)]) (Fr.call9 (rs := [86]) (fs := [(66, 2), (66, 3), (66, 4), (66, 6), (66, 7), (66, 8), (66, 9), (66, 48), (66, 49), (66, 50), (66, 51)]) (Fr.call9 (rs := [86]) (fs := [(66, 2), (66, 3), (66, 4), (66, 6), (66, 7), (66, 8), (66, 9), (66, 48), (66, 49), (66, 50), (66, 51)]) (Fr.call9 (rs := [86]) (fs := [(66, 2), (66, 3), (66, 4), (66, 6), (66, 7), (66, 8), (66, 9), (66, 48), (66, 49), (66, 50), (66, 51)]) (Fr.call9 (rs := [86]) (fs := [(66, 2), (66, 3), (66, 4), (66, 6), (66, 7), (66, 8), (66, 9), (66, 48), (66, 49), (66, 50), (66, 51)]) (Fr.call9 (rs := [86]) (fs := [(66, 2), (66, 3), (66, 4), (66, 6), (66, 7), (66, 8), (66, 9), (66, 48), (66, 49), (66, 50), (66, 51)]) Fr.rf hq_3 rfl rfl) hq_10 rfl rfl) hq_15 rfl rfl) hq_22 rfl rfl) hq_27 rfl rfl) hq_34 rfl rfl) hq_40 rfl rfl) hq_47 rfl rfl) hq_76 rfl rfl)
                have g_82 : gE G_75 = gE G := gE_fr fr_81 (gr_q rfl) (gf_q rfl)
                have g_83 : gN G_75 = gN G := gN_fr fr_81 (gr_q rfl) (gf_q rfl)
                have g_84 : (G_75.1 66 4).toInt = (G_45.1 66 4).toInt := (congrArg Int32.toInt (show G_75.1 66 4 = (G_45.1 66 4) from ((hq_76.i9 66 4 rfl rfl).trans (rfl))))
                have g_85 : (G_75.1 86 0).toInt = (G_45.1 86 0).toInt := (congrArg Int32.toInt (show G_75.1 86 0 = (G_45.1 86 0) from ((hq_76.i9 86 0 rfl rfl).trans (rfl))))
                have g_86 : (G_75.1 86 1).toInt = (G_45.1 86 1).toInt := (congrArg Int32.toInt (show G_75.1 86 1 = (G_45.1 86 1) from ((hq_76.i9 86 1 rfl rfl).trans (rfl))))
                have g_87 : (G_75.1 86 2).toInt = (G_45.1 86 2).toInt := (congrArg Int32.toInt (show G_75.1 86 2 = (G_45.1 86 2) from ((hq_76.i9 86 2 rfl rfl).trans (rfl))))
                exact W.vret hx hb hr (fun t ht _ => ⟨⟨G_75, rfl, (Q_readLine_mk ⟨hB_G_75, hF, ((by first | exact ⟨((by first | (clear hnf hS9 f_6 f_18 f_30 f_43 f_49 f_50 b_55 hp_77 b_79 c_80; omega) | omega)), (fun h9 => ⟨((by first | (clear hnf hS9 f_6 f_18 f_30 f_43 f_49 f_50 b_55; omega) | omega)), ⟨((by first | (clear hnf hS9 f_6 f_18 f_30 f_43 f_49 f_50 d_1 b_51 c_58; omega) | omega)), ⟨((by first | (clear hnf hS9 f_6 f_18 f_30 f_43 f_49 f_50 d_1 b_51 c_58; omega) | omega)), ⟨((by first | (clear hnf hS9 f_6 f_18 f_30 f_43 f_49 f_50 d_1 b_51 c_58; omega) | omega)), ⟨((by first | (clear hnf hS9 f_6 f_18 f_30 f_43 f_49 f_50 d_1 b_51 c_58; omega) | omega)), ⟨((by first | (clear hnf hS9 f_6 f_18 f_30 f_43 f_49 f_50 d_1 b_51 c_58; omega) | omega)), ⟨((by first | (clear hnf hS9 f_6 f_18 f_30 f_43 f_49 f_50 d_1 b_51 c_58; omega) | omega)), ⟨((by first | (clear hnf hS9 f_6 f_18 f_30 f_43 f_49 f_50 d_1 b_51 c_58; omega) | omega)), ⟨((by first | (clear hnf hS9 f_6 f_18 f_30 f_43 f_49 f_50 d_1 b_51 c_58; omega) | omega)), ((by first | (clear hnf hS9 f_6 f_18 f_30 f_43 f_49 f_50 d_1 b_51 c_58; omega) | omega))⟩⟩⟩⟩⟩⟩⟩⟩⟩)⟩ | omega)), ⟨r_1, G_2, hX_5, (Or.inr ⟨G_8, hX_11, hB_G_8, hq_10, ⟨r_13, G_14, hX_17, (Or.inr ⟨G_20, hX_23, hB_G_20, hq_22, ⟨r_25, G_26, hX_29, (Or.inr ⟨G_32, hX_35, hB_G_32, hq_34, ⟨r_38, G_39, hX_42, ⟨G_45, hX_48, f_49, f_50, hB_G_45, hq_47, (Or.inl ⟨c_56, (Or.inr ⟨c_58, ⟨G_75, hX_78, (Or.inr ⟨c_80, rfl⟩)⟩⟩)⟩)⟩⟩⟩)⟩⟩)⟩⟩)⟩⟩), wd_t ht hW⟩, hS.F ht⟩) hS.2.2 dX12_readLine_232
              · have c_80 : (G_75.1 66 2).toInt = 0 := xI_eq rfl rfl c_80
                refine lv_aload_n hx hb dX12_readLine_228 rfl (lv_at hl 0 rfl) ?_
                have g_88 : (G_75.1 66 4).toInt = (G_45.1 66 4).toInt := (congrArg Int32.toInt (show G_75.1 66 4 = (G_45.1 66 4) from ((hq_76.i9 66 4 rfl rfl).trans (rfl))))
                have g_89 : (G_75.1 66 6).toInt = (G_45.1 66 6).toInt := (congrArg Int32.toInt (show G_75.1 66 6 = (G_45.1 66 6) from ((hq_76.i9 66 6 rfl rfl).trans (rfl))))
                refine S_callv (va_runV (As := []) (rest := []) ⟨hx, hb, hml, hown, hts⟩ (n_token l D k A a z G_75  ) (cwV 0 hts (gd_V hgd m1602 m1604 m50 m131 m1605) rfl rfl rfl hd_X12_token ⟨Nat.le_of_ble_eq_true rfl, Nat.le_of_ble_eq_true rfl⟩) (pre_W hW hB_G_75 hK hZ hS kd_66 rfl) rfl rfl hl.1 rfl (lv_room (Nat.le_of_ble_eq_true rfl)) dX12_readLine_229 ⟨Nat.le_of_ble_eq_true rfl, Nat.le_of_ble_eq_true rfl⟩) hS (fun G_91 H locs hpo hW hS => ?_)
                have hX_94 : Q_token G_75 G_91 := hpo
                obtain ⟨hB_G_91, hq_92, ⟨d_6, d_7⟩, -⟩ := hpo
                have hF := hF.call9 hq_92 rfl rfl
                have fr_95 : Fr [86] [(66, 2), (66, 3), (66, 4), (66, 6), (66, 7), (66, 8), (66, 9), (66, 48), (66, 49), (66, 50), (66, 51)] G G_91 := (Fr.call9 (rs := [86]) (fs := [(66, 2), (66, 3), (66, 4), (66, 6), (66, 7), (66, 8), (66, 9), (66, 48), (66, 49), (66, 50), (66, 51)]) (Fr.call9 (rs := [86]) (fs := [(66, 2), (66, 3), (66, 4), (66, 6), (66, 7), (66, 8), (66, 9), (66, 48), (66, 49), (66, 50), (66, 51)]) (Fr.call9 (rs := [86]) (fs := [(66, 2), (66, 3), (66, 4), (66, 6), (66, 7), (66, 8), (66, 9), (66, 48), (66, 49), (66, 50), (66, 51)]) (Fr.call9 (rs := [86]) (fs := [(66, 2), (66, 3), (66, 4), (66, 6), (66, 7), (66, 8), (66, 9), (66, 48), (66, 49), (66, 50), (66, 51)]) (Fr.call9 (rs := [86]) (fs := [(66, 2), (66, 3), (66, 4), (66, 6), (66, 7), (66, 8), (66, 9), (66, 48), (66, 49), (66, 50), (66, 51)]) (Fr.call9 (rs := [86]) (fs := [(66, 2), (66, 3), (66, 4), (66, 6), (66, 7), (66, 8), (66, 9), (66, 48), (66, 49), (66, 50), (66, 51)]) (Fr.call9 (rs := [86]) (fs := [(66, 2), (66, 3), (66, 4), (66, 6), (66, 7), (66, 8), (66, 9), (66, 48), (66, 49), (66, 50), (66, 51)]) (Fr.call9 (rs := [86]) (fs := [(66, 2), (66, 3), (66, 4), (66, 6), (66, 7), (66, 8), (66, 9), (66, 48), (66, 49), (66, 50), (66, 51)]) (Fr.call9 (rs := [86]) (fs := [(66, 2), (66, 3), (66, 4), (66, 6), (66, 7), (66, 8), (66, 9), (66, 48), (66, 49), (66, 50), (66, 51)]) (Fr.call9 (rs := [86]) (fs := [(66, 2), (66, 3), (66, 4), (66, 6), (66, 7), (66, 8), (66, 9), (66, 48), (66, 49), (66, 50), (66, 51)]) Fr.rf hq_3 rfl rfl) hq_10 rfl rfl) hq_15 rfl rfl) hq_22 rfl rfl) hq_27 rfl rfl) hq_34 rfl rfl) hq_40 rfl rfl) hq_47 rfl rfl) hq_76 rfl rfl) hq_92 rfl rfl)
                have g_96 : gE G_91 = gE G := gE_fr fr_95 (gr_q rfl) (gf_q rfl)
                have g_97 : gN G_91 = gN G := gN_fr fr_95 (gr_q rfl) (gf_q rfl)
                have g_98 : (G_91.1 66 2).toInt = (G_75.1 66 2).toInt := (congrArg Int32.toInt (show G_91.1 66 2 = (G_75.1 66 2) from ((hq_92.i9 66 2 rfl rfl).trans (rfl))))
                have b_99 : 0 ≤ (G_91.1 66 4).toInt ∧ (G_91.1 66 4).toInt ≤ 1600 := bd_66_4 hB_G_91
                have g_100 : (G_91.1 86 0).toInt = (G_45.1 86 0).toInt := (congrArg Int32.toInt (show G_91.1 86 0 = (G_45.1 86 0) from ((hq_92.i9 86 0 rfl rfl).trans ((hq_76.i9 86 0 rfl rfl).trans (rfl)))))
                have g_101 : (G_91.1 86 1).toInt = (G_45.1 86 1).toInt := (congrArg Int32.toInt (show G_91.1 86 1 = (G_45.1 86 1) from ((hq_92.i9 86 1 rfl rfl).trans ((hq_76.i9 86 1 rfl rfl).trans (rfl)))))
                have g_102 : (G_91.1 86 2).toInt = (G_45.1 86 2).toInt := (congrArg Int32.toInt (show G_91.1 86 2 = (G_45.1 86 2) from ((hq_92.i9 86 2 rfl rfl).trans ((hq_76.i9 86 2 rfl rfl).trans (rfl)))))
                exact W.vret hx hb hr (fun t ht _ => ⟨⟨G_91, rfl, (Q_readLine_mk ⟨hB_G_91, hF, ((by first | exact ⟨((by first | (clear hnf hS9 f_6 f_18 f_30 f_43 f_49 f_50 b_55 hp_77 b_79 c_80 g_98; omega) | omega)), (fun h9 => ⟨((by first | (clear hnf hS9 f_6 f_18 f_30 f_43 f_49 f_50 b_55; omega) | omega)), ⟨((by first | (clear hnf hS9 f_6 f_18 f_30 f_43 f_49 f_50 d_1 b_51 c_58 d_6 d_7 b_99; omega) | omega)), ⟨((by first | (clear hnf hS9 f_6 f_18 f_30 f_43 f_49 f_50 d_1 b_51 c_58 d_6 d_7 b_99; omega) | omega)), ⟨((by first | (clear hnf hS9 f_6 f_18 f_30 f_43 f_49 f_50 d_1 b_51 c_58 d_6 d_7 b_99; omega) | omega)), ⟨((by first | (clear hnf hS9 f_6 f_18 f_30 f_43 f_49 f_50 d_1 b_51 c_58 d_6 d_7 b_99; omega) | omega)), ⟨((by first | (clear hnf hS9 f_6 f_18 f_30 f_43 f_49 f_50 d_1 b_51 c_58 d_6 d_7 b_99; omega) | omega)), ⟨((by first | (clear hnf hS9 f_6 f_18 f_30 f_43 f_49 f_50 d_1 b_51 c_58 d_6 d_7 b_99; omega) | omega)), ⟨((by first | (clear hnf hS9 f_6 f_18 f_30 f_43 f_49 f_50 d_1 b_51 c_58 d_6 d_7 b_99; omega) | omega)), ⟨((by first | (clear hnf hS9 f_6 f_18 f_30 f_43 f_49 f_50 d_1 b_51 c_58 d_6 d_7 b_99; omega) | omega)), ((by first | (clear hnf hS9 f_6 f_18 f_30 f_43 f_49 f_50 d_1 b_51 c_58 d_6 d_7 b_99; omega) | omega))⟩⟩⟩⟩⟩⟩⟩⟩⟩)⟩ | omega)), ⟨r_1, G_2, hX_5, (Or.inr ⟨G_8, hX_11, hB_G_8, hq_10, ⟨r_13, G_14, hX_17, (Or.inr ⟨G_20, hX_23, hB_G_20, hq_22, ⟨r_25, G_26, hX_29, (Or.inr ⟨G_32, hX_35, hB_G_32, hq_34, ⟨r_38, G_39, hX_42, ⟨G_45, hX_48, f_49, f_50, hB_G_45, hq_47, (Or.inl ⟨c_56, (Or.inr ⟨c_58, ⟨G_75, hX_78, (Or.inl ⟨c_80, ⟨G_91, hX_94, rfl⟩⟩)⟩⟩)⟩)⟩⟩⟩)⟩⟩)⟩⟩)⟩⟩), wd_t ht hW⟩, hS.F ht⟩) hS.2.2 dX12_readLine_232
        refine lv_if_eq (tgt := 104) hx hb dX12_readLine_84 rfl (fun c_103 => ?_) (fun c_103 => ?_)
        · have c_103 : r_38.toInt = 0 := xI_eq rfl rfl c_103
          refine lv_aload_n hx hb dX12_readLine_104 rfl (lv_at hl 0 rfl) ?_
          refine lv_ldc2 (v := 1751215716) hx hb hown (hg (Cond.constantLong RX12 239 1751215716) m1652) dX12_readLine_105 ?_
          refine ic_2 hx hb dX12_readLine_108 ?_
          have qc_104 : (2 : Int32).toInt = 2 := rfl
          have g_105 : (G_39.1 66 6).toInt = (G.1 66 6).toInt := (congrArg Int32.toInt (show G_39.1 66 6 = (G.1 66 6) from ((hq_40.i9 66 6 rfl rfl).trans ((hq_34.i9 66 6 rfl rfl).trans ((hq_27.i9 66 6 rfl rfl).trans ((hq_22.i9 66 6 rfl rfl).trans ((hq_15.i9 66 6 rfl rfl).trans ((hq_10.i9 66 6 rfl rfl).trans ((hq_3.i9 66 6 rfl rfl).trans (rfl))))))))))
          refine S_calli (va_runV (As := [.long 1751215716, .int 2]) (rest := []) ⟨hx, hb, hml, hown, hts⟩ (n_isOnce l D k A a z G_39 1751215716 2 ) (cwV 2 hts (gd_V hgd m1761 m1763 m81 m131 m1764) rfl rfl rfl hd_X12_isOnce ⟨Nat.le_of_ble_eq_true rfl, Nat.le_of_ble_eq_true rfl⟩) (pre_W hW hB_G_39 hK hZ hS kd_66 rfl) rfl rfl hl.1 rfl (lv_room (Nat.le_of_ble_eq_true rfl)) dX12_readLine_109 ⟨Nat.le_of_ble_eq_true rfl, Nat.le_of_ble_eq_true rfl⟩) hS (fun r_106 G_107 H locs hpo hW hS => ?_)
          have hX_110 : Q_isOnce 1751215716 2 G_39 r_106 G_107 := hpo
          obtain ⟨hB_G_107, hq_108, f_111, hp_109, -⟩ := hpo
          have hF := hF.call9 hq_108 rfl rfl
          refine lv_if_eq (tgt := 156) hx hb dX12_readLine_112 rfl (fun c_112 => ?_) (fun c_112 => ?_)
          · have c_112 : r_106.toInt = 0 := xI_eq rfl rfl c_112
            refine lv_aload_n hx hb dX12_readLine_156 rfl (lv_at hl 0 rfl) ?_
            refine lv_ldc2 (v := 1685217655) hx hb hown (hg (Cond.constantLong RX12 243 1685217655) m1654) dX12_readLine_157 ?_
            refine ic_4 hx hb dX12_readLine_160 ?_
            have qc_113 : (4 : Int32).toInt = 4 := rfl
            have g_114 : (G_107.1 66 6).toInt = (G.1 66 6).toInt := (congrArg Int32.toInt (show G_107.1 66 6 = (G.1 66 6) from ((hq_108.i9 66 6 rfl rfl).trans ((hq_40.i9 66 6 rfl rfl).trans ((hq_34.i9 66 6 rfl rfl).trans ((hq_27.i9 66 6 rfl rfl).trans ((hq_22.i9 66 6 rfl rfl).trans ((hq_15.i9 66 6 rfl rfl).trans ((hq_10.i9 66 6 rfl rfl).trans ((hq_3.i9 66 6 rfl rfl).trans (rfl)))))))))))
            refine S_calli (va_runV (As := [.long 1685217655, .int 4]) (rest := []) ⟨hx, hb, hml, hown, hts⟩ (n_isOnce l D k A a z G_107 1685217655 4 ) (cwV 2 hts (gd_V hgd m1761 m1763 m81 m131 m1764) rfl rfl rfl hd_X12_isOnce ⟨Nat.le_of_ble_eq_true rfl, Nat.le_of_ble_eq_true rfl⟩) (pre_W hW hB_G_107 hK hZ hS kd_66 rfl) rfl rfl hl.1 rfl (lv_room (Nat.le_of_ble_eq_true rfl)) dX12_readLine_161 ⟨Nat.le_of_ble_eq_true rfl, Nat.le_of_ble_eq_true rfl⟩) hS (fun r_115 G_116 H locs hpo hW hS => ?_)
            have hX_119 : Q_isOnce 1685217655 4 G_107 r_115 G_116 := hpo
            obtain ⟨hB_G_116, hq_117, f_120, hp_118, -⟩ := hpo
            have hF := hF.call9 hq_117 rfl rfl
            refine lv_if_eq (tgt := 195) hx hb dX12_readLine_164 rfl (fun c_121 => ?_) (fun c_121 => ?_)
            · have c_121 : r_115.toInt = 0 := xI_eq rfl rfl c_121
              refine lv_aload_n hx hb dX12_readLine_195 rfl (lv_at hl 0 rfl) ?_
              refine ic_2 hx hb dX12_readLine_196 ?_
              have qc_122 : (2 : Int32).toInt = 2 := rfl
              refine S_callv (va_runV (As := [.int 2]) (rest := []) ⟨hx, hb, hml, hown, hts⟩ (n_wrong l D k A a z G_116 2 ⟨by decide, by decide⟩) (cwV 1 hts (gd_V hgd m1670 m1672 m59 m131 m1673) rfl rfl rfl hd_X12_wrong ⟨Nat.le_of_ble_eq_true rfl, Nat.le_of_ble_eq_true rfl⟩) (pre_W hW hB_G_116 hK hZ hS kd_66 rfl) rfl rfl hl.1 rfl (lv_room (Nat.le_of_ble_eq_true rfl)) dX12_readLine_197 ⟨Nat.le_of_ble_eq_true rfl, Nat.le_of_ble_eq_true rfl⟩) hS (fun G_124 H locs hpo hW hS => ?_)
              have hX_127 : Q_wrong 2 G_116 G_124 := hpo
              obtain ⟨hB_G_124, hq_125, hp_126, -⟩ := hpo
              have hF := hF.call9 hq_125 rfl rfl
              have b_128 : 0 ≤ (G.1 66 4).toInt ∧ (G.1 66 4).toInt ≤ 1600 := bd_66_4 hB_G
              have g_129 : (G_124.1 66 4).toInt = (G.1 66 4).toInt := (congrArg Int32.toInt (show G_124.1 66 4 = (G.1 66 4) from ((hq_125.i9 66 4 rfl rfl).trans ((hq_117.i9 66 4 rfl rfl).trans ((hq_108.i9 66 4 rfl rfl).trans ((hq_40.i9 66 4 rfl rfl).trans ((hq_34.i9 66 4 rfl rfl).trans ((hq_27.i9 66 4 rfl rfl).trans ((hq_22.i9 66 4 rfl rfl).trans ((hq_15.i9 66 4 rfl rfl).trans ((hq_10.i9 66 4 rfl rfl).trans (hq_3.i9 66 4 rfl rfl))))))))))))
              have g_130 : (G_124.1 66 6).toInt = (G.1 66 6).toInt := (congrArg Int32.toInt (show G_124.1 66 6 = (G.1 66 6) from ((hq_125.i9 66 6 rfl rfl).trans ((hq_117.i9 66 6 rfl rfl).trans ((hq_108.i9 66 6 rfl rfl).trans ((hq_40.i9 66 6 rfl rfl).trans ((hq_34.i9 66 6 rfl rfl).trans ((hq_27.i9 66 6 rfl rfl).trans ((hq_22.i9 66 6 rfl rfl).trans ((hq_15.i9 66 6 rfl rfl).trans ((hq_10.i9 66 6 rfl rfl).trans ((hq_3.i9 66 6 rfl rfl).trans (rfl)))))))))))))
              have fr_131 : Fr [] [(66, 2), (66, 3)] G G_124 := (Fr.call9 (rs := []) (fs := [(66, 2), (66, 3)]) (Fr.call9 (rs := []) (fs := [(66, 2), (66, 3)]) (Fr.call9 (rs := []) (fs := [(66, 2), (66, 3)]) (Fr.call9 (rs := []) (fs := [(66, 2), (66, 3)]) (Fr.call9 (rs := []) (fs := [(66, 2), (66, 3)]) (Fr.call9 (rs := []) (fs := [(66, 2), (66, 3)]) (Fr.call9 (rs := []) (fs := [(66, 2), (66, 3)]) (Fr.call9 (rs := []) (fs := [(66, 2), (66, 3)]) (Fr.call9 (rs := []) (fs := [(66, 2), (66, 3)]) (Fr.call9 (rs := []) (fs := [(66, 2), (66, 3)]) Fr.rf hq_3 rfl rfl) hq_10 rfl rfl) hq_15 rfl rfl) hq_22 rfl rfl) hq_27 rfl rfl) hq_34 rfl rfl) hq_40 rfl rfl) hq_108 rfl rfl) hq_117 rfl rfl) hq_125 rfl rfl)
              have g_132 : gE G_124 = gE G := gE_fr fr_131 (gr_q rfl) (gf_q rfl)
              have g_133 : gN G_124 = gN G := gN_fr fr_131 (gr_q rfl) (gf_q rfl)
              have b_134 : 0 ≤ (G_124.1 66 2).toInt ∧ (G_124.1 66 2).toInt ≤ 4 := bd_66_2 hB_G_124
              have g_135 : (G_124.1 86 0).toInt = (G.1 86 0).toInt := (congrArg Int32.toInt (show G_124.1 86 0 = (G.1 86 0) from ((hq_125.i9 86 0 rfl rfl).trans ((hq_117.i9 86 0 rfl rfl).trans ((hq_108.i9 86 0 rfl rfl).trans ((hq_40.i9 86 0 rfl rfl).trans ((hq_34.i9 86 0 rfl rfl).trans ((hq_27.i9 86 0 rfl rfl).trans ((hq_22.i9 86 0 rfl rfl).trans ((hq_15.i9 86 0 rfl rfl).trans ((hq_10.i9 86 0 rfl rfl).trans (hq_3.i9 86 0 rfl rfl))))))))))))
              have g_136 : (G_124.1 86 1).toInt = (G.1 86 1).toInt := (congrArg Int32.toInt (show G_124.1 86 1 = (G.1 86 1) from ((hq_125.i9 86 1 rfl rfl).trans ((hq_117.i9 86 1 rfl rfl).trans ((hq_108.i9 86 1 rfl rfl).trans ((hq_40.i9 86 1 rfl rfl).trans ((hq_34.i9 86 1 rfl rfl).trans ((hq_27.i9 86 1 rfl rfl).trans ((hq_22.i9 86 1 rfl rfl).trans ((hq_15.i9 86 1 rfl rfl).trans ((hq_10.i9 86 1 rfl rfl).trans (hq_3.i9 86 1 rfl rfl))))))))))))
              have g_137 : (G_124.1 86 2).toInt = (G.1 86 2).toInt := (congrArg Int32.toInt (show G_124.1 86 2 = (G.1 86 2) from ((hq_125.i9 86 2 rfl rfl).trans ((hq_117.i9 86 2 rfl rfl).trans ((hq_108.i9 86 2 rfl rfl).trans ((hq_40.i9 86 2 rfl rfl).trans ((hq_34.i9 86 2 rfl rfl).trans ((hq_27.i9 86 2 rfl rfl).trans ((hq_22.i9 86 2 rfl rfl).trans ((hq_15.i9 86 2 rfl rfl).trans ((hq_10.i9 86 2 rfl rfl).trans (hq_3.i9 86 2 rfl rfl))))))))))))
              exact hJ_46 () _ _ _ ⟨G_124, ((by first | exact ⟨((by first | (clear hnf hE9 hN9 hS9 f_6 hp_4 g_12 f_18 hp_16 g_24 f_30 hp_28 g_37 f_43 hp_41 c_103 g_105 f_111 hp_109 c_112 g_114 f_120 hp_118 c_121 hp_126 g_130 g_132 g_133 b_134 g_135 g_136 g_137; omega) | omega)), (fun h9 => by (first | (clear hnf hE9 hN9 hS9 f_6 hp_4 f_18 hp_16 f_30 hp_28 f_43 hp_41 c_103 f_111 hp_109 c_112 f_120 hp_118 c_121 hp_126 b_128 g_129 g_132 g_133 b_134 g_135 g_136 g_137; omega) | omega))⟩ | omega)), ((by first | exact (fun h9 => ⟨((by first | (clear hnf hE9 hN9 hS9 b_128 g_129 g_132 g_133 g_135 g_136 g_137; omega) | omega)), ⟨((by first | (clear hnf hN9 hS9 f_6 hp_4 g_12 f_18 hp_16 g_24 f_30 hp_28 g_37 f_43 hp_41 c_103 g_105 f_111 hp_109 c_112 g_114 f_120 hp_118 c_121 b_128 g_129 g_130 g_133 g_135 g_136 g_137; omega) | omega)), ⟨((by first | (clear hnf hE9 hS9 f_6 hp_4 g_12 f_18 hp_16 g_24 f_30 hp_28 g_37 f_43 hp_41 c_103 g_105 f_111 hp_109 c_112 g_114 f_120 hp_118 c_121 b_128 g_129 g_130 g_132 g_135 g_136 g_137; omega) | omega)), ⟨((by first | (clear hnf hE9 hN9 f_6 hp_4 g_12 f_18 hp_16 g_24 f_30 hp_28 g_37 f_43 hp_41 c_103 g_105 f_111 hp_109 c_112 g_114 f_120 hp_118 c_121 b_128 g_129 g_130 g_132 g_133; omega) | omega)), ⟨((by first | (clear hnf hE9 hN9 f_6 hp_4 g_12 f_18 hp_16 g_24 f_30 hp_28 g_37 f_43 hp_41 c_103 g_105 f_111 hp_109 c_112 g_114 f_120 hp_118 c_121 b_128 g_129 g_130 g_132 g_133; omega) | omega)), ⟨((by first | (clear hnf hE9 hN9 f_6 hp_4 g_12 f_18 hp_16 g_24 f_30 hp_28 g_37 f_43 hp_41 c_103 g_105 f_111 hp_109 c_112 g_114 f_120 hp_118 c_121 b_128 g_129 g_130 g_132 g_133; omega) | omega)), ⟨((by first | (clear hnf hE9 hN9 f_6 hp_4 g_12 f_18 hp_16 g_24 f_30 hp_28 g_37 f_43 hp_41 c_103 g_105 f_111 hp_109 c_112 g_114 f_120 hp_118 c_121 b_128 g_129 g_130 g_132 g_133; omega) | omega)), ⟨((by first | (clear hnf hE9 hN9 f_6 hp_4 g_12 f_18 hp_16 g_24 f_30 hp_28 g_37 f_43 hp_41 c_103 g_105 f_111 hp_109 c_112 g_114 f_120 hp_118 c_121 b_128 g_129 g_130 g_132 g_133; omega) | omega)), ⟨((by first | (clear hnf hE9 hN9 f_6 hp_4 g_12 f_18 hp_16 g_24 f_30 hp_28 g_37 f_43 hp_41 c_103 g_105 f_111 hp_109 c_112 g_114 f_120 hp_118 c_121 b_128 g_129 g_130 g_132 g_133; omega) | omega)), ((by first | (clear hnf hE9 hN9 f_6 hp_4 g_12 f_18 hp_16 g_24 f_30 hp_28 g_37 f_43 hp_41 c_103 g_105 f_111 hp_109 c_112 g_114 f_120 hp_118 c_121 b_128 g_129 g_130 g_132 g_133; omega) | omega))⟩⟩⟩⟩⟩⟩⟩⟩⟩) | omega)), (Jn_n_readLine_4_mk (Or.inl ⟨c_103, ⟨r_106, G_107, hX_110, (Or.inl ⟨c_112, ⟨r_115, G_116, hX_119, (Or.inl ⟨c_121, ⟨G_124, hX_127, rfl⟩⟩)⟩⟩)⟩⟩)), hW, hB_G_124, hF, (Fr.call9 (rs := [86]) (fs := [(66, 2), (66, 3), (66, 4), (66, 6), (66, 7), (66, 8), (66, 9), (66, 48), (66, 49), (66, 50), (66, 51)]) (Fr.call9 (rs := [86]) (fs := [(66, 2), (66, 3), (66, 4), (66, 6), (66, 7), (66, 8), (66, 9), (66, 48), (66, 49), (66, 50), (66, 51)]) (Fr.call9 (rs := [86]) (fs := [(66, 2), (66, 3), (66, 4), (66, 6), (66, 7), (66, 8), (66, 9), (66, 48), (66, 49), (66, 50), (66, 51)]) Fr.rf hq_108 rfl rfl) hq_117 rfl rfl) hq_125 rfl rfl), hS, lv_sub hl [0] rfl⟩
            · have c_121 : r_115.toInt ≠ 0 := xI_ne rfl rfl c_121
              refine lv_aload_n hx hb dX12_readLine_167 rfl (lv_at hl 0 rfl) ?_
              refine lv_dup hx hb dX12_readLine_168 rfl ?_
              refine S_getI (v := (G.1 66 51)) (C := RX12) (T := TX12) (N := 89) hx hb hg iX12 hown hK hW kd_66 rfl 51 (lt_b rfl) (hg (Cond.fieldLink RX12 391 "SlabWalkModel" "nOnce" "I") m1365) (fun _ h9 => h9) rfl ((hq_117.i9 66 51 rfl rfl).trans ((hq_108.i9 66 51 rfl rfl).trans ((hq_40.i9 66 51 rfl rfl).trans ((hq_34.i9 66 51 rfl rfl).trans ((hq_27.i9 66 51 rfl rfl).trans ((hq_22.i9 66 51 rfl rfl).trans ((hq_15.i9 66 51 rfl rfl).trans ((hq_10.i9 66 51 rfl rfl).trans (hq_3.i9 66 51 rfl rfl))))))))) dX12_readLine_169 ?_
              refine ic_4 hx hb dX12_readLine_172 ?_
              refine lv_ior hx hb dX12_readLine_173 ?_
              refine lv_topi (fun y_138 ey_138 => ?_)
              refine S_putI (ty := .int) (C := RX12) (T := TX12) (N := 89) hx hb hg iX12 tyX12 tyX12_ok nmX12 hown hK hW hS kd_66 rfl 51 (lt_b rfl) (hg (Cond.fieldLink RX12 391 "SlabWalkModel" "nOnce" "I") m1365) (fun _ h9 => h9) rfl (by decide +kernel) rfl rfl rfl dX12_readLine_174 (fun G_139 H locs eG_139 hW hS => ?_)
              have hB_G_139 : Bd G_139 := hB_G_116.put (lo := (-2147483648)) (hi := 2147483647) eG_139 rfl rfl rfl (tI_rng _).1 (tI_rng _).2 (hB_G_116.2.put eG_139 rfl)
              have hF := hF.put eG_139 (Or.inr (by decide))
              refine lv_aload_n hx hb dX12_readLine_177 rfl (lv_at hl 0 rfl) ?_
              refine lv_aload_n hx hb dX12_readLine_178 rfl (lv_at hl 0 rfl) ?_
              refine lv_ldc2 (v := 1685217655) hx hb hown (hg (Cond.constantLong RX12 243 1685217655) m1654) dX12_readLine_179 ?_
              refine ic_0 hx hb dX12_readLine_182 ?_
              refine lv_sipush (v := 999) hx hb dX12_readLine_183 (by decide) ?_
              have qc_140 : (0 : Int32).toInt = 0 := rfl
              have qc_141 : (999 : Int32).toInt = 999 := rfl
              have b_142 : 0 ≤ (G.1 66 2).toInt ∧ (G.1 66 2).toInt ≤ 4 := bd_66_2 hB_G
              have g_143 : (G_139.1 66 2).toInt = (G.1 66 2).toInt := (congrArg Int32.toInt (show G_139.1 66 2 = (G.1 66 2) from ((gp_ne eG_139 (by decide)).trans ((hq_117.i9 66 2 rfl rfl).trans ((hq_108.i9 66 2 rfl rfl).trans ((hq_40.i9 66 2 rfl rfl).trans ((hq_34.i9 66 2 rfl rfl).trans ((hq_27.i9 66 2 rfl rfl).trans ((hq_22.i9 66 2 rfl rfl).trans ((hq_15.i9 66 2 rfl rfl).trans ((hq_10.i9 66 2 rfl rfl).trans (hq_3.i9 66 2 rfl rfl))))))))))))
              have b_144 : 0 ≤ (G.1 66 4).toInt ∧ (G.1 66 4).toInt ≤ 1600 := bd_66_4 hB_G
              have g_145 : (G_139.1 66 4).toInt = (G.1 66 4).toInt := (congrArg Int32.toInt (show G_139.1 66 4 = (G.1 66 4) from ((gp_ne eG_139 (by decide)).trans ((hq_117.i9 66 4 rfl rfl).trans ((hq_108.i9 66 4 rfl rfl).trans ((hq_40.i9 66 4 rfl rfl).trans ((hq_34.i9 66 4 rfl rfl).trans ((hq_27.i9 66 4 rfl rfl).trans ((hq_22.i9 66 4 rfl rfl).trans ((hq_15.i9 66 4 rfl rfl).trans ((hq_10.i9 66 4 rfl rfl).trans (hq_3.i9 66 4 rfl rfl))))))))))))
              have g_146 : (G_139.1 66 6).toInt = (G.1 66 6).toInt := (congrArg Int32.toInt (show G_139.1 66 6 = (G.1 66 6) from ((gp_ne eG_139 (by decide)).trans ((hq_117.i9 66 6 rfl rfl).trans ((hq_108.i9 66 6 rfl rfl).trans ((hq_40.i9 66 6 rfl rfl).trans ((hq_34.i9 66 6 rfl rfl).trans ((hq_27.i9 66 6 rfl rfl).trans ((hq_22.i9 66 6 rfl rfl).trans ((hq_15.i9 66 6 rfl rfl).trans ((hq_10.i9 66 6 rfl rfl).trans ((hq_3.i9 66 6 rfl rfl).trans (rfl)))))))))))))
              refine S_calli (va_runV (As := [.long 1685217655, .int 0, .int 999]) (rest := [.ref (a 66)]) ⟨hx, hb, hml, hown, hts⟩ (n_told2 l D k A a z G_139 1685217655 0 999 ) (cwV 3 hts (gd_V hgd m1674 m1676 m60 m131 m1677) rfl rfl rfl hd_X12_told ⟨Nat.le_of_ble_eq_true rfl, Nat.le_of_ble_eq_true rfl⟩) (pre_W hW hB_G_139 hK hZ hS kd_66 rfl) rfl rfl hl.1 rfl (lv_room (Nat.le_of_ble_eq_true rfl)) dX12_readLine_186 ⟨Nat.le_of_ble_eq_true rfl, Nat.le_of_ble_eq_true rfl⟩) hS (fun r_147 G_148 H locs hpo hW hS => ?_)
              have hX_151 : Q_told2 1685217655 0 999 G_139 r_147 G_148 := hpo
              obtain ⟨hB_G_148, hq_149, ⟨d_8, d_9, d_10, d_11⟩, -⟩ := hpo
              have hF := hF.call9 hq_149 rfl rfl
              refine S_putI (ty := .int) (C := RX12) (T := TX12) (N := 89) hx hb hg iX12 tyX12 tyX12_ok nmX12 hown hK hW hS kd_66 rfl 50 (lt_b rfl) (hg (Cond.fieldLink RX12 416 "SlabWalkModel" "nDraw" "I") m1364) (fun _ h9 => h9) rfl (by decide +kernel) rfl rfl rfl dX12_readLine_189 (fun G_152 H locs eG_152 hW hS => ?_)
              have hB_G_152 : Bd G_152 := hB_G_148.put (lo := (-2147483648)) (hi := 2147483647) eG_152 rfl rfl rfl (tI_rng _).1 (tI_rng _).2 (hB_G_148.2.put eG_152 rfl)
              have hF := hF.put eG_152 (Or.inr (by decide))
              refine lv_goto (tgt := 200) hx hb dX12_readLine_192 rfl ?_
              have b_153 : 0 ≤ (G_148.1 66 4).toInt ∧ (G_148.1 66 4).toInt ≤ 1600 := bd_66_4 hB_G_148
              have g_154 : (G_152.1 66 4).toInt = (G_148.1 66 4).toInt := (congrArg Int32.toInt (show G_152.1 66 4 = (G_148.1 66 4) from (gp_ne eG_152 (by decide))))
              have g_155 : (G_152.1 66 6).toInt = (G_148.1 66 6).toInt := (congrArg Int32.toInt (show G_152.1 66 6 = (G_148.1 66 6) from (gp_ne eG_152 (by decide))))
              have fr_156 : Fr [] [(66, 2), (66, 3), (66, 4), (66, 6), (66, 7), (66, 8), (66, 9), (66, 50), (66, 51)] G G_152 := (Fr.put (rs := []) (fs := [(66, 2), (66, 3), (66, 4), (66, 6), (66, 7), (66, 8), (66, 9), (66, 50), (66, 51)]) (Fr.call9 (rs := []) (fs := [(66, 2), (66, 3), (66, 4), (66, 6), (66, 7), (66, 8), (66, 9), (66, 50), (66, 51)]) (Fr.put (rs := []) (fs := [(66, 2), (66, 3), (66, 4), (66, 6), (66, 7), (66, 8), (66, 9), (66, 50), (66, 51)]) (Fr.call9 (rs := []) (fs := [(66, 2), (66, 3), (66, 4), (66, 6), (66, 7), (66, 8), (66, 9), (66, 50), (66, 51)]) (Fr.call9 (rs := []) (fs := [(66, 2), (66, 3), (66, 4), (66, 6), (66, 7), (66, 8), (66, 9), (66, 50), (66, 51)]) (Fr.call9 (rs := []) (fs := [(66, 2), (66, 3), (66, 4), (66, 6), (66, 7), (66, 8), (66, 9), (66, 50), (66, 51)]) (Fr.call9 (rs := []) (fs := [(66, 2), (66, 3), (66, 4), (66, 6), (66, 7), (66, 8), (66, 9), (66, 50), (66, 51)]) (Fr.call9 (rs := []) (fs := [(66, 2), (66, 3), (66, 4), (66, 6), (66, 7), (66, 8), (66, 9), (66, 50), (66, 51)]) (Fr.call9 (rs := []) (fs := [(66, 2), (66, 3), (66, 4), (66, 6), (66, 7), (66, 8), (66, 9), (66, 50), (66, 51)]) (Fr.call9 (rs := []) (fs := [(66, 2), (66, 3), (66, 4), (66, 6), (66, 7), (66, 8), (66, 9), (66, 50), (66, 51)]) (Fr.call9 (rs := []) (fs := [(66, 2), (66, 3), (66, 4), (66, 6), (66, 7), (66, 8), (66, 9), (66, 50), (66, 51)]) (Fr.call9 (rs := []) (fs := [(66, 2), (66, 3), (66, 4), (66, 6), (66, 7), (66, 8), (66, 9), (66, 50), (66, 51)]) Fr.rf hq_3 rfl rfl) hq_10 rfl rfl) hq_15 rfl rfl) hq_22 rfl rfl) hq_27 rfl rfl) hq_34 rfl rfl) hq_40 rfl rfl) hq_108 rfl rfl) hq_117 rfl rfl) eG_139 (Or.inr (by decide))) hq_149 rfl rfl) eG_152 (Or.inr (by decide)))
              have g_157 : gE G_152 = gE G := gE_fr fr_156 (gr_q rfl) (gf_q rfl)
              have g_158 : gN G_152 = gN G := gN_fr fr_156 (gr_q rfl) (gf_q rfl)
              have b_159 : 0 ≤ (G_148.1 66 2).toInt ∧ (G_148.1 66 2).toInt ≤ 4 := bd_66_2 hB_G_148
              have g_160 : (G_152.1 66 2).toInt = (G_148.1 66 2).toInt := (congrArg Int32.toInt (show G_152.1 66 2 = (G_148.1 66 2) from (gp_ne eG_152 (by decide))))
              have g_161 : (G_152.1 86 0).toInt = (G.1 86 0).toInt := (congrArg Int32.toInt (show G_152.1 86 0 = (G.1 86 0) from ((gp_ne eG_152 (by decide)).trans ((hq_149.i9 86 0 rfl rfl).trans ((gp_ne eG_139 (by decide)).trans ((hq_117.i9 86 0 rfl rfl).trans ((hq_108.i9 86 0 rfl rfl).trans ((hq_40.i9 86 0 rfl rfl).trans ((hq_34.i9 86 0 rfl rfl).trans ((hq_27.i9 86 0 rfl rfl).trans ((hq_22.i9 86 0 rfl rfl).trans ((hq_15.i9 86 0 rfl rfl).trans ((hq_10.i9 86 0 rfl rfl).trans (hq_3.i9 86 0 rfl rfl))))))))))))))
              have g_162 : (G_152.1 86 1).toInt = (G.1 86 1).toInt := (congrArg Int32.toInt (show G_152.1 86 1 = (G.1 86 1) from ((gp_ne eG_152 (by decide)).trans ((hq_149.i9 86 1 rfl rfl).trans ((gp_ne eG_139 (by decide)).trans ((hq_117.i9 86 1 rfl rfl).trans ((hq_108.i9 86 1 rfl rfl).trans ((hq_40.i9 86 1 rfl rfl).trans ((hq_34.i9 86 1 rfl rfl).trans ((hq_27.i9 86 1 rfl rfl).trans ((hq_22.i9 86 1 rfl rfl).trans ((hq_15.i9 86 1 rfl rfl).trans ((hq_10.i9 86 1 rfl rfl).trans (hq_3.i9 86 1 rfl rfl))))))))))))))
              have g_163 : (G_152.1 86 2).toInt = (G.1 86 2).toInt := (congrArg Int32.toInt (show G_152.1 86 2 = (G.1 86 2) from ((gp_ne eG_152 (by decide)).trans ((hq_149.i9 86 2 rfl rfl).trans ((gp_ne eG_139 (by decide)).trans ((hq_117.i9 86 2 rfl rfl).trans ((hq_108.i9 86 2 rfl rfl).trans ((hq_40.i9 86 2 rfl rfl).trans ((hq_34.i9 86 2 rfl rfl).trans ((hq_27.i9 86 2 rfl rfl).trans ((hq_22.i9 86 2 rfl rfl).trans ((hq_15.i9 86 2 rfl rfl).trans ((hq_10.i9 86 2 rfl rfl).trans (hq_3.i9 86 2 rfl rfl))))))))))))))
              exact hJ_46 () _ _ _ ⟨G_152, ((by first | exact ⟨((by first | (clear hnf hE9 hN9 hS9 f_6 f_18 f_30 f_43 f_111 f_120 c_121 b_142 g_143 d_10 d_11 g_157 g_158 b_159 g_160 g_161 g_162 g_163; omega) | omega)), (fun h9 => by have q0_ := d_9 (by first | (clear hnf hE9 hN9 hS9 f_6 hp_4 g_12 f_18 hp_16 g_24 f_30 hp_28 g_37 f_43 hp_41 c_103 g_105 f_111 hp_109 c_112 g_114 f_120 hp_118 c_121 b_142 g_143 g_146 d_9 d_10 d_11 g_155 g_157 g_158 b_159 g_160 g_161 g_162 g_163; omega) | omega); (first | (clear hnf hE9 hN9 hS9 f_6 hp_4 f_18 hp_16 f_30 hp_28 f_43 hp_41 c_103 f_111 hp_109 c_112 f_120 hp_118 c_121 b_142 g_143 b_144 g_145 d_8 d_9 d_10 d_11 b_153 g_154 g_157 g_158 b_159 g_160 g_161 g_162 g_163; omega) | omega))⟩ | omega)), ((by first | exact (fun h9 => ⟨((by first | (clear hE9 hN9 hS9 g_157 g_158 g_161 g_162 g_163; omega) | omega)), ⟨((by first | (clear hN9 hS9 f_6 hp_4 g_12 f_18 hp_16 g_24 f_30 hp_28 g_37 f_43 hp_41 c_103 g_105 f_111 hp_109 c_112 g_114 f_120 hp_118 c_121 b_144 g_145 g_146 d_8 d_9 b_153 g_154 g_155 g_158 g_161 g_162 g_163; omega) | omega)), ⟨((by first | (clear hE9 hS9 f_6 hp_4 g_12 f_18 hp_16 g_24 f_30 hp_28 g_37 f_43 hp_41 c_103 g_105 f_111 hp_109 c_112 g_114 f_120 hp_118 c_121 b_144 g_145 g_146 d_8 d_9 b_153 g_154 g_155 g_157 g_161 g_162 g_163; omega) | omega)), ⟨((by first | (clear hE9 hN9 f_6 hp_4 g_12 f_18 hp_16 g_24 f_30 hp_28 g_37 f_43 hp_41 c_103 g_105 f_111 hp_109 c_112 g_114 f_120 hp_118 c_121 b_144 g_145 g_146 d_8 d_9 b_153 g_154 g_155 g_157 g_158; omega) | omega)), ⟨((by first | (clear hE9 hN9 f_6 hp_4 g_12 f_18 hp_16 g_24 f_30 hp_28 g_37 f_43 hp_41 c_103 g_105 f_111 hp_109 c_112 g_114 f_120 hp_118 c_121 b_144 g_145 g_146 d_8 d_9 b_153 g_154 g_155 g_157 g_158; omega) | omega)), ⟨((by first | (clear hE9 hN9 f_6 hp_4 g_12 f_18 hp_16 g_24 f_30 hp_28 g_37 f_43 hp_41 c_103 g_105 f_111 hp_109 c_112 g_114 f_120 hp_118 c_121 b_144 g_145 g_146 d_8 d_9 b_153 g_154 g_155 g_157 g_158; omega) | omega)), ⟨((by first | (clear hE9 hN9 f_6 hp_4 g_12 f_18 hp_16 g_24 f_30 hp_28 g_37 f_43 hp_41 c_103 g_105 f_111 hp_109 c_112 g_114 f_120 hp_118 c_121 b_144 g_145 g_146 d_8 d_9 b_153 g_154 g_155 g_157 g_158; omega) | omega)), ⟨((by first | (clear hE9 hN9 f_6 hp_4 g_12 f_18 hp_16 g_24 f_30 hp_28 g_37 f_43 hp_41 c_103 g_105 f_111 hp_109 c_112 g_114 f_120 hp_118 c_121 b_144 g_145 g_146 d_8 d_9 b_153 g_154 g_155 g_157 g_158; omega) | omega)), ⟨((by first | (clear hE9 hN9 f_6 hp_4 g_12 f_18 hp_16 g_24 f_30 hp_28 g_37 f_43 hp_41 c_103 g_105 f_111 hp_109 c_112 g_114 f_120 hp_118 c_121 b_144 g_145 g_146 d_8 d_9 b_153 g_154 g_155 g_157 g_158; omega) | omega)), ((by first | (clear hE9 hN9 f_6 hp_4 g_12 f_18 hp_16 g_24 f_30 hp_28 g_37 f_43 hp_41 c_103 g_105 f_111 hp_109 c_112 g_114 f_120 hp_118 c_121 b_144 g_145 g_146 d_8 d_9 b_153 g_154 g_155 g_157 g_158; omega) | omega))⟩⟩⟩⟩⟩⟩⟩⟩⟩) | omega)), (Jn_n_readLine_4_mk (Or.inl ⟨c_103, ⟨r_106, G_107, hX_110, (Or.inl ⟨c_112, ⟨r_115, G_116, hX_119, (Or.inr ⟨c_121, ⟨y_138, ey_138, ⟨G_139, hB_G_139, (Fr.put (rs := []) (fs := [(66, 51)]) Fr.rf eG_139 (Or.inr (by decide))), (gp_eq eG_139), ⟨r_147, G_148, hX_151, ⟨(Fr.put (rs := []) (fs := [(66, 50)]) Fr.rf eG_152 (Or.inr (by decide))), (gp_eq eG_152)⟩⟩⟩⟩⟩)⟩⟩)⟩⟩)), hW, hB_G_152, hF, (Fr.put (rs := [86]) (fs := [(66, 2), (66, 3), (66, 4), (66, 6), (66, 7), (66, 8), (66, 9), (66, 48), (66, 49), (66, 50), (66, 51)]) (Fr.call9 (rs := [86]) (fs := [(66, 2), (66, 3), (66, 4), (66, 6), (66, 7), (66, 8), (66, 9), (66, 48), (66, 49), (66, 50), (66, 51)]) (Fr.put (rs := [86]) (fs := [(66, 2), (66, 3), (66, 4), (66, 6), (66, 7), (66, 8), (66, 9), (66, 48), (66, 49), (66, 50), (66, 51)]) (Fr.call9 (rs := [86]) (fs := [(66, 2), (66, 3), (66, 4), (66, 6), (66, 7), (66, 8), (66, 9), (66, 48), (66, 49), (66, 50), (66, 51)]) (Fr.call9 (rs := [86]) (fs := [(66, 2), (66, 3), (66, 4), (66, 6), (66, 7), (66, 8), (66, 9), (66, 48), (66, 49), (66, 50), (66, 51)]) Fr.rf hq_108 rfl rfl) hq_117 rfl rfl) eG_139 (Or.inr (by decide))) hq_149 rfl rfl) eG_152 (Or.inr (by decide))), hS, lv_sub hl [0] rfl⟩
          · have c_112 : r_106.toInt ≠ 0 := xI_ne rfl rfl c_112
            refine lv_aload_n hx hb dX12_readLine_115 rfl (lv_at hl 0 rfl) ?_
            refine lv_dup hx hb dX12_readLine_116 rfl ?_
            refine S_getI (v := (G.1 66 51)) (C := RX12) (T := TX12) (N := 89) hx hb hg iX12 hown hK hW kd_66 rfl 51 (lt_b rfl) (hg (Cond.fieldLink RX12 391 "SlabWalkModel" "nOnce" "I") m1365) (fun _ h9 => h9) rfl ((hq_108.i9 66 51 rfl rfl).trans ((hq_40.i9 66 51 rfl rfl).trans ((hq_34.i9 66 51 rfl rfl).trans ((hq_27.i9 66 51 rfl rfl).trans ((hq_22.i9 66 51 rfl rfl).trans ((hq_15.i9 66 51 rfl rfl).trans ((hq_10.i9 66 51 rfl rfl).trans (hq_3.i9 66 51 rfl rfl)))))))) dX12_readLine_117 ?_
            refine ic_2 hx hb dX12_readLine_120 ?_
            refine lv_ior hx hb dX12_readLine_121 ?_
            refine lv_topi (fun y_164 ey_164 => ?_)
            refine S_putI (ty := .int) (C := RX12) (T := TX12) (N := 89) hx hb hg iX12 tyX12 tyX12_ok nmX12 hown hK hW hS kd_66 rfl 51 (lt_b rfl) (hg (Cond.fieldLink RX12 391 "SlabWalkModel" "nOnce" "I") m1365) (fun _ h9 => h9) rfl (by decide +kernel) rfl rfl rfl dX12_readLine_122 (fun G_165 H locs eG_165 hW hS => ?_)
            have hB_G_165 : Bd G_165 := hB_G_107.put (lo := (-2147483648)) (hi := 2147483647) eG_165 rfl rfl rfl (tI_rng _).1 (tI_rng _).2 (hB_G_107.2.put eG_165 rfl)
            have hF := hF.put eG_165 (Or.inr (by decide))
            refine lv_aload_n hx hb dX12_readLine_125 rfl (lv_at hl 0 rfl) ?_
            refine lv_aload_n hx hb dX12_readLine_126 rfl (lv_at hl 0 rfl) ?_
            refine lv_ldc2 (v := 1751215716) hx hb hown (hg (Cond.constantLong RX12 239 1751215716) m1652) dX12_readLine_127 ?_
            refine ic_1 hx hb dX12_readLine_130 ?_
            refine lv_bipush (v := 99) hx hb dX12_readLine_131 (by decide) ?_
            have qc_166 : (1 : Int32).toInt = 1 := rfl
            have qc_167 : (99 : Int32).toInt = 99 := rfl
            have b_168 : 0 ≤ (G.1 66 2).toInt ∧ (G.1 66 2).toInt ≤ 4 := bd_66_2 hB_G
            have g_169 : (G_165.1 66 2).toInt = (G.1 66 2).toInt := (congrArg Int32.toInt (show G_165.1 66 2 = (G.1 66 2) from ((gp_ne eG_165 (by decide)).trans ((hq_108.i9 66 2 rfl rfl).trans ((hq_40.i9 66 2 rfl rfl).trans ((hq_34.i9 66 2 rfl rfl).trans ((hq_27.i9 66 2 rfl rfl).trans ((hq_22.i9 66 2 rfl rfl).trans ((hq_15.i9 66 2 rfl rfl).trans ((hq_10.i9 66 2 rfl rfl).trans (hq_3.i9 66 2 rfl rfl)))))))))))
            have b_170 : 0 ≤ (G.1 66 4).toInt ∧ (G.1 66 4).toInt ≤ 1600 := bd_66_4 hB_G
            have g_171 : (G_165.1 66 4).toInt = (G.1 66 4).toInt := (congrArg Int32.toInt (show G_165.1 66 4 = (G.1 66 4) from ((gp_ne eG_165 (by decide)).trans ((hq_108.i9 66 4 rfl rfl).trans ((hq_40.i9 66 4 rfl rfl).trans ((hq_34.i9 66 4 rfl rfl).trans ((hq_27.i9 66 4 rfl rfl).trans ((hq_22.i9 66 4 rfl rfl).trans ((hq_15.i9 66 4 rfl rfl).trans ((hq_10.i9 66 4 rfl rfl).trans (hq_3.i9 66 4 rfl rfl)))))))))))
            have g_172 : (G_165.1 66 6).toInt = (G.1 66 6).toInt := (congrArg Int32.toInt (show G_165.1 66 6 = (G.1 66 6) from ((gp_ne eG_165 (by decide)).trans ((hq_108.i9 66 6 rfl rfl).trans ((hq_40.i9 66 6 rfl rfl).trans ((hq_34.i9 66 6 rfl rfl).trans ((hq_27.i9 66 6 rfl rfl).trans ((hq_22.i9 66 6 rfl rfl).trans ((hq_15.i9 66 6 rfl rfl).trans ((hq_10.i9 66 6 rfl rfl).trans ((hq_3.i9 66 6 rfl rfl).trans (rfl))))))))))))
            refine S_calli (va_runV (As := [.long 1751215716, .int 1, .int 99]) (rest := [.ref (a 66)]) ⟨hx, hb, hml, hown, hts⟩ (n_told2 l D k A a z G_165 1751215716 1 99 ) (cwV 3 hts (gd_V hgd m1674 m1676 m60 m131 m1677) rfl rfl rfl hd_X12_told ⟨Nat.le_of_ble_eq_true rfl, Nat.le_of_ble_eq_true rfl⟩) (pre_W hW hB_G_165 hK hZ hS kd_66 rfl) rfl rfl hl.1 rfl (lv_room (Nat.le_of_ble_eq_true rfl)) dX12_readLine_133 ⟨Nat.le_of_ble_eq_true rfl, Nat.le_of_ble_eq_true rfl⟩) hS (fun r_173 G_174 H locs hpo hW hS => ?_)
            have hX_177 : Q_told2 1751215716 1 99 G_165 r_173 G_174 := hpo
            obtain ⟨hB_G_174, hq_175, ⟨d_12, d_13, d_14, d_15⟩, -⟩ := hpo
            have hF := hF.call9 hq_175 rfl rfl
            refine S_putI (ty := .int) (C := RX12) (T := TX12) (N := 89) hx hb hg iX12 tyX12 tyX12_ok nmX12 hown hK hW hS kd_66 rfl 48 (lt_b rfl) (hg (Cond.fieldLink RX12 410 "SlabWalkModel" "nHand" "I") m1362) (fun _ h9 => h9) rfl (by decide +kernel) rfl rfl rfl dX12_readLine_136 (fun G_178 H locs eG_178 hW hS => ?_)
            have hB_G_178 : Bd G_178 := hB_G_174.put (lo := (-2147483648)) (hi := 2147483647) eG_178 rfl rfl rfl (tI_rng _).1 (tI_rng _).2 (hB_G_174.2.put eG_178 rfl)
            have hF := hF.put eG_178 (Or.inr (by decide))
            refine lv_aload_n hx hb dX12_readLine_139 rfl (lv_at hl 0 rfl) ?_
            refine lv_aload_n hx hb dX12_readLine_140 rfl (lv_at hl 0 rfl) ?_
            refine lv_ldc2 (v := 495739560811) hx hb hown (hg (Cond.constantLong RX12 241 495739560811) m1653) dX12_readLine_141 ?_
            refine ic_0 hx hb dX12_readLine_144 ?_
            refine lv_bipush (v := 99) hx hb dX12_readLine_145 (by decide) ?_
            have qc_179 : (0 : Int32).toInt = 0 := rfl
            have qc_180 : (99 : Int32).toInt = 99 := rfl
            have b_181 : 0 ≤ (G_174.1 66 2).toInt ∧ (G_174.1 66 2).toInt ≤ 4 := bd_66_2 hB_G_174
            have g_182 : (G_178.1 66 2).toInt = (G_174.1 66 2).toInt := (congrArg Int32.toInt (show G_178.1 66 2 = (G_174.1 66 2) from (gp_ne eG_178 (by decide))))
            have b_183 : 0 ≤ (G_174.1 66 4).toInt ∧ (G_174.1 66 4).toInt ≤ 1600 := bd_66_4 hB_G_174
            have g_184 : (G_178.1 66 4).toInt = (G_174.1 66 4).toInt := (congrArg Int32.toInt (show G_178.1 66 4 = (G_174.1 66 4) from (gp_ne eG_178 (by decide))))
            have g_185 : (G_178.1 66 6).toInt = (G_174.1 66 6).toInt := (congrArg Int32.toInt (show G_178.1 66 6 = (G_174.1 66 6) from (gp_ne eG_178 (by decide))))
            refine S_calli (va_runV (As := [.long 495739560811, .int 0, .int 99]) (rest := [.ref (a 66)]) ⟨hx, hb, hml, hown, hts⟩ (n_told2 l D k A a z G_178 495739560811 0 99 ) (cwV 3 hts (gd_V hgd m1674 m1676 m60 m131 m1677) rfl rfl rfl hd_X12_told ⟨Nat.le_of_ble_eq_true rfl, Nat.le_of_ble_eq_true rfl⟩) (pre_W hW hB_G_178 hK hZ hS kd_66 rfl) rfl rfl hl.1 rfl (lv_room (Nat.le_of_ble_eq_true rfl)) dX12_readLine_147 ⟨Nat.le_of_ble_eq_true rfl, Nat.le_of_ble_eq_true rfl⟩) hS (fun r_186 G_187 H locs hpo hW hS => ?_)
            have hX_190 : Q_told2 495739560811 0 99 G_178 r_186 G_187 := hpo
            obtain ⟨hB_G_187, hq_188, ⟨d_16, d_17, d_18, d_19⟩, -⟩ := hpo
            have hF := hF.call9 hq_188 rfl rfl
            refine S_putI (ty := .int) (C := RX12) (T := TX12) (N := 89) hx hb hg iX12 tyX12 tyX12_ok nmX12 hown hK hW hS kd_66 rfl 49 (lt_b rfl) (hg (Cond.fieldLink RX12 413 "SlabWalkModel" "nSlack" "I") m1363) (fun _ h9 => h9) rfl (by decide +kernel) rfl rfl rfl dX12_readLine_150 (fun G_191 H locs eG_191 hW hS => ?_)
            have hB_G_191 : Bd G_191 := hB_G_187.put (lo := (-2147483648)) (hi := 2147483647) eG_191 rfl rfl rfl (tI_rng _).1 (tI_rng _).2 (hB_G_187.2.put eG_191 rfl)
            have hF := hF.put eG_191 (Or.inr (by decide))
            refine lv_goto (tgt := 200) hx hb dX12_readLine_153 rfl ?_
            have b_192 : 0 ≤ (G_187.1 66 4).toInt ∧ (G_187.1 66 4).toInt ≤ 1600 := bd_66_4 hB_G_187
            have g_193 : (G_191.1 66 4).toInt = (G_187.1 66 4).toInt := (congrArg Int32.toInt (show G_191.1 66 4 = (G_187.1 66 4) from (gp_ne eG_191 (by decide))))
            have g_194 : (G_191.1 66 6).toInt = (G_187.1 66 6).toInt := (congrArg Int32.toInt (show G_191.1 66 6 = (G_187.1 66 6) from (gp_ne eG_191 (by decide))))
            have fr_195 : Fr [] [(66, 2), (66, 3), (66, 4), (66, 6), (66, 7), (66, 8), (66, 9), (66, 48), (66, 49), (66, 51)] G G_191 := (Fr.put (rs := []) (fs := [(66, 2), (66, 3), (66, 4), (66, 6), (66, 7), (66, 8), (66, 9), (66, 48), (66, 49), (66, 51)]) (Fr.call9 (rs := []) (fs := [(66, 2), (66, 3), (66, 4), (66, 6), (66, 7), (66, 8), (66, 9), (66, 48), (66, 49), (66, 51)]) (Fr.put (rs := []) (fs := [(66, 2), (66, 3), (66, 4), (66, 6), (66, 7), (66, 8), (66, 9), (66, 48), (66, 49), (66, 51)]) (Fr.call9 (rs := []) (fs := [(66, 2), (66, 3), (66, 4), (66, 6), (66, 7), (66, 8), (66, 9), (66, 48), (66, 49), (66, 51)]) (Fr.put (rs := []) (fs := [(66, 2), (66, 3), (66, 4), (66, 6), (66, 7), (66, 8), (66, 9), (66, 48), (66, 49), (66, 51)]) (Fr.call9 (rs := []) (fs := [(66, 2), (66, 3), (66, 4), (66, 6), (66, 7), (66, 8), (66, 9), (66, 48), (66, 49), (66, 51)]) (Fr.call9 (rs := []) (fs := [(66, 2), (66, 3), (66, 4), (66, 6), (66, 7), (66, 8), (66, 9), (66, 48), (66, 49), (66, 51)]) (Fr.call9 (rs := []) (fs := [(66, 2), (66, 3), (66, 4), (66, 6), (66, 7), (66, 8), (66, 9), (66, 48), (66, 49), (66, 51)]) (Fr.call9 (rs := []) (fs := [(66, 2), (66, 3), (66, 4), (66, 6), (66, 7), (66, 8), (66, 9), (66, 48), (66, 49), (66, 51)]) (Fr.call9 (rs := []) (fs := [(66, 2), (66, 3), (66, 4), (66, 6), (66, 7), (66, 8), (66, 9), (66, 48), (66, 49), (66, 51)]) (Fr.call9 (rs := []) (fs := [(66, 2), (66, 3), (66, 4), (66, 6), (66, 7), (66, 8), (66, 9), (66, 48), (66, 49), (66, 51)]) (Fr.call9 (rs := []) (fs := [(66, 2), (66, 3), (66, 4), (66, 6), (66, 7), (66, 8), (66, 9), (66, 48), (66, 49), (66, 51)]) (Fr.call9 (rs := []) (fs := [(66, 2), (66, 3), (66, 4), (66, 6), (66, 7), (66, 8), (66, 9), (66, 48), (66, 49), (66, 51)]) Fr.rf hq_3 rfl rfl) hq_10 rfl rfl) hq_15 rfl rfl) hq_22 rfl rfl) hq_27 rfl rfl) hq_34 rfl rfl) hq_40 rfl rfl) hq_108 rfl rfl) eG_165 (Or.inr (by decide))) hq_175 rfl rfl) eG_178 (Or.inr (by decide))) hq_188 rfl rfl) eG_191 (Or.inr (by decide)))
            have g_196 : gE G_191 = gE G := gE_fr fr_195 (gr_q rfl) (gf_q rfl)
            have g_197 : gN G_191 = gN G := gN_fr fr_195 (gr_q rfl) (gf_q rfl)
            have b_198 : 0 ≤ (G_187.1 66 2).toInt ∧ (G_187.1 66 2).toInt ≤ 4 := bd_66_2 hB_G_187
            have g_199 : (G_191.1 66 2).toInt = (G_187.1 66 2).toInt := (congrArg Int32.toInt (show G_191.1 66 2 = (G_187.1 66 2) from (gp_ne eG_191 (by decide))))
            have g_200 : (G_191.1 86 0).toInt = (G.1 86 0).toInt := (congrArg Int32.toInt (show G_191.1 86 0 = (G.1 86 0) from ((gp_ne eG_191 (by decide)).trans ((hq_188.i9 86 0 rfl rfl).trans ((gp_ne eG_178 (by decide)).trans ((hq_175.i9 86 0 rfl rfl).trans ((gp_ne eG_165 (by decide)).trans ((hq_108.i9 86 0 rfl rfl).trans ((hq_40.i9 86 0 rfl rfl).trans ((hq_34.i9 86 0 rfl rfl).trans ((hq_27.i9 86 0 rfl rfl).trans ((hq_22.i9 86 0 rfl rfl).trans ((hq_15.i9 86 0 rfl rfl).trans ((hq_10.i9 86 0 rfl rfl).trans (hq_3.i9 86 0 rfl rfl)))))))))))))))
            have g_201 : (G_191.1 86 1).toInt = (G.1 86 1).toInt := (congrArg Int32.toInt (show G_191.1 86 1 = (G.1 86 1) from ((gp_ne eG_191 (by decide)).trans ((hq_188.i9 86 1 rfl rfl).trans ((gp_ne eG_178 (by decide)).trans ((hq_175.i9 86 1 rfl rfl).trans ((gp_ne eG_165 (by decide)).trans ((hq_108.i9 86 1 rfl rfl).trans ((hq_40.i9 86 1 rfl rfl).trans ((hq_34.i9 86 1 rfl rfl).trans ((hq_27.i9 86 1 rfl rfl).trans ((hq_22.i9 86 1 rfl rfl).trans ((hq_15.i9 86 1 rfl rfl).trans ((hq_10.i9 86 1 rfl rfl).trans (hq_3.i9 86 1 rfl rfl)))))))))))))))
            have g_202 : (G_191.1 86 2).toInt = (G.1 86 2).toInt := (congrArg Int32.toInt (show G_191.1 86 2 = (G.1 86 2) from ((gp_ne eG_191 (by decide)).trans ((hq_188.i9 86 2 rfl rfl).trans ((gp_ne eG_178 (by decide)).trans ((hq_175.i9 86 2 rfl rfl).trans ((gp_ne eG_165 (by decide)).trans ((hq_108.i9 86 2 rfl rfl).trans ((hq_40.i9 86 2 rfl rfl).trans ((hq_34.i9 86 2 rfl rfl).trans ((hq_27.i9 86 2 rfl rfl).trans ((hq_22.i9 86 2 rfl rfl).trans ((hq_15.i9 86 2 rfl rfl).trans ((hq_10.i9 86 2 rfl rfl).trans (hq_3.i9 86 2 rfl rfl)))))))))))))))
            exact hJ_46 () _ _ _ ⟨G_191, ((by first | exact ⟨((by first | (clear hnf hE9 hN9 hS9 f_6 f_18 f_30 f_43 f_111 c_112 b_168 g_169 d_14 d_15 b_181 g_182 d_18 d_19 g_196 g_197 b_198 g_199 g_200 g_201 g_202; omega) | omega)), (fun h9 => by have q0_ := d_13 (by first | (clear hnf hE9 hN9 hS9 f_6 hp_4 g_12 f_18 hp_16 g_24 f_30 hp_28 g_37 f_43 hp_41 c_103 g_105 f_111 hp_109 c_112 b_168 g_169 g_172 d_13 d_14 d_15 b_181 g_182 g_185 d_17 d_18 d_19 g_194 g_196 g_197 b_198 g_199 g_200 g_201 g_202; omega) | omega); have q1_ := d_17 (by first | (clear hnf hE9 hN9 hS9 f_6 hp_4 g_12 f_18 hp_16 g_24 f_30 hp_28 g_37 f_43 hp_41 c_103 g_105 f_111 hp_109 c_112 b_168 g_169 g_172 d_13 d_14 d_15 b_181 g_182 g_185 d_17 d_18 d_19 g_194 g_196 g_197 b_198 g_199 g_200 g_201 g_202; omega) | omega); (first | (clear hnf hE9 hN9 hS9 f_6 hp_4 f_18 hp_16 f_30 hp_28 f_43 hp_41 c_103 f_111 hp_109 c_112 b_168 g_169 b_170 g_171 d_12 d_13 d_14 d_15 b_181 g_182 b_183 g_184 d_16 d_17 d_18 d_19 b_192 g_193 g_196 g_197 b_198 g_199 g_200 g_201 g_202; omega) | omega))⟩ | omega)), ((by first | exact (fun h9 => ⟨((by first | (clear hE9 hN9 hS9 b_168 b_192 g_196 g_197 g_200 g_201 g_202; omega) | omega)), ⟨((by first | (clear hN9 hS9 f_6 hp_4 g_12 f_18 hp_16 g_24 f_30 hp_28 g_37 f_43 hp_41 c_103 g_105 f_111 hp_109 c_112 b_168 b_170 g_171 g_172 d_12 d_13 b_183 g_184 g_185 d_16 d_17 b_192 g_193 g_194 g_197 g_200 g_201 g_202; omega) | omega)), ⟨((by first | (clear hE9 hS9 f_6 hp_4 g_12 f_18 hp_16 g_24 f_30 hp_28 g_37 f_43 hp_41 c_103 g_105 f_111 hp_109 c_112 b_168 b_170 g_171 g_172 d_12 d_13 b_183 g_184 g_185 d_16 d_17 b_192 g_193 g_194 g_196 g_200 g_201 g_202; omega) | omega)), ⟨((by first | (clear hE9 hN9 f_6 hp_4 g_12 f_18 hp_16 g_24 f_30 hp_28 g_37 f_43 hp_41 c_103 g_105 f_111 hp_109 c_112 b_168 b_170 g_171 g_172 d_12 d_13 b_183 g_184 g_185 d_16 d_17 b_192 g_193 g_194 g_196 g_197; omega) | omega)), ⟨((by first | (clear hE9 hN9 f_6 hp_4 g_12 f_18 hp_16 g_24 f_30 hp_28 g_37 f_43 hp_41 c_103 g_105 f_111 hp_109 c_112 b_168 b_170 g_171 g_172 d_12 d_13 b_183 g_184 g_185 d_16 d_17 b_192 g_193 g_194 g_196 g_197; omega) | omega)), ⟨((by first | (clear hE9 hN9 f_6 hp_4 g_12 f_18 hp_16 g_24 f_30 hp_28 g_37 f_43 hp_41 c_103 g_105 f_111 hp_109 c_112 b_168 b_170 g_171 g_172 d_12 d_13 b_183 g_184 g_185 d_16 d_17 b_192 g_193 g_194 g_196 g_197; omega) | omega)), ⟨((by first | (clear hE9 hN9 f_6 hp_4 g_12 f_18 hp_16 g_24 f_30 hp_28 g_37 f_43 hp_41 c_103 g_105 f_111 hp_109 c_112 b_168 b_170 g_171 g_172 d_12 d_13 b_183 g_184 g_185 d_16 d_17 b_192 g_193 g_194 g_196 g_197; omega) | omega)), ⟨((by first | (clear hE9 hN9 f_6 hp_4 g_12 f_18 hp_16 g_24 f_30 hp_28 g_37 f_43 hp_41 c_103 g_105 f_111 hp_109 c_112 b_168 b_170 g_171 g_172 d_12 d_13 b_183 g_184 g_185 d_16 d_17 b_192 g_193 g_194 g_196 g_197; omega) | omega)), ⟨((by first | (clear hE9 hN9 f_6 hp_4 g_12 f_18 hp_16 g_24 f_30 hp_28 g_37 f_43 hp_41 c_103 g_105 f_111 hp_109 c_112 b_168 b_170 g_171 g_172 d_12 d_13 b_183 g_184 g_185 d_16 d_17 b_192 g_193 g_194 g_196 g_197; omega) | omega)), ((by first | (clear hE9 hN9 f_6 hp_4 g_12 f_18 hp_16 g_24 f_30 hp_28 g_37 f_43 hp_41 c_103 g_105 f_111 hp_109 c_112 b_168 b_170 g_171 g_172 d_12 d_13 b_183 g_184 g_185 d_16 d_17 b_192 g_193 g_194 g_196 g_197; omega) | omega))⟩⟩⟩⟩⟩⟩⟩⟩⟩) | omega)), (Jn_n_readLine_4_mk (Or.inl ⟨c_103, ⟨r_106, G_107, hX_110, (Or.inr ⟨c_112, ⟨y_164, ey_164, ⟨G_165, hB_G_165, (Fr.put (rs := []) (fs := [(66, 51)]) Fr.rf eG_165 (Or.inr (by decide))), (gp_eq eG_165), ⟨r_173, G_174, hX_177, ⟨G_178, hB_G_178, (Fr.put (rs := []) (fs := [(66, 48)]) Fr.rf eG_178 (Or.inr (by decide))), (gp_eq eG_178), ⟨r_186, G_187, hX_190, ⟨(Fr.put (rs := []) (fs := [(66, 49)]) Fr.rf eG_191 (Or.inr (by decide))), (gp_eq eG_191)⟩⟩⟩⟩⟩⟩⟩)⟩⟩)), hW, hB_G_191, hF, (Fr.put (rs := [86]) (fs := [(66, 2), (66, 3), (66, 4), (66, 6), (66, 7), (66, 8), (66, 9), (66, 48), (66, 49), (66, 50), (66, 51)]) (Fr.call9 (rs := [86]) (fs := [(66, 2), (66, 3), (66, 4), (66, 6), (66, 7), (66, 8), (66, 9), (66, 48), (66, 49), (66, 50), (66, 51)]) (Fr.put (rs := [86]) (fs := [(66, 2), (66, 3), (66, 4), (66, 6), (66, 7), (66, 8), (66, 9), (66, 48), (66, 49), (66, 50), (66, 51)]) (Fr.call9 (rs := [86]) (fs := [(66, 2), (66, 3), (66, 4), (66, 6), (66, 7), (66, 8), (66, 9), (66, 48), (66, 49), (66, 50), (66, 51)]) (Fr.put (rs := [86]) (fs := [(66, 2), (66, 3), (66, 4), (66, 6), (66, 7), (66, 8), (66, 9), (66, 48), (66, 49), (66, 50), (66, 51)]) (Fr.call9 (rs := [86]) (fs := [(66, 2), (66, 3), (66, 4), (66, 6), (66, 7), (66, 8), (66, 9), (66, 48), (66, 49), (66, 50), (66, 51)]) Fr.rf hq_108 rfl rfl) eG_165 (Or.inr (by decide))) hq_175 rfl rfl) eG_178 (Or.inr (by decide))) hq_188 rfl rfl) eG_191 (Or.inr (by decide))), hS, lv_sub hl [0] rfl⟩
        · have c_103 : r_38.toInt ≠ 0 := xI_ne rfl rfl c_103
          refine lv_aload_n hx hb dX12_readLine_87 rfl (lv_at hl 0 rfl) ?_
          refine lv_dup hx hb dX12_readLine_88 rfl ?_
          refine S_getI (v := (G.1 66 51)) (C := RX12) (T := TX12) (N := 89) hx hb hg iX12 hown hK hW kd_66 rfl 51 (lt_b rfl) (hg (Cond.fieldLink RX12 391 "SlabWalkModel" "nOnce" "I") m1365) (fun _ h9 => h9) rfl ((hq_40.i9 66 51 rfl rfl).trans ((hq_34.i9 66 51 rfl rfl).trans ((hq_27.i9 66 51 rfl rfl).trans ((hq_22.i9 66 51 rfl rfl).trans ((hq_15.i9 66 51 rfl rfl).trans ((hq_10.i9 66 51 rfl rfl).trans (hq_3.i9 66 51 rfl rfl))))))) dX12_readLine_89 ?_
          refine ic_1 hx hb dX12_readLine_92 ?_
          refine lv_ior hx hb dX12_readLine_93 ?_
          refine lv_topi (fun y_203 ey_203 => ?_)
          refine S_putI (ty := .int) (C := RX12) (T := TX12) (N := 89) hx hb hg iX12 tyX12 tyX12_ok nmX12 hown hK hW hS kd_66 rfl 51 (lt_b rfl) (hg (Cond.fieldLink RX12 391 "SlabWalkModel" "nOnce" "I") m1365) (fun _ h9 => h9) rfl (by decide +kernel) rfl rfl rfl dX12_readLine_94 (fun G_204 H locs eG_204 hW hS => ?_)
          have hB_G_204 : Bd G_204 := hB_G_39.put (lo := (-2147483648)) (hi := 2147483647) eG_204 rfl rfl rfl (tI_rng _).1 (tI_rng _).2 (hB_G_39.2.put eG_204 rfl)
          have hF := hF.put eG_204 (Or.inr (by decide))
          refine lv_aload_n hx hb dX12_readLine_97 rfl (lv_at hl 0 rfl) ?_
          have b_205 : 0 ≤ (G.1 66 2).toInt ∧ (G.1 66 2).toInt ≤ 4 := bd_66_2 hB_G
          have g_206 : (G_204.1 66 2).toInt = (G.1 66 2).toInt := (congrArg Int32.toInt (show G_204.1 66 2 = (G.1 66 2) from ((gp_ne eG_204 (by decide)).trans ((hq_40.i9 66 2 rfl rfl).trans ((hq_34.i9 66 2 rfl rfl).trans ((hq_27.i9 66 2 rfl rfl).trans ((hq_22.i9 66 2 rfl rfl).trans ((hq_15.i9 66 2 rfl rfl).trans ((hq_10.i9 66 2 rfl rfl).trans (hq_3.i9 66 2 rfl rfl))))))))))
          have b_207 : 0 ≤ (G.1 66 4).toInt ∧ (G.1 66 4).toInt ≤ 1600 := bd_66_4 hB_G
          have g_208 : (G_204.1 66 4).toInt = (G.1 66 4).toInt := (congrArg Int32.toInt (show G_204.1 66 4 = (G.1 66 4) from ((gp_ne eG_204 (by decide)).trans ((hq_40.i9 66 4 rfl rfl).trans ((hq_34.i9 66 4 rfl rfl).trans ((hq_27.i9 66 4 rfl rfl).trans ((hq_22.i9 66 4 rfl rfl).trans ((hq_15.i9 66 4 rfl rfl).trans ((hq_10.i9 66 4 rfl rfl).trans (hq_3.i9 66 4 rfl rfl))))))))))
          have g_209 : (G_204.1 66 6).toInt = (G.1 66 6).toInt := (congrArg Int32.toInt (show G_204.1 66 6 = (G.1 66 6) from ((gp_ne eG_204 (by decide)).trans ((hq_40.i9 66 6 rfl rfl).trans ((hq_34.i9 66 6 rfl rfl).trans ((hq_27.i9 66 6 rfl rfl).trans ((hq_22.i9 66 6 rfl rfl).trans ((hq_15.i9 66 6 rfl rfl).trans ((hq_10.i9 66 6 rfl rfl).trans ((hq_3.i9 66 6 rfl rfl).trans (rfl)))))))))))
          refine S_callv (va_runV (As := []) (rest := []) ⟨hx, hb, hml, hown, hts⟩ (n_readSlip l D k A a z G_204  ((by first | (clear hE9 hN9 hS9 f_6 hp_4 g_12 f_18 hp_16 g_24 f_30 hp_28 g_37 f_43 hp_41 c_103 b_207 g_208 g_209; omega) | omega))) (cwV 0 hts (gd_V hgd m1765 m1767 m82 m131 m1768) rfl rfl rfl hd_X12_readSlip ⟨Nat.le_of_ble_eq_true rfl, Nat.le_of_ble_eq_true rfl⟩) (pre_W hW hB_G_204 hK hZ hS kd_66 rfl) rfl rfl hl.1 rfl (lv_room (Nat.le_of_ble_eq_true rfl)) dX12_readLine_98 ⟨Nat.le_of_ble_eq_true rfl, Nat.le_of_ble_eq_true rfl⟩) hS (fun G_211 H locs hpo hW hS => ?_)
          have hX_214 : Q_readSlip G_204 G_211 := hpo
          obtain ⟨hB_G_211, hq_212, ⟨d_20, d_21, d_22⟩, -⟩ := hpo
          have hF := hF.call9 hq_212 rfl rfl
          refine lv_goto (tgt := 200) hx hb dX12_readLine_101 rfl ?_
          have b_215 : 0 ≤ (G_211.1 66 4).toInt ∧ (G_211.1 66 4).toInt ≤ 1600 := bd_66_4 hB_G_211
          have fr_216 : Fr [86] [(66, 2), (66, 3), (66, 4), (66, 6), (66, 7), (66, 8), (66, 9), (66, 51)] G G_211 := (Fr.call9 (rs := [86]) (fs := [(66, 2), (66, 3), (66, 4), (66, 6), (66, 7), (66, 8), (66, 9), (66, 51)]) (Fr.put (rs := [86]) (fs := [(66, 2), (66, 3), (66, 4), (66, 6), (66, 7), (66, 8), (66, 9), (66, 51)]) (Fr.call9 (rs := [86]) (fs := [(66, 2), (66, 3), (66, 4), (66, 6), (66, 7), (66, 8), (66, 9), (66, 51)]) (Fr.call9 (rs := [86]) (fs := [(66, 2), (66, 3), (66, 4), (66, 6), (66, 7), (66, 8), (66, 9), (66, 51)]) (Fr.call9 (rs := [86]) (fs := [(66, 2), (66, 3), (66, 4), (66, 6), (66, 7), (66, 8), (66, 9), (66, 51)]) (Fr.call9 (rs := [86]) (fs := [(66, 2), (66, 3), (66, 4), (66, 6), (66, 7), (66, 8), (66, 9), (66, 51)]) (Fr.call9 (rs := [86]) (fs := [(66, 2), (66, 3), (66, 4), (66, 6), (66, 7), (66, 8), (66, 9), (66, 51)]) (Fr.call9 (rs := [86]) (fs := [(66, 2), (66, 3), (66, 4), (66, 6), (66, 7), (66, 8), (66, 9), (66, 51)]) (Fr.call9 (rs := [86]) (fs := [(66, 2), (66, 3), (66, 4), (66, 6), (66, 7), (66, 8), (66, 9), (66, 51)]) Fr.rf hq_3 rfl rfl) hq_10 rfl rfl) hq_15 rfl rfl) hq_22 rfl rfl) hq_27 rfl rfl) hq_34 rfl rfl) hq_40 rfl rfl) eG_204 (Or.inr (by decide))) hq_212 rfl rfl)
          have g_217 : gE G_211 = gE G := gE_fr fr_216 (gr_q rfl) (gf_q rfl)
          have g_218 : gN G_211 = gN G := gN_fr fr_216 (gr_q rfl) (gf_q rfl)
          have b_219 : 0 ≤ (G_211.1 66 2).toInt ∧ (G_211.1 66 2).toInt ≤ 4 := bd_66_2 hB_G_211
          exact hJ_46 () _ _ _ ⟨G_211, ((by first | exact ⟨((by first | (clear hnf hE9 hN9 hS9 f_6 f_18 f_30 f_43 c_103 b_205 g_206 d_22 g_217 g_218 b_219; omega) | omega)), (fun h9 => by have q0_ := d_21 (by first | (clear hnf hE9 hN9 hS9 f_6 hp_4 g_12 f_18 hp_16 g_24 f_30 hp_28 g_37 f_43 hp_41 c_103 b_205 g_206 g_209 d_21 d_22 g_217 g_218 b_219; omega) | omega); (first | (clear hnf hE9 hN9 hS9 f_6 hp_4 f_18 hp_16 f_30 hp_28 f_43 hp_41 c_103 b_205 g_206 b_207 g_208 d_20 d_21 d_22 b_215 g_217 g_218 b_219; omega) | omega))⟩ | omega)), ((by first | exact (fun h9 => ⟨((by first | (clear hnf hE9 hN9 hS9 b_205 g_206 g_217 g_218; omega) | omega)), ⟨((by first | (clear hnf hN9 hS9 f_6 hp_4 g_12 f_18 hp_16 g_24 f_30 hp_28 g_37 f_43 hp_41 c_103 b_205 g_206 b_207 g_208 g_209 d_20 d_21 b_215 g_218; omega) | omega)), ⟨((by first | (clear hnf hE9 hS9 f_6 hp_4 g_12 f_18 hp_16 g_24 f_30 hp_28 g_37 f_43 hp_41 c_103 b_205 g_206 b_207 g_208 g_209 d_20 d_21 b_215 g_217; omega) | omega)), ⟨((by first | (clear hnf hE9 hN9 hS9 f_6 hp_4 g_12 f_18 hp_16 g_24 f_30 hp_28 g_37 f_43 hp_41 c_103 b_205 g_206 b_207 g_208 g_209 d_20 d_21 b_215 g_217 g_218; omega) | omega)), ⟨((by first | (clear hnf hE9 hN9 hS9 f_6 hp_4 g_12 f_18 hp_16 g_24 f_30 hp_28 g_37 f_43 hp_41 c_103 b_205 g_206 b_207 g_208 g_209 d_20 d_21 b_215 g_217 g_218; omega) | omega)), ⟨((by first | (clear hnf hE9 hN9 hS9 f_6 hp_4 g_12 f_18 hp_16 g_24 f_30 hp_28 g_37 f_43 hp_41 c_103 b_205 g_206 b_207 g_208 g_209 d_20 d_21 b_215 g_217 g_218; omega) | omega)), ⟨((by first | (clear hnf hE9 hN9 hS9 f_6 hp_4 g_12 f_18 hp_16 g_24 f_30 hp_28 g_37 f_43 hp_41 c_103 b_205 g_206 b_207 g_208 g_209 d_20 d_21 b_215 g_217 g_218; omega) | omega)), ⟨((by first | (clear hnf hE9 hN9 hS9 f_6 hp_4 g_12 f_18 hp_16 g_24 f_30 hp_28 g_37 f_43 hp_41 c_103 b_205 g_206 b_207 g_208 g_209 d_20 d_21 b_215 g_217 g_218; omega) | omega)), ⟨((by first | (clear hnf hE9 hN9 hS9 f_6 hp_4 g_12 f_18 hp_16 g_24 f_30 hp_28 g_37 f_43 hp_41 c_103 b_205 g_206 b_207 g_208 g_209 d_20 d_21 b_215 g_217 g_218; omega) | omega)), ((by first | (clear hnf hE9 hN9 hS9 f_6 hp_4 g_12 f_18 hp_16 g_24 f_30 hp_28 g_37 f_43 hp_41 c_103 b_205 g_206 b_207 g_208 g_209 d_20 d_21 b_215 g_217 g_218; omega) | omega))⟩⟩⟩⟩⟩⟩⟩⟩⟩) | omega)), (Jn_n_readLine_4_mk (Or.inr ⟨c_103, ⟨y_203, ey_203, ⟨G_204, hB_G_204, (Fr.put (rs := []) (fs := [(66, 51)]) Fr.rf eG_204 (Or.inr (by decide))), (gp_eq eG_204), ⟨G_211, hX_214, rfl⟩⟩⟩⟩)), hW, hB_G_211, hF, (Fr.call9 (rs := [86]) (fs := [(66, 2), (66, 3), (66, 4), (66, 6), (66, 7), (66, 8), (66, 9), (66, 48), (66, 49), (66, 50), (66, 51)]) (Fr.put (rs := [86]) (fs := [(66, 2), (66, 3), (66, 4), (66, 6), (66, 7), (66, 8), (66, 9), (66, 48), (66, 49), (66, 50), (66, 51)]) Fr.rf eG_204 (Or.inr (by decide))) hq_212 rfl rfl), hS, lv_sub hl [0] rfl⟩
      refine lv_if_eq (tgt := 76) hx hb dX12_readLine_57 rfl (fun c_220 => ?_) (fun c_220 => ?_)
      · have c_220 : r_25.toInt = 0 := xI_eq rfl rfl c_220
        exact hJ_33 () _ _ _ ⟨G_26, (Jn_n_readLine_3_mk (Or.inl ⟨c_220, rfl⟩)), hW, hB_G_26, hF, (Fr.rf (rs := []) (fs := [])), hS, lv_sub hl [0] rfl⟩
      · have c_220 : r_25.toInt ≠ 0 := xI_ne rfl rfl c_220
        refine lv_aload_n hx hb dX12_readLine_60 rfl (lv_at hl 0 rfl) ?_
        have b_221 : 0 ≤ (G.1 66 47).toInt ∧ (G.1 66 47).toInt ≤ 6 := bd_66_47 hB_G
        refine S_getI (v := (G.1 66 47)) (C := RX12) (T := TX12) (N := 89) hx hb hg iX12 hown hK hW kd_66 rfl 47 (lt_b rfl) (hg (Cond.fieldLink RX12 385 "SlabWalkModel" "nRules" "I") m1361) (fun _ h9 => h9) rfl ((hq_27.i9 66 47 rfl rfl).trans ((hq_22.i9 66 47 rfl rfl).trans ((hq_15.i9 66 47 rfl rfl).trans ((hq_10.i9 66 47 rfl rfl).trans (hq_3.i9 66 47 rfl rfl))))) dX12_readLine_61 ?_
        refine lv_bipush (v := 6) hx hb dX12_readLine_64 (by decide) ?_
        refine lv_icmp_ge (tgt := 76) hx hb dX12_readLine_66 rfl (fun c_222 => ?_) (fun c_222 => ?_)
        · have c_222 : 6 ≤ (G.1 66 47).toInt := xI_le rfl rfl c_222
          exact hJ_33 () _ _ _ ⟨G_26, (Jn_n_readLine_3_mk (Or.inr ⟨c_220, ⟨c_222, rfl⟩⟩)), hW, hB_G_26, hF, (Fr.rf (rs := []) (fs := [])), hS, lv_sub hl [0] rfl⟩
        · have c_222 : (G.1 66 47).toInt < 6 := xI_nle rfl rfl c_222
          refine lv_aload_n hx hb dX12_readLine_69 rfl (lv_at hl 0 rfl) ?_
          have b_223 : 0 ≤ (G.1 66 2).toInt ∧ (G.1 66 2).toInt ≤ 4 := bd_66_2 hB_G
          have g_224 : (G_26.1 66 2).toInt = (G.1 66 2).toInt := (congrArg Int32.toInt (show G_26.1 66 2 = (G.1 66 2) from ((hq_27.i9 66 2 rfl rfl).trans ((hq_22.i9 66 2 rfl rfl).trans ((hq_15.i9 66 2 rfl rfl).trans ((hq_10.i9 66 2 rfl rfl).trans (hq_3.i9 66 2 rfl rfl)))))))
          have g_225 : (G_26.1 66 47).toInt = (G.1 66 47).toInt := (congrArg Int32.toInt (show G_26.1 66 47 = (G.1 66 47) from ((hq_27.i9 66 47 rfl rfl).trans ((hq_22.i9 66 47 rfl rfl).trans ((hq_15.i9 66 47 rfl rfl).trans ((hq_10.i9 66 47 rfl rfl).trans ((hq_3.i9 66 47 rfl rfl).trans (rfl))))))))
          have fr_226 : Fr [] [] G G_26 := (Fr.call9 (rs := []) (fs := []) (Fr.call9 (rs := []) (fs := []) (Fr.call9 (rs := []) (fs := []) (Fr.call9 (rs := []) (fs := []) (Fr.call9 (rs := []) (fs := []) Fr.rf hq_3 rfl rfl) hq_10 rfl rfl) hq_15 rfl rfl) hq_22 rfl rfl) hq_27 rfl rfl)
          have g_227 : gE G_26 = gE G := gE_fr fr_226 (gr_q rfl) (gf_q rfl)
          have b_228 : 0 ≤ (G.1 66 4).toInt ∧ (G.1 66 4).toInt ≤ 1600 := bd_66_4 hB_G
          have g_229 : (G_26.1 66 4).toInt = (G.1 66 4).toInt := (congrArg Int32.toInt (show G_26.1 66 4 = (G.1 66 4) from ((hq_27.i9 66 4 rfl rfl).trans ((hq_22.i9 66 4 rfl rfl).trans ((hq_15.i9 66 4 rfl rfl).trans ((hq_10.i9 66 4 rfl rfl).trans (hq_3.i9 66 4 rfl rfl)))))))
          have g_230 : (G_26.1 66 6).toInt = (G.1 66 6).toInt := (congrArg Int32.toInt (show G_26.1 66 6 = (G.1 66 6) from ((hq_27.i9 66 6 rfl rfl).trans ((hq_22.i9 66 6 rfl rfl).trans ((hq_15.i9 66 6 rfl rfl).trans ((hq_10.i9 66 6 rfl rfl).trans ((hq_3.i9 66 6 rfl rfl).trans (rfl))))))))
          refine S_callv (va_runV (As := []) (rest := []) ⟨hx, hb, hml, hown, hts⟩ (n_readRule l D k A a z G_26  ((by first | (clear hE9 hN9 hS9 f_6 hp_4 g_12 f_18 hp_16 g_24 f_30 hp_28 c_220 b_221 c_222 g_225 g_227 b_228 g_229 g_230; omega) | omega)) ((by first | (clear hnf hE9 hN9 hS9 f_6 hp_4 g_12 f_18 hp_16 g_24 f_30 hp_28 c_220 b_223 g_224 g_227 b_228 g_229 g_230; omega) | omega)) ((by first | (clear hnf hN9 hS9 f_6 hp_4 g_12 f_18 hp_16 g_24 f_30 hp_28 c_220 b_221 c_222 b_223 g_224 g_225 b_228 g_229 g_230; omega) | omega))) (cwV 0 hts (gd_V hgd m1706 m1708 m68 m131 m1709) rfl rfl rfl hd_X12_readRule ⟨Nat.le_of_ble_eq_true rfl, Nat.le_of_ble_eq_true rfl⟩) (pre_W hW hB_G_26 hK hZ hS kd_66 rfl) rfl rfl hl.1 rfl (lv_room (Nat.le_of_ble_eq_true rfl)) dX12_readLine_70 ⟨Nat.le_of_ble_eq_true rfl, Nat.le_of_ble_eq_true rfl⟩) hS (fun G_232 H locs hpo hW hS => ?_)
          have hX_235 : Q_readRule G_26 G_232 := hpo
          obtain ⟨hB_G_232, hq_233, ⟨d_23, d_24, d_25⟩, -⟩ := hpo
          have hF := hF.call9 hq_233 rfl rfl
          refine lv_goto (tgt := 200) hx hb dX12_readLine_73 rfl ?_
          refine lv_aload_n hx hb dX12_readLine_200 rfl (lv_at hl 0 rfl) ?_
          have b_236 : 0 ≤ (G_232.1 66 2).toInt ∧ (G_232.1 66 2).toInt ≤ 4 := bd_66_2 hB_G_232
          refine S_getI (v := (G_232.1 66 2)) (C := RX12) (T := TX12) (N := 89) hx hb hg iX12 hown hK hW kd_66 rfl 2 (lt_b rfl) (hg (Cond.fieldLink RX12 218 "SlabWalkModel" "fault" "I") m1316) (fun _ h9 => h9) rfl rfl dX12_readLine_201 ?_
          refine lv_if_ne (tgt := 221) hx hb dX12_readLine_204 rfl (fun c_237 => ?_) (fun c_237 => ?_)
          · have c_237 : (G_232.1 66 2).toInt ≠ 0 := xI_ne rfl rfl c_237
            refine lv_aload_n hx hb dX12_readLine_221 rfl (lv_at hl 0 rfl) ?_
            refine S_getI (v := (G_232.1 66 2)) (C := RX12) (T := TX12) (N := 89) hx hb hg iX12 hown hK hW kd_66 rfl 2 (lt_b rfl) (hg (Cond.fieldLink RX12 218 "SlabWalkModel" "fault" "I") m1316) (fun _ h9 => h9) rfl rfl dX12_readLine_222 ?_
            refine lv_if_ne (tgt := 232) hx hb dX12_readLine_225 rfl (fun c_238 => ?_) (fun c_238 => ?_)
            · have c_238 : (G_232.1 66 2).toInt ≠ 0 := xI_ne rfl rfl c_238
              have fr_239 : Fr [68, 69, 70, 71, 75] [(66, 2), (66, 3), (66, 4), (66, 6), (66, 7), (66, 8), (66, 9), (66, 19), (66, 20), (66, 21), (66, 23), (66, 24), (66, 47)] G G_232 := (Fr.call9 (rs := [68, 69, 70, 71, 75]) (fs := [(66, 2), (66, 3), (66, 4), (66, 6), (66, 7), (66, 8), (66, 9), (66, 19), (66, 20), (66, 21), (66, 23), (66, 24), (66, 47)]) (Fr.call9 (rs := [68, 69, 70, 71, 75]) (fs := [(66, 2), (66, 3), (66, 4), (66, 6), (66, 7), (66, 8), (66, 9), (66, 19), (66, 20), (66, 21), (66, 23), (66, 24), (66, 47)]) (Fr.call9 (rs := [68, 69, 70, 71, 75]) (fs := [(66, 2), (66, 3), (66, 4), (66, 6), (66, 7), (66, 8), (66, 9), (66, 19), (66, 20), (66, 21), (66, 23), (66, 24), (66, 47)]) (Fr.call9 (rs := [68, 69, 70, 71, 75]) (fs := [(66, 2), (66, 3), (66, 4), (66, 6), (66, 7), (66, 8), (66, 9), (66, 19), (66, 20), (66, 21), (66, 23), (66, 24), (66, 47)]) (Fr.call9 (rs := [68, 69, 70, 71, 75]) (fs := [(66, 2), (66, 3), (66, 4), (66, 6), (66, 7), (66, 8), (66, 9), (66, 19), (66, 20), (66, 21), (66, 23), (66, 24), (66, 47)]) (Fr.call9 (rs := [68, 69, 70, 71, 75]) (fs := [(66, 2), (66, 3), (66, 4), (66, 6), (66, 7), (66, 8), (66, 9), (66, 19), (66, 20), (66, 21), (66, 23), (66, 24), (66, 47)]) Fr.rf hq_3 rfl rfl) hq_10 rfl rfl) hq_15 rfl rfl) hq_22 rfl rfl) hq_27 rfl rfl) hq_233 rfl rfl)
              have g_240 : gN G_232 = gN G := gN_fr fr_239 (gr_q rfl) (gf_q rfl)
              have b_241 : 0 ≤ (G_232.1 66 4).toInt ∧ (G_232.1 66 4).toInt ≤ 1600 := bd_66_4 hB_G_232
              have g_242 : (G_232.1 86 0).toInt = (G.1 86 0).toInt := (congrArg Int32.toInt (show G_232.1 86 0 = (G.1 86 0) from ((hq_233.i9 86 0 rfl rfl).trans ((hq_27.i9 86 0 rfl rfl).trans ((hq_22.i9 86 0 rfl rfl).trans ((hq_15.i9 86 0 rfl rfl).trans ((hq_10.i9 86 0 rfl rfl).trans (hq_3.i9 86 0 rfl rfl))))))))
              have g_243 : (G_232.1 86 1).toInt = (G.1 86 1).toInt := (congrArg Int32.toInt (show G_232.1 86 1 = (G.1 86 1) from ((hq_233.i9 86 1 rfl rfl).trans ((hq_27.i9 86 1 rfl rfl).trans ((hq_22.i9 86 1 rfl rfl).trans ((hq_15.i9 86 1 rfl rfl).trans ((hq_10.i9 86 1 rfl rfl).trans (hq_3.i9 86 1 rfl rfl))))))))
              have g_244 : (G_232.1 86 2).toInt = (G.1 86 2).toInt := (congrArg Int32.toInt (show G_232.1 86 2 = (G.1 86 2) from ((hq_233.i9 86 2 rfl rfl).trans ((hq_27.i9 86 2 rfl rfl).trans ((hq_22.i9 86 2 rfl rfl).trans ((hq_15.i9 86 2 rfl rfl).trans ((hq_10.i9 86 2 rfl rfl).trans (hq_3.i9 86 2 rfl rfl))))))))
              exact W.vret hx hb hr (fun t ht _ => ⟨⟨G_232, rfl, (Q_readLine_mk ⟨hB_G_232, hF, ((by first | exact ⟨((by first | (clear hnf hE9 hN9 hS9 f_6 f_18 f_30 c_220 b_221 c_222 b_223 g_224 g_225 g_227 d_25 b_236 c_237 c_238 g_240 g_242 g_243 g_244; omega) | omega)), (fun h9 => ⟨((by first | (clear hnf hE9 hN9 hS9 f_6 f_18 f_30 c_220 b_221 c_222 b_223 g_224 g_225 g_227 d_25 g_240 g_242 g_243 g_244; omega) | omega)), ⟨((by first | (clear hnf hE9 hN9 hS9 f_6 hp_4 g_12 f_18 hp_16 g_24 f_30 hp_28 c_220 b_221 c_222 b_223 g_224 g_225 g_227 b_228 g_229 g_230 d_23 d_24 d_25 g_240 b_241 g_242 g_243 g_244; omega) | omega)), ⟨((by first | (clear hnf hE9 hS9 f_6 hp_4 g_12 f_18 hp_16 g_24 f_30 hp_28 c_220 b_221 c_222 b_223 g_224 g_225 g_227 b_228 g_229 g_230 d_23 d_24 d_25 b_241 g_242 g_243 g_244; omega) | omega)), ⟨((by first | (clear hnf hE9 hN9 f_6 hp_4 g_12 f_18 hp_16 g_24 f_30 hp_28 c_220 b_221 c_222 b_223 g_224 g_225 g_227 b_228 g_229 g_230 d_23 d_24 d_25 g_240 b_241; omega) | omega)), ⟨((by first | (clear hnf hE9 hN9 f_6 hp_4 g_12 f_18 hp_16 g_24 f_30 hp_28 c_220 b_221 c_222 b_223 g_224 g_225 g_227 b_228 g_229 g_230 d_23 d_24 d_25 g_240 b_241; omega) | omega)), ⟨((by first | (clear hnf hE9 hN9 f_6 hp_4 g_12 f_18 hp_16 g_24 f_30 hp_28 c_220 b_221 c_222 b_223 g_224 g_225 g_227 b_228 g_229 g_230 d_23 d_24 d_25 g_240 b_241; omega) | omega)), ⟨((by first | (clear hnf hE9 hN9 f_6 hp_4 g_12 f_18 hp_16 g_24 f_30 hp_28 c_220 b_221 c_222 b_223 g_224 g_225 g_227 b_228 g_229 g_230 d_23 d_24 d_25 g_240 b_241; omega) | omega)), ⟨((by first | (clear hnf hE9 hN9 f_6 hp_4 g_12 f_18 hp_16 g_24 f_30 hp_28 c_220 b_221 c_222 b_223 g_224 g_225 g_227 b_228 g_229 g_230 d_23 d_24 d_25 g_240 b_241; omega) | omega)), ⟨((by first | (clear hnf hE9 hN9 f_6 hp_4 g_12 f_18 hp_16 g_24 f_30 hp_28 c_220 b_221 c_222 b_223 g_224 g_225 g_227 b_228 g_229 g_230 d_23 d_24 d_25 g_240 b_241; omega) | omega)), ((by first | (clear hnf hE9 hN9 f_6 hp_4 g_12 f_18 hp_16 g_24 f_30 hp_28 c_220 b_221 c_222 b_223 g_224 g_225 g_227 b_228 g_229 g_230 d_23 d_24 d_25 g_240 b_241; omega) | omega))⟩⟩⟩⟩⟩⟩⟩⟩⟩)⟩ | omega)), ⟨r_1, G_2, hX_5, (Or.inr ⟨G_8, hX_11, hB_G_8, hq_10, ⟨r_13, G_14, hX_17, (Or.inr ⟨G_20, hX_23, hB_G_20, hq_22, ⟨r_25, G_26, hX_29, (Or.inl ⟨c_220, ⟨c_222, ⟨G_232, hX_235, (Or.inr ⟨c_237, rfl⟩)⟩⟩⟩)⟩⟩)⟩⟩)⟩⟩), wd_t ht hW⟩, hS.F ht⟩) hS.2.2 dX12_readLine_232
            · have c_238 : (G_232.1 66 2).toInt = 0 := xI_eq rfl rfl c_238
              exfalso; first | (clear hnf hE9 hN9 hS9 f_6 hp_4 g_12 f_18 hp_16 g_24 f_30 hp_28 c_220 b_221 c_222 b_223 g_224 g_225 g_227 b_228 g_229 g_230 d_23 d_24 d_25; omega) | omega
          · have c_237 : (G_232.1 66 2).toInt = 0 := xI_eq rfl rfl c_237
            have d_26 := d_25 c_237
            refine lv_aload_n hx hb dX12_readLine_207 rfl (lv_at hl 0 rfl) ?_
            refine S_getI (v := (G_232.1 66 6)) (C := RX12) (T := TX12) (N := 89) hx hb hg iX12 hown hK hW kd_66 rfl 6 (lt_b rfl) (hg (Cond.fieldLink RX12 205 "SlabWalkModel" "sort" "I") m1320) (fun _ h9 => h9) rfl rfl dX12_readLine_208 ?_
            refine lv_bipush (v := 59) hx hb dX12_readLine_211 (by decide) ?_
            refine lv_icmp_eq (tgt := 221) hx hb dX12_readLine_213 rfl (fun c_245 => ?_) (fun c_245 => ?_)
            · have c_245 : (G_232.1 66 6).toInt = 59 := xI_eq rfl rfl c_245
              refine lv_aload_n hx hb dX12_readLine_221 rfl (lv_at hl 0 rfl) ?_
              refine S_getI (v := (G_232.1 66 2)) (C := RX12) (T := TX12) (N := 89) hx hb hg iX12 hown hK hW kd_66 rfl 2 (lt_b rfl) (hg (Cond.fieldLink RX12 218 "SlabWalkModel" "fault" "I") m1316) (fun _ h9 => h9) rfl rfl dX12_readLine_222 ?_
              refine lv_if_ne (tgt := 232) hx hb dX12_readLine_225 rfl (fun c_246 => ?_) (fun c_246 => ?_)
              · have c_246 : (G_232.1 66 2).toInt ≠ 0 := xI_ne rfl rfl c_246
                exfalso; first | (clear hnf hE9 hN9 hS9 f_6 hp_4 g_12 f_18 hp_16 g_24 f_30 hp_28 c_220 b_221 c_222 b_223 g_224 g_225 g_227 b_228 g_229 g_230 d_23 d_24 d_25 c_245; omega) | omega
              · have c_246 : (G_232.1 66 2).toInt = 0 := xI_eq rfl rfl c_246
                refine lv_aload_n hx hb dX12_readLine_228 rfl (lv_at hl 0 rfl) ?_
                have b_247 : 0 ≤ (G_232.1 66 4).toInt ∧ (G_232.1 66 4).toInt ≤ 1600 := bd_66_4 hB_G_232
                refine S_callv (va_runV (As := []) (rest := []) ⟨hx, hb, hml, hown, hts⟩ (n_token l D k A a z G_232  ) (cwV 0 hts (gd_V hgd m1602 m1604 m50 m131 m1605) rfl rfl rfl hd_X12_token ⟨Nat.le_of_ble_eq_true rfl, Nat.le_of_ble_eq_true rfl⟩) (pre_W hW hB_G_232 hK hZ hS kd_66 rfl) rfl rfl hl.1 rfl (lv_room (Nat.le_of_ble_eq_true rfl)) dX12_readLine_229 ⟨Nat.le_of_ble_eq_true rfl, Nat.le_of_ble_eq_true rfl⟩) hS (fun G_249 H locs hpo hW hS => ?_)
                have hX_252 : Q_token G_232 G_249 := hpo
                obtain ⟨hB_G_249, hq_250, ⟨d_27, d_28⟩, -⟩ := hpo
                have hF := hF.call9 hq_250 rfl rfl
                have fr_253 : Fr [] [(66, 4), (66, 6), (66, 7), (66, 8), (66, 9)] G_232 G_249 := (Fr.call9 (rs := []) (fs := [(66, 4), (66, 6), (66, 7), (66, 8), (66, 9)]) Fr.rf hq_250 rfl rfl)
                have g_254 : gE G_249 = gE G_232 := gE_fr fr_253 (gr_q rfl) (gf_q rfl)
                have fr_255 : Fr [68, 69, 70, 71, 75] [(66, 2), (66, 3), (66, 4), (66, 6), (66, 7), (66, 8), (66, 9), (66, 19), (66, 20), (66, 21), (66, 23), (66, 24), (66, 47)] G G_249 := (Fr.call9 (rs := [68, 69, 70, 71, 75]) (fs := [(66, 2), (66, 3), (66, 4), (66, 6), (66, 7), (66, 8), (66, 9), (66, 19), (66, 20), (66, 21), (66, 23), (66, 24), (66, 47)]) (Fr.call9 (rs := [68, 69, 70, 71, 75]) (fs := [(66, 2), (66, 3), (66, 4), (66, 6), (66, 7), (66, 8), (66, 9), (66, 19), (66, 20), (66, 21), (66, 23), (66, 24), (66, 47)]) (Fr.call9 (rs := [68, 69, 70, 71, 75]) (fs := [(66, 2), (66, 3), (66, 4), (66, 6), (66, 7), (66, 8), (66, 9), (66, 19), (66, 20), (66, 21), (66, 23), (66, 24), (66, 47)]) (Fr.call9 (rs := [68, 69, 70, 71, 75]) (fs := [(66, 2), (66, 3), (66, 4), (66, 6), (66, 7), (66, 8), (66, 9), (66, 19), (66, 20), (66, 21), (66, 23), (66, 24), (66, 47)]) (Fr.call9 (rs := [68, 69, 70, 71, 75]) (fs := [(66, 2), (66, 3), (66, 4), (66, 6), (66, 7), (66, 8), (66, 9), (66, 19), (66, 20), (66, 21), (66, 23), (66, 24), (66, 47)]) (Fr.call9 (rs := [68, 69, 70, 71, 75]) (fs := [(66, 2), (66, 3), (66, 4), (66, 6), (66, 7), (66, 8), (66, 9), (66, 19), (66, 20), (66, 21), (66, 23), (66, 24), (66, 47)]) (Fr.call9 (rs := [68, 69, 70, 71, 75]) (fs := [(66, 2), (66, 3), (66, 4), (66, 6), (66, 7), (66, 8), (66, 9), (66, 19), (66, 20), (66, 21), (66, 23), (66, 24), (66, 47)]) Fr.rf hq_3 rfl rfl) hq_10 rfl rfl) hq_15 rfl rfl) hq_22 rfl rfl) hq_27 rfl rfl) hq_233 rfl rfl) hq_250 rfl rfl)
                have g_256 : gN G_249 = gN G := gN_fr fr_255 (gr_q rfl) (gf_q rfl)
                have g_257 : (G_249.1 66 2).toInt = (G_232.1 66 2).toInt := (congrArg Int32.toInt (show G_249.1 66 2 = (G_232.1 66 2) from ((hq_250.i9 66 2 rfl rfl).trans (rfl))))
                have b_258 : 0 ≤ (G_249.1 66 4).toInt ∧ (G_249.1 66 4).toInt ≤ 1600 := bd_66_4 hB_G_249
                have g_259 : (G_249.1 86 0).toInt = (G.1 86 0).toInt := (congrArg Int32.toInt (show G_249.1 86 0 = (G.1 86 0) from ((hq_250.i9 86 0 rfl rfl).trans ((hq_233.i9 86 0 rfl rfl).trans ((hq_27.i9 86 0 rfl rfl).trans ((hq_22.i9 86 0 rfl rfl).trans ((hq_15.i9 86 0 rfl rfl).trans ((hq_10.i9 86 0 rfl rfl).trans (hq_3.i9 86 0 rfl rfl)))))))))
                have g_260 : (G_249.1 86 1).toInt = (G.1 86 1).toInt := (congrArg Int32.toInt (show G_249.1 86 1 = (G.1 86 1) from ((hq_250.i9 86 1 rfl rfl).trans ((hq_233.i9 86 1 rfl rfl).trans ((hq_27.i9 86 1 rfl rfl).trans ((hq_22.i9 86 1 rfl rfl).trans ((hq_15.i9 86 1 rfl rfl).trans ((hq_10.i9 86 1 rfl rfl).trans (hq_3.i9 86 1 rfl rfl)))))))))
                have g_261 : (G_249.1 86 2).toInt = (G.1 86 2).toInt := (congrArg Int32.toInt (show G_249.1 86 2 = (G.1 86 2) from ((hq_250.i9 86 2 rfl rfl).trans ((hq_233.i9 86 2 rfl rfl).trans ((hq_27.i9 86 2 rfl rfl).trans ((hq_22.i9 86 2 rfl rfl).trans ((hq_15.i9 86 2 rfl rfl).trans ((hq_10.i9 86 2 rfl rfl).trans (hq_3.i9 86 2 rfl rfl)))))))))
                exact W.vret hx hb hr (fun t ht _ => ⟨⟨G_249, rfl, (Q_readLine_mk ⟨hB_G_249, hF, ((by first | exact ⟨((by first | (clear hnf hE9 hN9 hS9 f_6 f_18 f_30 c_220 b_221 c_222 b_223 g_224 g_225 g_227 d_25 b_236 c_237 d_26 c_246 g_254 g_256 g_257 g_259 g_260 g_261; omega) | omega)), (fun h9 => ⟨((by first | (clear hnf hE9 hN9 hS9 f_6 f_18 f_30 c_220 b_221 c_222 b_223 g_224 g_225 g_227 d_25 g_256 g_259 g_260 g_261; omega) | omega)), ⟨((by first | (clear hnf hE9 hN9 hS9 f_6 hp_4 g_12 f_18 hp_16 g_24 f_30 hp_28 c_220 b_221 c_222 b_223 g_224 g_225 g_227 b_228 g_229 g_230 d_23 d_24 d_25 c_245 b_247 d_27 d_28 g_256 b_258 g_259 g_260 g_261; omega) | omega)), ⟨((by first | (clear hnf hE9 hS9 f_6 hp_4 g_12 f_18 hp_16 g_24 f_30 hp_28 c_220 b_221 c_222 b_223 g_224 g_225 g_227 b_228 g_229 g_230 d_23 d_24 d_25 c_245 b_247 d_27 d_28 b_258 g_259 g_260 g_261; omega) | omega)), ⟨((by first | (clear hnf hE9 hN9 f_6 hp_4 g_12 f_18 hp_16 g_24 f_30 hp_28 c_220 b_221 c_222 b_223 g_224 g_225 g_227 b_228 g_229 g_230 d_23 d_24 d_25 c_245 b_247 d_27 d_28 g_256 b_258; omega) | omega)), ⟨((by first | (clear hnf hE9 hN9 f_6 hp_4 g_12 f_18 hp_16 g_24 f_30 hp_28 c_220 b_221 c_222 b_223 g_224 g_225 g_227 b_228 g_229 g_230 d_23 d_24 d_25 c_245 b_247 d_27 d_28 g_256 b_258; omega) | omega)), ⟨((by first | (clear hnf hE9 hN9 f_6 hp_4 g_12 f_18 hp_16 g_24 f_30 hp_28 c_220 b_221 c_222 b_223 g_224 g_225 g_227 b_228 g_229 g_230 d_23 d_24 d_25 c_245 b_247 d_27 d_28 g_256 b_258; omega) | omega)), ⟨((by first | (clear hnf hE9 hN9 f_6 hp_4 g_12 f_18 hp_16 g_24 f_30 hp_28 c_220 b_221 c_222 b_223 g_224 g_225 g_227 b_228 g_229 g_230 d_23 d_24 d_25 c_245 b_247 d_27 d_28 g_256 b_258; omega) | omega)), ⟨((by first | (clear hnf hE9 hN9 f_6 hp_4 g_12 f_18 hp_16 g_24 f_30 hp_28 c_220 b_221 c_222 b_223 g_224 g_225 g_227 b_228 g_229 g_230 d_23 d_24 d_25 c_245 b_247 d_27 d_28 g_256 b_258; omega) | omega)), ⟨((by first | (clear hnf hE9 hN9 f_6 hp_4 g_12 f_18 hp_16 g_24 f_30 hp_28 c_220 b_221 c_222 b_223 g_224 g_225 g_227 b_228 g_229 g_230 d_23 d_24 d_25 c_245 b_247 d_27 d_28 g_256 b_258; omega) | omega)), ((by first | (clear hnf hE9 hN9 f_6 hp_4 g_12 f_18 hp_16 g_24 f_30 hp_28 c_220 b_221 c_222 b_223 g_224 g_225 g_227 b_228 g_229 g_230 d_23 d_24 d_25 c_245 b_247 d_27 d_28 g_256 b_258; omega) | omega))⟩⟩⟩⟩⟩⟩⟩⟩⟩)⟩ | omega)), ⟨r_1, G_2, hX_5, (Or.inr ⟨G_8, hX_11, hB_G_8, hq_10, ⟨r_13, G_14, hX_17, (Or.inr ⟨G_20, hX_23, hB_G_20, hq_22, ⟨r_25, G_26, hX_29, (Or.inl ⟨c_220, ⟨c_222, ⟨G_232, hX_235, (Or.inl ⟨c_237, (Or.inl ⟨c_245, ⟨G_249, hX_252, rfl⟩⟩)⟩)⟩⟩⟩)⟩⟩)⟩⟩)⟩⟩), wd_t ht hW⟩, hS.F ht⟩) hS.2.2 dX12_readLine_232
            · have c_245 : (G_232.1 66 6).toInt ≠ 59 := xI_ne rfl rfl c_245
              refine lv_aload_n hx hb dX12_readLine_216 rfl (lv_at hl 0 rfl) ?_
              refine ic_2 hx hb dX12_readLine_217 ?_
              have qc_262 : (2 : Int32).toInt = 2 := rfl
              refine S_callv (va_runV (As := [.int 2]) (rest := []) ⟨hx, hb, hml, hown, hts⟩ (n_wrong l D k A a z G_232 2 ⟨by decide, by decide⟩) (cwV 1 hts (gd_V hgd m1670 m1672 m59 m131 m1673) rfl rfl rfl hd_X12_wrong ⟨Nat.le_of_ble_eq_true rfl, Nat.le_of_ble_eq_true rfl⟩) (pre_W hW hB_G_232 hK hZ hS kd_66 rfl) rfl rfl hl.1 rfl (lv_room (Nat.le_of_ble_eq_true rfl)) dX12_readLine_218 ⟨Nat.le_of_ble_eq_true rfl, Nat.le_of_ble_eq_true rfl⟩) hS (fun G_264 H locs hpo hW hS => ?_)
              have hX_267 : Q_wrong 2 G_232 G_264 := hpo
              obtain ⟨hB_G_264, hq_265, hp_266, -⟩ := hpo
              have hF := hF.call9 hq_265 rfl rfl
              refine lv_aload_n hx hb dX12_readLine_221 rfl (lv_at hl 0 rfl) ?_
              have b_268 : 0 ≤ (G_264.1 66 2).toInt ∧ (G_264.1 66 2).toInt ≤ 4 := bd_66_2 hB_G_264
              refine S_getI (v := (G_264.1 66 2)) (C := RX12) (T := TX12) (N := 89) hx hb hg iX12 hown hK hW kd_66 rfl 2 (lt_b rfl) (hg (Cond.fieldLink RX12 218 "SlabWalkModel" "fault" "I") m1316) (fun _ h9 => h9) rfl rfl dX12_readLine_222 ?_
              refine lv_if_ne (tgt := 232) hx hb dX12_readLine_225 rfl (fun c_269 => ?_) (fun c_269 => ?_)
              · have c_269 : (G_264.1 66 2).toInt ≠ 0 := xI_ne rfl rfl c_269
                have fr_270 : Fr [] [(66, 2), (66, 3)] G_232 G_264 := (Fr.call9 (rs := []) (fs := [(66, 2), (66, 3)]) Fr.rf hq_265 rfl rfl)
                have g_271 : gE G_264 = gE G_232 := gE_fr fr_270 (gr_q rfl) (gf_q rfl)
                have fr_272 : Fr [68, 69, 70, 71, 75] [(66, 2), (66, 3), (66, 4), (66, 6), (66, 7), (66, 8), (66, 9), (66, 19), (66, 20), (66, 21), (66, 23), (66, 24), (66, 47)] G G_264 := (Fr.call9 (rs := [68, 69, 70, 71, 75]) (fs := [(66, 2), (66, 3), (66, 4), (66, 6), (66, 7), (66, 8), (66, 9), (66, 19), (66, 20), (66, 21), (66, 23), (66, 24), (66, 47)]) (Fr.call9 (rs := [68, 69, 70, 71, 75]) (fs := [(66, 2), (66, 3), (66, 4), (66, 6), (66, 7), (66, 8), (66, 9), (66, 19), (66, 20), (66, 21), (66, 23), (66, 24), (66, 47)]) (Fr.call9 (rs := [68, 69, 70, 71, 75]) (fs := [(66, 2), (66, 3), (66, 4), (66, 6), (66, 7), (66, 8), (66, 9), (66, 19), (66, 20), (66, 21), (66, 23), (66, 24), (66, 47)]) (Fr.call9 (rs := [68, 69, 70, 71, 75]) (fs := [(66, 2), (66, 3), (66, 4), (66, 6), (66, 7), (66, 8), (66, 9), (66, 19), (66, 20), (66, 21), (66, 23), (66, 24), (66, 47)]) (Fr.call9 (rs := [68, 69, 70, 71, 75]) (fs := [(66, 2), (66, 3), (66, 4), (66, 6), (66, 7), (66, 8), (66, 9), (66, 19), (66, 20), (66, 21), (66, 23), (66, 24), (66, 47)]) (Fr.call9 (rs := [68, 69, 70, 71, 75]) (fs := [(66, 2), (66, 3), (66, 4), (66, 6), (66, 7), (66, 8), (66, 9), (66, 19), (66, 20), (66, 21), (66, 23), (66, 24), (66, 47)]) (Fr.call9 (rs := [68, 69, 70, 71, 75]) (fs := [(66, 2), (66, 3), (66, 4), (66, 6), (66, 7), (66, 8), (66, 9), (66, 19), (66, 20), (66, 21), (66, 23), (66, 24), (66, 47)]) Fr.rf hq_3 rfl rfl) hq_10 rfl rfl) hq_15 rfl rfl) hq_22 rfl rfl) hq_27 rfl rfl) hq_233 rfl rfl) hq_265 rfl rfl)
                have g_273 : gN G_264 = gN G := gN_fr fr_272 (gr_q rfl) (gf_q rfl)
                have b_274 : 0 ≤ (G_232.1 66 4).toInt ∧ (G_232.1 66 4).toInt ≤ 1600 := bd_66_4 hB_G_232
                have g_275 : (G_264.1 66 4).toInt = (G_232.1 66 4).toInt := (congrArg Int32.toInt (show G_264.1 66 4 = (G_232.1 66 4) from (hq_265.i9 66 4 rfl rfl)))
                have g_276 : (G_264.1 86 0).toInt = (G.1 86 0).toInt := (congrArg Int32.toInt (show G_264.1 86 0 = (G.1 86 0) from ((hq_265.i9 86 0 rfl rfl).trans ((hq_233.i9 86 0 rfl rfl).trans ((hq_27.i9 86 0 rfl rfl).trans ((hq_22.i9 86 0 rfl rfl).trans ((hq_15.i9 86 0 rfl rfl).trans ((hq_10.i9 86 0 rfl rfl).trans (hq_3.i9 86 0 rfl rfl)))))))))
                have g_277 : (G_264.1 86 1).toInt = (G.1 86 1).toInt := (congrArg Int32.toInt (show G_264.1 86 1 = (G.1 86 1) from ((hq_265.i9 86 1 rfl rfl).trans ((hq_233.i9 86 1 rfl rfl).trans ((hq_27.i9 86 1 rfl rfl).trans ((hq_22.i9 86 1 rfl rfl).trans ((hq_15.i9 86 1 rfl rfl).trans ((hq_10.i9 86 1 rfl rfl).trans (hq_3.i9 86 1 rfl rfl)))))))))
                have g_278 : (G_264.1 86 2).toInt = (G.1 86 2).toInt := (congrArg Int32.toInt (show G_264.1 86 2 = (G.1 86 2) from ((hq_265.i9 86 2 rfl rfl).trans ((hq_233.i9 86 2 rfl rfl).trans ((hq_27.i9 86 2 rfl rfl).trans ((hq_22.i9 86 2 rfl rfl).trans ((hq_15.i9 86 2 rfl rfl).trans ((hq_10.i9 86 2 rfl rfl).trans (hq_3.i9 86 2 rfl rfl)))))))))
                exact W.vret hx hb hr (fun t ht _ => ⟨⟨G_264, rfl, (Q_readLine_mk ⟨hB_G_264, hF, ((by first | exact ⟨((by first | (clear hnf hE9 hN9 hS9 f_6 f_18 f_30 c_220 b_221 c_222 b_223 g_224 g_225 g_227 d_25 b_236 c_237 d_26 hp_266 b_268 c_269 g_271 g_273 g_276 g_277 g_278; omega) | omega)), (fun h9 => ⟨((by first | (clear hnf hE9 hN9 hS9 f_6 f_18 f_30 c_220 b_221 c_222 b_223 g_224 g_225 g_227 d_25 b_236 c_237 d_26 g_271 g_273 g_276 g_277 g_278; omega) | omega)), ⟨((by first | (clear hnf hE9 hN9 hS9 f_6 hp_4 g_12 f_18 hp_16 g_24 f_30 hp_28 c_220 b_221 c_222 b_223 g_224 g_225 g_227 b_228 g_229 g_230 d_23 d_24 d_25 c_245 g_273 b_274 g_275 g_276 g_277 g_278; omega) | omega)), ⟨((by first | (clear hnf hE9 hS9 f_6 hp_4 g_12 f_18 hp_16 g_24 f_30 hp_28 c_220 b_221 c_222 b_223 g_224 g_225 g_227 b_228 g_229 g_230 d_23 d_24 d_25 b_236 c_237 d_26 c_245 g_271 b_274 g_275 g_276 g_277 g_278; omega) | omega)), ⟨((by first | (clear hnf hE9 hN9 f_6 hp_4 g_12 f_18 hp_16 g_24 f_30 hp_28 c_220 b_221 c_222 b_223 g_224 g_225 g_227 b_228 g_229 g_230 d_23 d_24 d_25 b_236 c_237 d_26 c_245 g_271 g_273 b_274 g_275; omega) | omega)), ⟨((by first | (clear hnf hE9 hN9 f_6 hp_4 g_12 f_18 hp_16 g_24 f_30 hp_28 c_220 b_221 c_222 b_223 g_224 g_225 g_227 b_228 g_229 g_230 d_23 d_24 d_25 b_236 c_237 d_26 c_245 g_271 g_273 b_274 g_275; omega) | omega)), ⟨((by first | (clear hnf hE9 hN9 f_6 hp_4 g_12 f_18 hp_16 g_24 f_30 hp_28 c_220 b_221 c_222 b_223 g_224 g_225 g_227 b_228 g_229 g_230 d_23 d_24 d_25 b_236 c_237 d_26 c_245 g_271 g_273 b_274 g_275; omega) | omega)), ⟨((by first | (clear hnf hE9 hN9 f_6 hp_4 g_12 f_18 hp_16 g_24 f_30 hp_28 c_220 b_221 c_222 b_223 g_224 g_225 g_227 b_228 g_229 g_230 d_23 d_24 d_25 b_236 c_237 d_26 c_245 g_271 g_273 b_274 g_275; omega) | omega)), ⟨((by first | (clear hnf hE9 hN9 f_6 hp_4 g_12 f_18 hp_16 g_24 f_30 hp_28 c_220 b_221 c_222 b_223 g_224 g_225 g_227 b_228 g_229 g_230 d_23 d_24 d_25 b_236 c_237 d_26 c_245 g_271 g_273 b_274 g_275; omega) | omega)), ⟨((by first | (clear hnf hE9 hN9 f_6 hp_4 g_12 f_18 hp_16 g_24 f_30 hp_28 c_220 b_221 c_222 b_223 g_224 g_225 g_227 b_228 g_229 g_230 d_23 d_24 d_25 b_236 c_237 d_26 c_245 g_271 g_273 b_274 g_275; omega) | omega)), ((by first | (clear hnf hE9 hN9 f_6 hp_4 g_12 f_18 hp_16 g_24 f_30 hp_28 c_220 b_221 c_222 b_223 g_224 g_225 g_227 b_228 g_229 g_230 d_23 d_24 d_25 b_236 c_237 d_26 c_245 g_271 g_273 b_274 g_275; omega) | omega))⟩⟩⟩⟩⟩⟩⟩⟩⟩)⟩ | omega)), ⟨r_1, G_2, hX_5, (Or.inr ⟨G_8, hX_11, hB_G_8, hq_10, ⟨r_13, G_14, hX_17, (Or.inr ⟨G_20, hX_23, hB_G_20, hq_22, ⟨r_25, G_26, hX_29, (Or.inl ⟨c_220, ⟨c_222, ⟨G_232, hX_235, (Or.inl ⟨c_237, (Or.inr ⟨c_245, ⟨G_264, hX_267, (Or.inr ⟨c_269, rfl⟩)⟩⟩)⟩)⟩⟩⟩)⟩⟩)⟩⟩)⟩⟩), wd_t ht hW⟩, hS.F ht⟩) hS.2.2 dX12_readLine_232
              · have c_269 : (G_264.1 66 2).toInt = 0 := xI_eq rfl rfl c_269
                refine lv_aload_n hx hb dX12_readLine_228 rfl (lv_at hl 0 rfl) ?_
                have b_279 : 0 ≤ (G_232.1 66 4).toInt ∧ (G_232.1 66 4).toInt ≤ 1600 := bd_66_4 hB_G_232
                have g_280 : (G_264.1 66 4).toInt = (G_232.1 66 4).toInt := (congrArg Int32.toInt (show G_264.1 66 4 = (G_232.1 66 4) from (hq_265.i9 66 4 rfl rfl)))
                have g_281 : (G_264.1 66 6).toInt = (G_232.1 66 6).toInt := (congrArg Int32.toInt (show G_264.1 66 6 = (G_232.1 66 6) from ((hq_265.i9 66 6 rfl rfl).trans (rfl))))
                refine S_callv (va_runV (As := []) (rest := []) ⟨hx, hb, hml, hown, hts⟩ (n_token l D k A a z G_264  ) (cwV 0 hts (gd_V hgd m1602 m1604 m50 m131 m1605) rfl rfl rfl hd_X12_token ⟨Nat.le_of_ble_eq_true rfl, Nat.le_of_ble_eq_true rfl⟩) (pre_W hW hB_G_264 hK hZ hS kd_66 rfl) rfl rfl hl.1 rfl (lv_room (Nat.le_of_ble_eq_true rfl)) dX12_readLine_229 ⟨Nat.le_of_ble_eq_true rfl, Nat.le_of_ble_eq_true rfl⟩) hS (fun G_283 H locs hpo hW hS => ?_)
                have hX_286 : Q_token G_264 G_283 := hpo
                obtain ⟨hB_G_283, hq_284, ⟨d_29, d_30⟩, -⟩ := hpo
                have hF := hF.call9 hq_284 rfl rfl
                have fr_287 : Fr [] [(66, 2), (66, 3), (66, 4), (66, 6), (66, 7), (66, 8), (66, 9)] G_232 G_283 := (Fr.call9 (rs := []) (fs := [(66, 2), (66, 3), (66, 4), (66, 6), (66, 7), (66, 8), (66, 9)]) (Fr.call9 (rs := []) (fs := [(66, 2), (66, 3), (66, 4), (66, 6), (66, 7), (66, 8), (66, 9)]) Fr.rf hq_265 rfl rfl) hq_284 rfl rfl)
                have g_288 : gE G_283 = gE G_232 := gE_fr fr_287 (gr_q rfl) (gf_q rfl)
                have fr_289 : Fr [68, 69, 70, 71, 75] [(66, 2), (66, 3), (66, 4), (66, 6), (66, 7), (66, 8), (66, 9), (66, 19), (66, 20), (66, 21), (66, 23), (66, 24), (66, 47)] G G_283 := (Fr.call9 (rs := [68, 69, 70, 71, 75]) (fs := [(66, 2), (66, 3), (66, 4), (66, 6), (66, 7), (66, 8), (66, 9), (66, 19), (66, 20), (66, 21), (66, 23), (66, 24), (66, 47)]) (Fr.call9 (rs := [68, 69, 70, 71, 75]) (fs := [(66, 2), (66, 3), (66, 4), (66, 6), (66, 7), (66, 8), (66, 9), (66, 19), (66, 20), (66, 21), (66, 23), (66, 24), (66, 47)]) (Fr.call9 (rs := [68, 69, 70, 71, 75]) (fs := [(66, 2), (66, 3), (66, 4), (66, 6), (66, 7), (66, 8), (66, 9), (66, 19), (66, 20), (66, 21), (66, 23), (66, 24), (66, 47)]) (Fr.call9 (rs := [68, 69, 70, 71, 75]) (fs := [(66, 2), (66, 3), (66, 4), (66, 6), (66, 7), (66, 8), (66, 9), (66, 19), (66, 20), (66, 21), (66, 23), (66, 24), (66, 47)]) (Fr.call9 (rs := [68, 69, 70, 71, 75]) (fs := [(66, 2), (66, 3), (66, 4), (66, 6), (66, 7), (66, 8), (66, 9), (66, 19), (66, 20), (66, 21), (66, 23), (66, 24), (66, 47)]) (Fr.call9 (rs := [68, 69, 70, 71, 75]) (fs := [(66, 2), (66, 3), (66, 4), (66, 6), (66, 7), (66, 8), (66, 9), (66, 19), (66, 20), (66, 21), (66, 23), (66, 24), (66, 47)]) (Fr.call9 (rs := [68, 69, 70, 71, 75]) (fs := [(66, 2), (66, 3), (66, 4), (66, 6), (66, 7), (66, 8), (66, 9), (66, 19), (66, 20), (66, 21), (66, 23), (66, 24), (66, 47)]) (Fr.call9 (rs := [68, 69, 70, 71, 75]) (fs := [(66, 2), (66, 3), (66, 4), (66, 6), (66, 7), (66, 8), (66, 9), (66, 19), (66, 20), (66, 21), (66, 23), (66, 24), (66, 47)]) Fr.rf hq_3 rfl rfl) hq_10 rfl rfl) hq_15 rfl rfl) hq_22 rfl rfl) hq_27 rfl rfl) hq_233 rfl rfl) hq_265 rfl rfl) hq_284 rfl rfl)
                have g_290 : gN G_283 = gN G := gN_fr fr_289 (gr_q rfl) (gf_q rfl)
                have g_291 : (G_283.1 66 2).toInt = (G_264.1 66 2).toInt := (congrArg Int32.toInt (show G_283.1 66 2 = (G_264.1 66 2) from ((hq_284.i9 66 2 rfl rfl).trans (rfl))))
                have b_292 : 0 ≤ (G_283.1 66 4).toInt ∧ (G_283.1 66 4).toInt ≤ 1600 := bd_66_4 hB_G_283
                have g_293 : (G_283.1 86 0).toInt = (G.1 86 0).toInt := (congrArg Int32.toInt (show G_283.1 86 0 = (G.1 86 0) from ((hq_284.i9 86 0 rfl rfl).trans ((hq_265.i9 86 0 rfl rfl).trans ((hq_233.i9 86 0 rfl rfl).trans ((hq_27.i9 86 0 rfl rfl).trans ((hq_22.i9 86 0 rfl rfl).trans ((hq_15.i9 86 0 rfl rfl).trans ((hq_10.i9 86 0 rfl rfl).trans (hq_3.i9 86 0 rfl rfl))))))))))
                have g_294 : (G_283.1 86 1).toInt = (G.1 86 1).toInt := (congrArg Int32.toInt (show G_283.1 86 1 = (G.1 86 1) from ((hq_284.i9 86 1 rfl rfl).trans ((hq_265.i9 86 1 rfl rfl).trans ((hq_233.i9 86 1 rfl rfl).trans ((hq_27.i9 86 1 rfl rfl).trans ((hq_22.i9 86 1 rfl rfl).trans ((hq_15.i9 86 1 rfl rfl).trans ((hq_10.i9 86 1 rfl rfl).trans (hq_3.i9 86 1 rfl rfl))))))))))
                have g_295 : (G_283.1 86 2).toInt = (G.1 86 2).toInt := (congrArg Int32.toInt (show G_283.1 86 2 = (G.1 86 2) from ((hq_284.i9 86 2 rfl rfl).trans ((hq_265.i9 86 2 rfl rfl).trans ((hq_233.i9 86 2 rfl rfl).trans ((hq_27.i9 86 2 rfl rfl).trans ((hq_22.i9 86 2 rfl rfl).trans ((hq_15.i9 86 2 rfl rfl).trans ((hq_10.i9 86 2 rfl rfl).trans (hq_3.i9 86 2 rfl rfl))))))))))
                exact W.vret hx hb hr (fun t ht _ => ⟨⟨G_283, rfl, (Q_readLine_mk ⟨hB_G_283, hF, ((by first | exact ⟨((by first | (clear hnf hE9 hN9 hS9 f_6 f_18 f_30 c_220 b_221 c_222 b_223 g_224 g_225 g_227 d_25 b_236 c_237 d_26 hp_266 b_268 c_269 g_288 g_290 g_291 g_293 g_294 g_295; omega) | omega)), (fun h9 => ⟨((by first | (clear hnf hE9 hN9 hS9 f_6 f_18 f_30 c_220 b_221 c_222 b_223 g_224 g_225 g_227 d_25 b_236 c_237 d_26 g_288 g_290 g_293 g_294 g_295; omega) | omega)), ⟨((by first | (clear hnf hE9 hN9 hS9 f_6 hp_4 g_12 f_18 hp_16 g_24 f_30 hp_28 c_220 b_221 c_222 b_223 g_224 g_225 g_227 b_228 g_229 g_230 d_23 d_24 d_25 c_245 b_279 g_280 g_281 d_29 d_30 g_290 b_292 g_293 g_294 g_295; omega) | omega)), ⟨((by first | (clear hnf hE9 hS9 f_6 hp_4 g_12 f_18 hp_16 g_24 f_30 hp_28 c_220 b_221 c_222 b_223 g_224 g_225 g_227 b_228 g_229 g_230 d_23 d_24 d_25 b_236 c_237 d_26 c_245 b_279 g_280 g_281 d_29 d_30 g_288 b_292 g_293 g_294 g_295; omega) | omega)), ⟨((by first | (clear hnf hE9 hN9 f_6 hp_4 g_12 f_18 hp_16 g_24 f_30 hp_28 c_220 b_221 c_222 b_223 g_224 g_225 g_227 b_228 g_229 g_230 d_23 d_24 d_25 b_236 c_237 d_26 c_245 b_279 g_280 g_281 d_29 d_30 g_288 g_290 b_292; omega) | omega)), ⟨((by first | (clear hnf hE9 hN9 f_6 hp_4 g_12 f_18 hp_16 g_24 f_30 hp_28 c_220 b_221 c_222 b_223 g_224 g_225 g_227 b_228 g_229 g_230 d_23 d_24 d_25 b_236 c_237 d_26 c_245 b_279 g_280 g_281 d_29 d_30 g_288 g_290 b_292; omega) | omega)), ⟨((by first | (clear hnf hE9 hN9 f_6 hp_4 g_12 f_18 hp_16 g_24 f_30 hp_28 c_220 b_221 c_222 b_223 g_224 g_225 g_227 b_228 g_229 g_230 d_23 d_24 d_25 b_236 c_237 d_26 c_245 b_279 g_280 g_281 d_29 d_30 g_288 g_290 b_292; omega) | omega)), ⟨((by first | (clear hnf hE9 hN9 f_6 hp_4 g_12 f_18 hp_16 g_24 f_30 hp_28 c_220 b_221 c_222 b_223 g_224 g_225 g_227 b_228 g_229 g_230 d_23 d_24 d_25 b_236 c_237 d_26 c_245 b_279 g_280 g_281 d_29 d_30 g_288 g_290 b_292; omega) | omega)), ⟨((by first | (clear hnf hE9 hN9 f_6 hp_4 g_12 f_18 hp_16 g_24 f_30 hp_28 c_220 b_221 c_222 b_223 g_224 g_225 g_227 b_228 g_229 g_230 d_23 d_24 d_25 b_236 c_237 d_26 c_245 b_279 g_280 g_281 d_29 d_30 g_288 g_290 b_292; omega) | omega)), ⟨((by first | (clear hnf hE9 hN9 f_6 hp_4 g_12 f_18 hp_16 g_24 f_30 hp_28 c_220 b_221 c_222 b_223 g_224 g_225 g_227 b_228 g_229 g_230 d_23 d_24 d_25 b_236 c_237 d_26 c_245 b_279 g_280 g_281 d_29 d_30 g_288 g_290 b_292; omega) | omega)), ((by first | (clear hnf hE9 hN9 f_6 hp_4 g_12 f_18 hp_16 g_24 f_30 hp_28 c_220 b_221 c_222 b_223 g_224 g_225 g_227 b_228 g_229 g_230 d_23 d_24 d_25 b_236 c_237 d_26 c_245 b_279 g_280 g_281 d_29 d_30 g_288 g_290 b_292; omega) | omega))⟩⟩⟩⟩⟩⟩⟩⟩⟩)⟩ | omega)), ⟨r_1, G_2, hX_5, (Or.inr ⟨G_8, hX_11, hB_G_8, hq_10, ⟨r_13, G_14, hX_17, (Or.inr ⟨G_20, hX_23, hB_G_20, hq_22, ⟨r_25, G_26, hX_29, (Or.inl ⟨c_220, ⟨c_222, ⟨G_232, hX_235, (Or.inl ⟨c_237, (Or.inr ⟨c_245, ⟨G_264, hX_267, (Or.inl ⟨c_269, ⟨G_283, hX_286, rfl⟩⟩)⟩⟩)⟩)⟩⟩⟩)⟩⟩)⟩⟩)⟩⟩), wd_t ht hW⟩, hS.F ht⟩) hS.2.2 dX12_readLine_232
    refine lv_if_eq (tgt := 50) hx hb dX12_readLine_32 rfl (fun c_296 => ?_) (fun c_296 => ?_)
    · have c_296 : r_13.toInt = 0 := xI_eq rfl rfl c_296
      exact hJ_21 () _ _ _ ⟨G_14, (Jn_n_readLine_2_mk (Or.inl ⟨c_296, rfl⟩)), hW, hB_G_14, hF, (Fr.rf (rs := []) (fs := [])), hS, lv_sub hl [0] rfl⟩
    · have c_296 : r_13.toInt ≠ 0 := xI_ne rfl rfl c_296
      refine lv_aload_n hx hb dX12_readLine_35 rfl (lv_at hl 0 rfl) ?_
      have b_297 : 0 ≤ (G.1 66 46).toInt ∧ (G.1 66 46).toInt ≤ 4 := bd_66_46 hB_G
      refine S_getI (v := (G.1 66 46)) (C := RX12) (T := TX12) (N := 89) hx hb hg iX12 hown hK hW kd_66 rfl 46 (lt_b rfl) (hg (Cond.fieldLink RX12 379 "SlabWalkModel" "nWalkers" "I") m1360) (fun _ h9 => h9) rfl ((hq_15.i9 66 46 rfl rfl).trans ((hq_10.i9 66 46 rfl rfl).trans (hq_3.i9 66 46 rfl rfl))) dX12_readLine_36 ?_
      refine ic_4 hx hb dX12_readLine_39 ?_
      refine lv_icmp_ge (tgt := 50) hx hb dX12_readLine_40 rfl (fun c_298 => ?_) (fun c_298 => ?_)
      · have c_298 : 4 ≤ (G.1 66 46).toInt := xI_le rfl rfl c_298
        exact hJ_21 () _ _ _ ⟨G_14, (Jn_n_readLine_2_mk (Or.inr ⟨c_296, ⟨c_298, rfl⟩⟩)), hW, hB_G_14, hF, (Fr.rf (rs := []) (fs := [])), hS, lv_sub hl [0] rfl⟩
      · have c_298 : (G.1 66 46).toInt < 4 := xI_nle rfl rfl c_298
        refine lv_aload_n hx hb dX12_readLine_43 rfl (lv_at hl 0 rfl) ?_
        have b_299 : 0 ≤ (G.1 66 2).toInt ∧ (G.1 66 2).toInt ≤ 4 := bd_66_2 hB_G
        have g_300 : (G_14.1 66 2).toInt = (G.1 66 2).toInt := (congrArg Int32.toInt (show G_14.1 66 2 = (G.1 66 2) from ((hq_15.i9 66 2 rfl rfl).trans ((hq_10.i9 66 2 rfl rfl).trans (hq_3.i9 66 2 rfl rfl)))))
        have g_301 : (G_14.1 66 46).toInt = (G.1 66 46).toInt := (congrArg Int32.toInt (show G_14.1 66 46 = (G.1 66 46) from ((hq_15.i9 66 46 rfl rfl).trans ((hq_10.i9 66 46 rfl rfl).trans ((hq_3.i9 66 46 rfl rfl).trans (rfl))))))
        have fr_302 : Fr [] [] G G_14 := (Fr.call9 (rs := []) (fs := []) (Fr.call9 (rs := []) (fs := []) (Fr.call9 (rs := []) (fs := []) Fr.rf hq_3 rfl rfl) hq_10 rfl rfl) hq_15 rfl rfl)
        have g_303 : gN G_14 = gN G := gN_fr fr_302 (gr_q rfl) (gf_q rfl)
        have b_304 : 0 ≤ (G.1 66 4).toInt ∧ (G.1 66 4).toInt ≤ 1600 := bd_66_4 hB_G
        have g_305 : (G_14.1 66 4).toInt = (G.1 66 4).toInt := (congrArg Int32.toInt (show G_14.1 66 4 = (G.1 66 4) from ((hq_15.i9 66 4 rfl rfl).trans ((hq_10.i9 66 4 rfl rfl).trans (hq_3.i9 66 4 rfl rfl)))))
        have g_306 : (G_14.1 66 6).toInt = (G.1 66 6).toInt := (congrArg Int32.toInt (show G_14.1 66 6 = (G.1 66 6) from ((hq_15.i9 66 6 rfl rfl).trans ((hq_10.i9 66 6 rfl rfl).trans ((hq_3.i9 66 6 rfl rfl).trans (rfl))))))
        refine S_callv (va_runV (As := []) (rest := []) ⟨hx, hb, hml, hown, hts⟩ (n_readWalker l D k A a z G_14  ((by first | (clear hE9 hN9 hS9 f_6 hp_4 g_12 f_18 hp_16 c_296 b_297 c_298 g_301 g_303 b_304 g_305 g_306; omega) | omega)) ((by first | (clear hnf hE9 hN9 hS9 f_6 hp_4 g_12 f_18 hp_16 c_296 b_299 g_300 g_303 b_304 g_305 g_306; omega) | omega)) ((by first | (clear hnf hE9 hS9 f_6 hp_4 g_12 f_18 hp_16 c_296 b_297 c_298 b_299 g_300 g_301 b_304 g_305 g_306; omega) | omega))) (cwV 0 hts (gd_V hgd m1698 m1700 m66 m131 m1701) rfl rfl rfl hd_X12_readWalker ⟨Nat.le_of_ble_eq_true rfl, Nat.le_of_ble_eq_true rfl⟩) (pre_W hW hB_G_14 hK hZ hS kd_66 rfl) rfl rfl hl.1 rfl (lv_room (Nat.le_of_ble_eq_true rfl)) dX12_readLine_44 ⟨Nat.le_of_ble_eq_true rfl, Nat.le_of_ble_eq_true rfl⟩) hS (fun G_308 H locs hpo hW hS => ?_)
        have hX_311 : Q_readWalker G_14 G_308 := hpo
        obtain ⟨hB_G_308, hq_309, ⟨d_31, d_32, d_33⟩, -⟩ := hpo
        have hF := hF.call9 hq_309 rfl rfl
        refine lv_goto (tgt := 200) hx hb dX12_readLine_47 rfl ?_
        refine lv_aload_n hx hb dX12_readLine_200 rfl (lv_at hl 0 rfl) ?_
        have b_312 : 0 ≤ (G_308.1 66 2).toInt ∧ (G_308.1 66 2).toInt ≤ 4 := bd_66_2 hB_G_308
        refine S_getI (v := (G_308.1 66 2)) (C := RX12) (T := TX12) (N := 89) hx hb hg iX12 hown hK hW kd_66 rfl 2 (lt_b rfl) (hg (Cond.fieldLink RX12 218 "SlabWalkModel" "fault" "I") m1316) (fun _ h9 => h9) rfl rfl dX12_readLine_201 ?_
        refine lv_if_ne (tgt := 221) hx hb dX12_readLine_204 rfl (fun c_313 => ?_) (fun c_313 => ?_)
        · have c_313 : (G_308.1 66 2).toInt ≠ 0 := xI_ne rfl rfl c_313
          refine lv_aload_n hx hb dX12_readLine_221 rfl (lv_at hl 0 rfl) ?_
          refine S_getI (v := (G_308.1 66 2)) (C := RX12) (T := TX12) (N := 89) hx hb hg iX12 hown hK hW kd_66 rfl 2 (lt_b rfl) (hg (Cond.fieldLink RX12 218 "SlabWalkModel" "fault" "I") m1316) (fun _ h9 => h9) rfl rfl dX12_readLine_222 ?_
          refine lv_if_ne (tgt := 232) hx hb dX12_readLine_225 rfl (fun c_314 => ?_) (fun c_314 => ?_)
          · have c_314 : (G_308.1 66 2).toInt ≠ 0 := xI_ne rfl rfl c_314
            have fr_315 : Fr [68, 82, 83, 84, 85] [(66, 2), (66, 3), (66, 4), (66, 6), (66, 7), (66, 8), (66, 9), (66, 46)] G G_308 := (Fr.call9 (rs := [68, 82, 83, 84, 85]) (fs := [(66, 2), (66, 3), (66, 4), (66, 6), (66, 7), (66, 8), (66, 9), (66, 46)]) (Fr.call9 (rs := [68, 82, 83, 84, 85]) (fs := [(66, 2), (66, 3), (66, 4), (66, 6), (66, 7), (66, 8), (66, 9), (66, 46)]) (Fr.call9 (rs := [68, 82, 83, 84, 85]) (fs := [(66, 2), (66, 3), (66, 4), (66, 6), (66, 7), (66, 8), (66, 9), (66, 46)]) (Fr.call9 (rs := [68, 82, 83, 84, 85]) (fs := [(66, 2), (66, 3), (66, 4), (66, 6), (66, 7), (66, 8), (66, 9), (66, 46)]) Fr.rf hq_3 rfl rfl) hq_10 rfl rfl) hq_15 rfl rfl) hq_309 rfl rfl)
            have g_316 : gE G_308 = gE G := gE_fr fr_315 (gr_q rfl) (gf_q rfl)
            have b_317 : 0 ≤ (G_308.1 66 4).toInt ∧ (G_308.1 66 4).toInt ≤ 1600 := bd_66_4 hB_G_308
            have g_318 : (G_308.1 86 0).toInt = (G.1 86 0).toInt := (congrArg Int32.toInt (show G_308.1 86 0 = (G.1 86 0) from ((hq_309.i9 86 0 rfl rfl).trans ((hq_15.i9 86 0 rfl rfl).trans ((hq_10.i9 86 0 rfl rfl).trans (hq_3.i9 86 0 rfl rfl))))))
            have g_319 : (G_308.1 86 1).toInt = (G.1 86 1).toInt := (congrArg Int32.toInt (show G_308.1 86 1 = (G.1 86 1) from ((hq_309.i9 86 1 rfl rfl).trans ((hq_15.i9 86 1 rfl rfl).trans ((hq_10.i9 86 1 rfl rfl).trans (hq_3.i9 86 1 rfl rfl))))))
            have g_320 : (G_308.1 86 2).toInt = (G.1 86 2).toInt := (congrArg Int32.toInt (show G_308.1 86 2 = (G.1 86 2) from ((hq_309.i9 86 2 rfl rfl).trans ((hq_15.i9 86 2 rfl rfl).trans ((hq_10.i9 86 2 rfl rfl).trans (hq_3.i9 86 2 rfl rfl))))))
            exact W.vret hx hb hr (fun t ht _ => ⟨⟨G_308, rfl, (Q_readLine_mk ⟨hB_G_308, hF, ((by first | exact ⟨((by first | (clear hnf hE9 hN9 hS9 f_6 f_18 c_296 b_297 c_298 b_299 g_300 g_301 g_303 d_33 b_312 c_313 c_314 g_316 g_318 g_319 g_320; omega) | omega)), (fun h9 => ⟨((by first | (clear hnf hE9 hN9 hS9 f_6 f_18 c_296 b_297 c_298 b_299 g_300 g_301 g_303 d_33 g_316 g_318 g_319 g_320; omega) | omega)), ⟨((by first | (clear hnf hN9 hS9 f_6 hp_4 g_12 f_18 hp_16 c_296 b_297 c_298 b_299 g_300 g_301 g_303 b_304 g_305 g_306 d_31 d_32 d_33 b_317 g_318 g_319 g_320; omega) | omega)), ⟨((by first | (clear hnf hE9 hN9 hS9 f_6 hp_4 g_12 f_18 hp_16 c_296 b_297 c_298 b_299 g_300 g_301 g_303 b_304 g_305 g_306 d_31 d_32 d_33 g_316 b_317 g_318 g_319 g_320; omega) | omega)), ⟨((by first | (clear hnf hE9 hN9 f_6 hp_4 g_12 f_18 hp_16 c_296 b_297 c_298 b_299 g_300 g_301 g_303 b_304 g_305 g_306 d_31 d_32 d_33 g_316 b_317; omega) | omega)), ⟨((by first | (clear hnf hE9 hN9 f_6 hp_4 g_12 f_18 hp_16 c_296 b_297 c_298 b_299 g_300 g_301 g_303 b_304 g_305 g_306 d_31 d_32 d_33 g_316 b_317; omega) | omega)), ⟨((by first | (clear hnf hE9 hN9 f_6 hp_4 g_12 f_18 hp_16 c_296 b_297 c_298 b_299 g_300 g_301 g_303 b_304 g_305 g_306 d_31 d_32 d_33 g_316 b_317; omega) | omega)), ⟨((by first | (clear hnf hE9 hN9 f_6 hp_4 g_12 f_18 hp_16 c_296 b_297 c_298 b_299 g_300 g_301 g_303 b_304 g_305 g_306 d_31 d_32 d_33 g_316 b_317; omega) | omega)), ⟨((by first | (clear hnf hE9 hN9 f_6 hp_4 g_12 f_18 hp_16 c_296 b_297 c_298 b_299 g_300 g_301 g_303 b_304 g_305 g_306 d_31 d_32 d_33 g_316 b_317; omega) | omega)), ⟨((by first | (clear hnf hE9 hN9 f_6 hp_4 g_12 f_18 hp_16 c_296 b_297 c_298 b_299 g_300 g_301 g_303 b_304 g_305 g_306 d_31 d_32 d_33 g_316 b_317; omega) | omega)), ((by first | (clear hnf hE9 hN9 f_6 hp_4 g_12 f_18 hp_16 c_296 b_297 c_298 b_299 g_300 g_301 g_303 b_304 g_305 g_306 d_31 d_32 d_33 g_316 b_317; omega) | omega))⟩⟩⟩⟩⟩⟩⟩⟩⟩)⟩ | omega)), ⟨r_1, G_2, hX_5, (Or.inr ⟨G_8, hX_11, hB_G_8, hq_10, ⟨r_13, G_14, hX_17, (Or.inl ⟨c_296, ⟨c_298, ⟨G_308, hX_311, (Or.inr ⟨c_313, rfl⟩)⟩⟩⟩)⟩⟩)⟩⟩), wd_t ht hW⟩, hS.F ht⟩) hS.2.2 dX12_readLine_232
          · have c_314 : (G_308.1 66 2).toInt = 0 := xI_eq rfl rfl c_314
            exfalso; first | (clear hnf hE9 hN9 hS9 f_6 hp_4 g_12 f_18 hp_16 c_296 b_297 c_298 b_299 g_300 g_301 g_303 b_304 g_305 g_306 d_31 d_32 d_33; omega) | omega
        · have c_313 : (G_308.1 66 2).toInt = 0 := xI_eq rfl rfl c_313
          have d_34 := d_33 c_313
          refine lv_aload_n hx hb dX12_readLine_207 rfl (lv_at hl 0 rfl) ?_
          refine S_getI (v := (G_308.1 66 6)) (C := RX12) (T := TX12) (N := 89) hx hb hg iX12 hown hK hW kd_66 rfl 6 (lt_b rfl) (hg (Cond.fieldLink RX12 205 "SlabWalkModel" "sort" "I") m1320) (fun _ h9 => h9) rfl rfl dX12_readLine_208 ?_
          refine lv_bipush (v := 59) hx hb dX12_readLine_211 (by decide) ?_
          refine lv_icmp_eq (tgt := 221) hx hb dX12_readLine_213 rfl (fun c_321 => ?_) (fun c_321 => ?_)
          · have c_321 : (G_308.1 66 6).toInt = 59 := xI_eq rfl rfl c_321
            refine lv_aload_n hx hb dX12_readLine_221 rfl (lv_at hl 0 rfl) ?_
            refine S_getI (v := (G_308.1 66 2)) (C := RX12) (T := TX12) (N := 89) hx hb hg iX12 hown hK hW kd_66 rfl 2 (lt_b rfl) (hg (Cond.fieldLink RX12 218 "SlabWalkModel" "fault" "I") m1316) (fun _ h9 => h9) rfl rfl dX12_readLine_222 ?_
            refine lv_if_ne (tgt := 232) hx hb dX12_readLine_225 rfl (fun c_322 => ?_) (fun c_322 => ?_)
            · have c_322 : (G_308.1 66 2).toInt ≠ 0 := xI_ne rfl rfl c_322
              exfalso; first | (clear hnf hE9 hN9 hS9 f_6 hp_4 g_12 f_18 hp_16 c_296 b_297 c_298 b_299 g_300 g_301 g_303 b_304 g_305 g_306 d_31 d_32 d_33 c_321; omega) | omega
            · have c_322 : (G_308.1 66 2).toInt = 0 := xI_eq rfl rfl c_322
              refine lv_aload_n hx hb dX12_readLine_228 rfl (lv_at hl 0 rfl) ?_
              have b_323 : 0 ≤ (G_308.1 66 4).toInt ∧ (G_308.1 66 4).toInt ≤ 1600 := bd_66_4 hB_G_308
              refine S_callv (va_runV (As := []) (rest := []) ⟨hx, hb, hml, hown, hts⟩ (n_token l D k A a z G_308  ) (cwV 0 hts (gd_V hgd m1602 m1604 m50 m131 m1605) rfl rfl rfl hd_X12_token ⟨Nat.le_of_ble_eq_true rfl, Nat.le_of_ble_eq_true rfl⟩) (pre_W hW hB_G_308 hK hZ hS kd_66 rfl) rfl rfl hl.1 rfl (lv_room (Nat.le_of_ble_eq_true rfl)) dX12_readLine_229 ⟨Nat.le_of_ble_eq_true rfl, Nat.le_of_ble_eq_true rfl⟩) hS (fun G_325 H locs hpo hW hS => ?_)
              have hX_328 : Q_token G_308 G_325 := hpo
              obtain ⟨hB_G_325, hq_326, ⟨d_35, d_36⟩, -⟩ := hpo
              have hF := hF.call9 hq_326 rfl rfl
              have fr_329 : Fr [68, 82, 83, 84, 85] [(66, 2), (66, 3), (66, 4), (66, 6), (66, 7), (66, 8), (66, 9), (66, 46)] G G_325 := (Fr.call9 (rs := [68, 82, 83, 84, 85]) (fs := [(66, 2), (66, 3), (66, 4), (66, 6), (66, 7), (66, 8), (66, 9), (66, 46)]) (Fr.call9 (rs := [68, 82, 83, 84, 85]) (fs := [(66, 2), (66, 3), (66, 4), (66, 6), (66, 7), (66, 8), (66, 9), (66, 46)]) (Fr.call9 (rs := [68, 82, 83, 84, 85]) (fs := [(66, 2), (66, 3), (66, 4), (66, 6), (66, 7), (66, 8), (66, 9), (66, 46)]) (Fr.call9 (rs := [68, 82, 83, 84, 85]) (fs := [(66, 2), (66, 3), (66, 4), (66, 6), (66, 7), (66, 8), (66, 9), (66, 46)]) (Fr.call9 (rs := [68, 82, 83, 84, 85]) (fs := [(66, 2), (66, 3), (66, 4), (66, 6), (66, 7), (66, 8), (66, 9), (66, 46)]) Fr.rf hq_3 rfl rfl) hq_10 rfl rfl) hq_15 rfl rfl) hq_309 rfl rfl) hq_326 rfl rfl)
              have g_330 : gE G_325 = gE G := gE_fr fr_329 (gr_q rfl) (gf_q rfl)
              have fr_331 : Fr [] [(66, 4), (66, 6), (66, 7), (66, 8), (66, 9)] G_308 G_325 := (Fr.call9 (rs := []) (fs := [(66, 4), (66, 6), (66, 7), (66, 8), (66, 9)]) Fr.rf hq_326 rfl rfl)
              have g_332 : gN G_325 = gN G_308 := gN_fr fr_331 (gr_q rfl) (gf_q rfl)
              have g_333 : (G_325.1 66 2).toInt = (G_308.1 66 2).toInt := (congrArg Int32.toInt (show G_325.1 66 2 = (G_308.1 66 2) from ((hq_326.i9 66 2 rfl rfl).trans (rfl))))
              have b_334 : 0 ≤ (G_325.1 66 4).toInt ∧ (G_325.1 66 4).toInt ≤ 1600 := bd_66_4 hB_G_325
              have g_335 : (G_325.1 86 0).toInt = (G.1 86 0).toInt := (congrArg Int32.toInt (show G_325.1 86 0 = (G.1 86 0) from ((hq_326.i9 86 0 rfl rfl).trans ((hq_309.i9 86 0 rfl rfl).trans ((hq_15.i9 86 0 rfl rfl).trans ((hq_10.i9 86 0 rfl rfl).trans (hq_3.i9 86 0 rfl rfl)))))))
              have g_336 : (G_325.1 86 1).toInt = (G.1 86 1).toInt := (congrArg Int32.toInt (show G_325.1 86 1 = (G.1 86 1) from ((hq_326.i9 86 1 rfl rfl).trans ((hq_309.i9 86 1 rfl rfl).trans ((hq_15.i9 86 1 rfl rfl).trans ((hq_10.i9 86 1 rfl rfl).trans (hq_3.i9 86 1 rfl rfl)))))))
              have g_337 : (G_325.1 86 2).toInt = (G.1 86 2).toInt := (congrArg Int32.toInt (show G_325.1 86 2 = (G.1 86 2) from ((hq_326.i9 86 2 rfl rfl).trans ((hq_309.i9 86 2 rfl rfl).trans ((hq_15.i9 86 2 rfl rfl).trans ((hq_10.i9 86 2 rfl rfl).trans (hq_3.i9 86 2 rfl rfl)))))))
              exact W.vret hx hb hr (fun t ht _ => ⟨⟨G_325, rfl, (Q_readLine_mk ⟨hB_G_325, hF, ((by first | exact ⟨((by first | (clear hnf hE9 hN9 hS9 f_6 f_18 c_296 b_297 c_298 b_299 g_300 g_301 g_303 d_33 b_312 c_313 d_34 c_322 g_330 g_332 g_333 g_335 g_336 g_337; omega) | omega)), (fun h9 => ⟨((by first | (clear hnf hE9 hN9 hS9 f_6 f_18 c_296 b_297 c_298 b_299 g_300 g_301 g_303 d_33 g_330 g_335 g_336 g_337; omega) | omega)), ⟨((by first | (clear hnf hN9 hS9 f_6 hp_4 g_12 f_18 hp_16 c_296 b_297 c_298 b_299 g_300 g_301 g_303 b_304 g_305 g_306 d_31 d_32 d_33 c_321 b_323 d_35 d_36 b_334 g_335 g_336 g_337; omega) | omega)), ⟨((by first | (clear hnf hE9 hN9 hS9 f_6 hp_4 g_12 f_18 hp_16 c_296 b_297 c_298 b_299 g_300 g_301 g_303 b_304 g_305 g_306 d_31 d_32 d_33 c_321 b_323 d_35 d_36 g_330 b_334 g_335 g_336 g_337; omega) | omega)), ⟨((by first | (clear hnf hE9 hN9 f_6 hp_4 g_12 f_18 hp_16 c_296 b_297 c_298 b_299 g_300 g_301 g_303 b_304 g_305 g_306 d_31 d_32 d_33 c_321 b_323 d_35 d_36 g_330 b_334; omega) | omega)), ⟨((by first | (clear hnf hE9 hN9 f_6 hp_4 g_12 f_18 hp_16 c_296 b_297 c_298 b_299 g_300 g_301 g_303 b_304 g_305 g_306 d_31 d_32 d_33 c_321 b_323 d_35 d_36 g_330 b_334; omega) | omega)), ⟨((by first | (clear hnf hE9 hN9 f_6 hp_4 g_12 f_18 hp_16 c_296 b_297 c_298 b_299 g_300 g_301 g_303 b_304 g_305 g_306 d_31 d_32 d_33 c_321 b_323 d_35 d_36 g_330 b_334; omega) | omega)), ⟨((by first | (clear hnf hE9 hN9 f_6 hp_4 g_12 f_18 hp_16 c_296 b_297 c_298 b_299 g_300 g_301 g_303 b_304 g_305 g_306 d_31 d_32 d_33 c_321 b_323 d_35 d_36 g_330 b_334; omega) | omega)), ⟨((by first | (clear hnf hE9 hN9 f_6 hp_4 g_12 f_18 hp_16 c_296 b_297 c_298 b_299 g_300 g_301 g_303 b_304 g_305 g_306 d_31 d_32 d_33 c_321 b_323 d_35 d_36 g_330 b_334; omega) | omega)), ⟨((by first | (clear hnf hE9 hN9 f_6 hp_4 g_12 f_18 hp_16 c_296 b_297 c_298 b_299 g_300 g_301 g_303 b_304 g_305 g_306 d_31 d_32 d_33 c_321 b_323 d_35 d_36 g_330 b_334; omega) | omega)), ((by first | (clear hnf hE9 hN9 f_6 hp_4 g_12 f_18 hp_16 c_296 b_297 c_298 b_299 g_300 g_301 g_303 b_304 g_305 g_306 d_31 d_32 d_33 c_321 b_323 d_35 d_36 g_330 b_334; omega) | omega))⟩⟩⟩⟩⟩⟩⟩⟩⟩)⟩ | omega)), ⟨r_1, G_2, hX_5, (Or.inr ⟨G_8, hX_11, hB_G_8, hq_10, ⟨r_13, G_14, hX_17, (Or.inl ⟨c_296, ⟨c_298, ⟨G_308, hX_311, (Or.inl ⟨c_313, (Or.inl ⟨c_321, ⟨G_325, hX_328, rfl⟩⟩)⟩)⟩⟩⟩)⟩⟩)⟩⟩), wd_t ht hW⟩, hS.F ht⟩) hS.2.2 dX12_readLine_232
          · have c_321 : (G_308.1 66 6).toInt ≠ 59 := xI_ne rfl rfl c_321
            refine lv_aload_n hx hb dX12_readLine_216 rfl (lv_at hl 0 rfl) ?_
            refine ic_2 hx hb dX12_readLine_217 ?_
            have qc_338 : (2 : Int32).toInt = 2 := rfl
            refine S_callv (va_runV (As := [.int 2]) (rest := []) ⟨hx, hb, hml, hown, hts⟩ (n_wrong l D k A a z G_308 2 ⟨by decide, by decide⟩) (cwV 1 hts (gd_V hgd m1670 m1672 m59 m131 m1673) rfl rfl rfl hd_X12_wrong ⟨Nat.le_of_ble_eq_true rfl, Nat.le_of_ble_eq_true rfl⟩) (pre_W hW hB_G_308 hK hZ hS kd_66 rfl) rfl rfl hl.1 rfl (lv_room (Nat.le_of_ble_eq_true rfl)) dX12_readLine_218 ⟨Nat.le_of_ble_eq_true rfl, Nat.le_of_ble_eq_true rfl⟩) hS (fun G_340 H locs hpo hW hS => ?_)
            have hX_343 : Q_wrong 2 G_308 G_340 := hpo
            obtain ⟨hB_G_340, hq_341, hp_342, -⟩ := hpo
            have hF := hF.call9 hq_341 rfl rfl
            refine lv_aload_n hx hb dX12_readLine_221 rfl (lv_at hl 0 rfl) ?_
            have b_344 : 0 ≤ (G_340.1 66 2).toInt ∧ (G_340.1 66 2).toInt ≤ 4 := bd_66_2 hB_G_340
            refine S_getI (v := (G_340.1 66 2)) (C := RX12) (T := TX12) (N := 89) hx hb hg iX12 hown hK hW kd_66 rfl 2 (lt_b rfl) (hg (Cond.fieldLink RX12 218 "SlabWalkModel" "fault" "I") m1316) (fun _ h9 => h9) rfl rfl dX12_readLine_222 ?_
            refine lv_if_ne (tgt := 232) hx hb dX12_readLine_225 rfl (fun c_345 => ?_) (fun c_345 => ?_)
            · have c_345 : (G_340.1 66 2).toInt ≠ 0 := xI_ne rfl rfl c_345
              have fr_346 : Fr [68, 82, 83, 84, 85] [(66, 2), (66, 3), (66, 4), (66, 6), (66, 7), (66, 8), (66, 9), (66, 46)] G G_340 := (Fr.call9 (rs := [68, 82, 83, 84, 85]) (fs := [(66, 2), (66, 3), (66, 4), (66, 6), (66, 7), (66, 8), (66, 9), (66, 46)]) (Fr.call9 (rs := [68, 82, 83, 84, 85]) (fs := [(66, 2), (66, 3), (66, 4), (66, 6), (66, 7), (66, 8), (66, 9), (66, 46)]) (Fr.call9 (rs := [68, 82, 83, 84, 85]) (fs := [(66, 2), (66, 3), (66, 4), (66, 6), (66, 7), (66, 8), (66, 9), (66, 46)]) (Fr.call9 (rs := [68, 82, 83, 84, 85]) (fs := [(66, 2), (66, 3), (66, 4), (66, 6), (66, 7), (66, 8), (66, 9), (66, 46)]) (Fr.call9 (rs := [68, 82, 83, 84, 85]) (fs := [(66, 2), (66, 3), (66, 4), (66, 6), (66, 7), (66, 8), (66, 9), (66, 46)]) Fr.rf hq_3 rfl rfl) hq_10 rfl rfl) hq_15 rfl rfl) hq_309 rfl rfl) hq_341 rfl rfl)
              have g_347 : gE G_340 = gE G := gE_fr fr_346 (gr_q rfl) (gf_q rfl)
              have fr_348 : Fr [] [(66, 2), (66, 3)] G_308 G_340 := (Fr.call9 (rs := []) (fs := [(66, 2), (66, 3)]) Fr.rf hq_341 rfl rfl)
              have g_349 : gN G_340 = gN G_308 := gN_fr fr_348 (gr_q rfl) (gf_q rfl)
              have b_350 : 0 ≤ (G_308.1 66 4).toInt ∧ (G_308.1 66 4).toInt ≤ 1600 := bd_66_4 hB_G_308
              have g_351 : (G_340.1 66 4).toInt = (G_308.1 66 4).toInt := (congrArg Int32.toInt (show G_340.1 66 4 = (G_308.1 66 4) from (hq_341.i9 66 4 rfl rfl)))
              have g_352 : (G_340.1 86 0).toInt = (G.1 86 0).toInt := (congrArg Int32.toInt (show G_340.1 86 0 = (G.1 86 0) from ((hq_341.i9 86 0 rfl rfl).trans ((hq_309.i9 86 0 rfl rfl).trans ((hq_15.i9 86 0 rfl rfl).trans ((hq_10.i9 86 0 rfl rfl).trans (hq_3.i9 86 0 rfl rfl)))))))
              have g_353 : (G_340.1 86 1).toInt = (G.1 86 1).toInt := (congrArg Int32.toInt (show G_340.1 86 1 = (G.1 86 1) from ((hq_341.i9 86 1 rfl rfl).trans ((hq_309.i9 86 1 rfl rfl).trans ((hq_15.i9 86 1 rfl rfl).trans ((hq_10.i9 86 1 rfl rfl).trans (hq_3.i9 86 1 rfl rfl)))))))
              have g_354 : (G_340.1 86 2).toInt = (G.1 86 2).toInt := (congrArg Int32.toInt (show G_340.1 86 2 = (G.1 86 2) from ((hq_341.i9 86 2 rfl rfl).trans ((hq_309.i9 86 2 rfl rfl).trans ((hq_15.i9 86 2 rfl rfl).trans ((hq_10.i9 86 2 rfl rfl).trans (hq_3.i9 86 2 rfl rfl)))))))
              exact W.vret hx hb hr (fun t ht _ => ⟨⟨G_340, rfl, (Q_readLine_mk ⟨hB_G_340, hF, ((by first | exact ⟨((by first | (clear hnf hE9 hN9 hS9 f_6 f_18 c_296 b_297 c_298 b_299 g_300 g_301 g_303 d_33 b_312 c_313 d_34 hp_342 b_344 c_345 g_347 g_349 g_352 g_353 g_354; omega) | omega)), (fun h9 => ⟨((by first | (clear hnf hE9 hN9 hS9 f_6 f_18 c_296 b_297 c_298 b_299 g_300 g_301 g_303 d_33 b_312 c_313 d_34 g_347 g_349 g_352 g_353 g_354; omega) | omega)), ⟨((by first | (clear hnf hN9 hS9 f_6 hp_4 g_12 f_18 hp_16 c_296 b_297 c_298 b_299 g_300 g_301 g_303 b_304 g_305 g_306 d_31 d_32 d_33 b_312 c_313 d_34 c_321 g_349 b_350 g_351 g_352 g_353 g_354; omega) | omega)), ⟨((by first | (clear hnf hE9 hN9 hS9 f_6 hp_4 g_12 f_18 hp_16 c_296 b_297 c_298 b_299 g_300 g_301 g_303 b_304 g_305 g_306 d_31 d_32 d_33 c_321 g_347 b_350 g_351 g_352 g_353 g_354; omega) | omega)), ⟨((by first | (clear hnf hE9 hN9 f_6 hp_4 g_12 f_18 hp_16 c_296 b_297 c_298 b_299 g_300 g_301 g_303 b_304 g_305 g_306 d_31 d_32 d_33 b_312 c_313 d_34 c_321 g_347 g_349 b_350 g_351; omega) | omega)), ⟨((by first | (clear hnf hE9 hN9 f_6 hp_4 g_12 f_18 hp_16 c_296 b_297 c_298 b_299 g_300 g_301 g_303 b_304 g_305 g_306 d_31 d_32 d_33 b_312 c_313 d_34 c_321 g_347 g_349 b_350 g_351; omega) | omega)), ⟨((by first | (clear hnf hE9 hN9 f_6 hp_4 g_12 f_18 hp_16 c_296 b_297 c_298 b_299 g_300 g_301 g_303 b_304 g_305 g_306 d_31 d_32 d_33 b_312 c_313 d_34 c_321 g_347 g_349 b_350 g_351; omega) | omega)), ⟨((by first | (clear hnf hE9 hN9 f_6 hp_4 g_12 f_18 hp_16 c_296 b_297 c_298 b_299 g_300 g_301 g_303 b_304 g_305 g_306 d_31 d_32 d_33 b_312 c_313 d_34 c_321 g_347 g_349 b_350 g_351; omega) | omega)), ⟨((by first | (clear hnf hE9 hN9 f_6 hp_4 g_12 f_18 hp_16 c_296 b_297 c_298 b_299 g_300 g_301 g_303 b_304 g_305 g_306 d_31 d_32 d_33 b_312 c_313 d_34 c_321 g_347 g_349 b_350 g_351; omega) | omega)), ⟨((by first | (clear hnf hE9 hN9 f_6 hp_4 g_12 f_18 hp_16 c_296 b_297 c_298 b_299 g_300 g_301 g_303 b_304 g_305 g_306 d_31 d_32 d_33 b_312 c_313 d_34 c_321 g_347 g_349 b_350 g_351; omega) | omega)), ((by first | (clear hnf hE9 hN9 f_6 hp_4 g_12 f_18 hp_16 c_296 b_297 c_298 b_299 g_300 g_301 g_303 b_304 g_305 g_306 d_31 d_32 d_33 b_312 c_313 d_34 c_321 g_347 g_349 b_350 g_351; omega) | omega))⟩⟩⟩⟩⟩⟩⟩⟩⟩)⟩ | omega)), ⟨r_1, G_2, hX_5, (Or.inr ⟨G_8, hX_11, hB_G_8, hq_10, ⟨r_13, G_14, hX_17, (Or.inl ⟨c_296, ⟨c_298, ⟨G_308, hX_311, (Or.inl ⟨c_313, (Or.inr ⟨c_321, ⟨G_340, hX_343, (Or.inr ⟨c_345, rfl⟩)⟩⟩)⟩)⟩⟩⟩)⟩⟩)⟩⟩), wd_t ht hW⟩, hS.F ht⟩) hS.2.2 dX12_readLine_232
            · have c_345 : (G_340.1 66 2).toInt = 0 := xI_eq rfl rfl c_345
              refine lv_aload_n hx hb dX12_readLine_228 rfl (lv_at hl 0 rfl) ?_
              have b_355 : 0 ≤ (G_308.1 66 4).toInt ∧ (G_308.1 66 4).toInt ≤ 1600 := bd_66_4 hB_G_308
              have g_356 : (G_340.1 66 4).toInt = (G_308.1 66 4).toInt := (congrArg Int32.toInt (show G_340.1 66 4 = (G_308.1 66 4) from (hq_341.i9 66 4 rfl rfl)))
              have g_357 : (G_340.1 66 6).toInt = (G_308.1 66 6).toInt := (congrArg Int32.toInt (show G_340.1 66 6 = (G_308.1 66 6) from ((hq_341.i9 66 6 rfl rfl).trans (rfl))))
              refine S_callv (va_runV (As := []) (rest := []) ⟨hx, hb, hml, hown, hts⟩ (n_token l D k A a z G_340  ) (cwV 0 hts (gd_V hgd m1602 m1604 m50 m131 m1605) rfl rfl rfl hd_X12_token ⟨Nat.le_of_ble_eq_true rfl, Nat.le_of_ble_eq_true rfl⟩) (pre_W hW hB_G_340 hK hZ hS kd_66 rfl) rfl rfl hl.1 rfl (lv_room (Nat.le_of_ble_eq_true rfl)) dX12_readLine_229 ⟨Nat.le_of_ble_eq_true rfl, Nat.le_of_ble_eq_true rfl⟩) hS (fun G_359 H locs hpo hW hS => ?_)
              have hX_362 : Q_token G_340 G_359 := hpo
              obtain ⟨hB_G_359, hq_360, ⟨d_37, d_38⟩, -⟩ := hpo
              have hF := hF.call9 hq_360 rfl rfl
              have fr_363 : Fr [68, 82, 83, 84, 85] [(66, 2), (66, 3), (66, 4), (66, 6), (66, 7), (66, 8), (66, 9), (66, 46)] G G_359 := (Fr.call9 (rs := [68, 82, 83, 84, 85]) (fs := [(66, 2), (66, 3), (66, 4), (66, 6), (66, 7), (66, 8), (66, 9), (66, 46)]) (Fr.call9 (rs := [68, 82, 83, 84, 85]) (fs := [(66, 2), (66, 3), (66, 4), (66, 6), (66, 7), (66, 8), (66, 9), (66, 46)]) (Fr.call9 (rs := [68, 82, 83, 84, 85]) (fs := [(66, 2), (66, 3), (66, 4), (66, 6), (66, 7), (66, 8), (66, 9), (66, 46)]) (Fr.call9 (rs := [68, 82, 83, 84, 85]) (fs := [(66, 2), (66, 3), (66, 4), (66, 6), (66, 7), (66, 8), (66, 9), (66, 46)]) (Fr.call9 (rs := [68, 82, 83, 84, 85]) (fs := [(66, 2), (66, 3), (66, 4), (66, 6), (66, 7), (66, 8), (66, 9), (66, 46)]) (Fr.call9 (rs := [68, 82, 83, 84, 85]) (fs := [(66, 2), (66, 3), (66, 4), (66, 6), (66, 7), (66, 8), (66, 9), (66, 46)]) Fr.rf hq_3 rfl rfl) hq_10 rfl rfl) hq_15 rfl rfl) hq_309 rfl rfl) hq_341 rfl rfl) hq_360 rfl rfl)
              have g_364 : gE G_359 = gE G := gE_fr fr_363 (gr_q rfl) (gf_q rfl)
              have fr_365 : Fr [] [(66, 2), (66, 3), (66, 4), (66, 6), (66, 7), (66, 8), (66, 9)] G_308 G_359 := (Fr.call9 (rs := []) (fs := [(66, 2), (66, 3), (66, 4), (66, 6), (66, 7), (66, 8), (66, 9)]) (Fr.call9 (rs := []) (fs := [(66, 2), (66, 3), (66, 4), (66, 6), (66, 7), (66, 8), (66, 9)]) Fr.rf hq_341 rfl rfl) hq_360 rfl rfl)
              have g_366 : gN G_359 = gN G_308 := gN_fr fr_365 (gr_q rfl) (gf_q rfl)
              have g_367 : (G_359.1 66 2).toInt = (G_340.1 66 2).toInt := (congrArg Int32.toInt (show G_359.1 66 2 = (G_340.1 66 2) from ((hq_360.i9 66 2 rfl rfl).trans (rfl))))
              have b_368 : 0 ≤ (G_359.1 66 4).toInt ∧ (G_359.1 66 4).toInt ≤ 1600 := bd_66_4 hB_G_359
              have g_369 : (G_359.1 86 0).toInt = (G.1 86 0).toInt := (congrArg Int32.toInt (show G_359.1 86 0 = (G.1 86 0) from ((hq_360.i9 86 0 rfl rfl).trans ((hq_341.i9 86 0 rfl rfl).trans ((hq_309.i9 86 0 rfl rfl).trans ((hq_15.i9 86 0 rfl rfl).trans ((hq_10.i9 86 0 rfl rfl).trans (hq_3.i9 86 0 rfl rfl))))))))
              have g_370 : (G_359.1 86 1).toInt = (G.1 86 1).toInt := (congrArg Int32.toInt (show G_359.1 86 1 = (G.1 86 1) from ((hq_360.i9 86 1 rfl rfl).trans ((hq_341.i9 86 1 rfl rfl).trans ((hq_309.i9 86 1 rfl rfl).trans ((hq_15.i9 86 1 rfl rfl).trans ((hq_10.i9 86 1 rfl rfl).trans (hq_3.i9 86 1 rfl rfl))))))))
              have g_371 : (G_359.1 86 2).toInt = (G.1 86 2).toInt := (congrArg Int32.toInt (show G_359.1 86 2 = (G.1 86 2) from ((hq_360.i9 86 2 rfl rfl).trans ((hq_341.i9 86 2 rfl rfl).trans ((hq_309.i9 86 2 rfl rfl).trans ((hq_15.i9 86 2 rfl rfl).trans ((hq_10.i9 86 2 rfl rfl).trans (hq_3.i9 86 2 rfl rfl))))))))
              exact W.vret hx hb hr (fun t ht _ => ⟨⟨G_359, rfl, (Q_readLine_mk ⟨hB_G_359, hF, ((by first | exact ⟨((by first | (clear hnf hE9 hN9 hS9 f_6 f_18 c_296 b_297 c_298 b_299 g_300 g_301 g_303 d_33 b_312 c_313 d_34 hp_342 b_344 c_345 g_364 g_366 g_367 g_369 g_370 g_371; omega) | omega)), (fun h9 => ⟨((by first | (clear hnf hE9 hN9 hS9 f_6 f_18 c_296 b_297 c_298 b_299 g_300 g_301 g_303 d_33 b_312 c_313 d_34 g_364 g_366 g_369 g_370 g_371; omega) | omega)), ⟨((by first | (clear hnf hN9 hS9 f_6 hp_4 g_12 f_18 hp_16 c_296 b_297 c_298 b_299 g_300 g_301 g_303 b_304 g_305 g_306 d_31 d_32 d_33 b_312 c_313 d_34 c_321 b_355 g_356 g_357 d_37 d_38 g_366 b_368 g_369 g_370 g_371; omega) | omega)), ⟨((by first | (clear hnf hE9 hN9 hS9 f_6 hp_4 g_12 f_18 hp_16 c_296 b_297 c_298 b_299 g_300 g_301 g_303 b_304 g_305 g_306 d_31 d_32 d_33 c_321 b_355 g_356 g_357 d_37 d_38 g_364 b_368 g_369 g_370 g_371; omega) | omega)), ⟨((by first | (clear hnf hE9 hN9 f_6 hp_4 g_12 f_18 hp_16 c_296 b_297 c_298 b_299 g_300 g_301 g_303 b_304 g_305 g_306 d_31 d_32 d_33 b_312 c_313 d_34 c_321 b_355 g_356 g_357 d_37 d_38 g_364 g_366 b_368; omega) | omega)), ⟨((by first | (clear hnf hE9 hN9 f_6 hp_4 g_12 f_18 hp_16 c_296 b_297 c_298 b_299 g_300 g_301 g_303 b_304 g_305 g_306 d_31 d_32 d_33 b_312 c_313 d_34 c_321 b_355 g_356 g_357 d_37 d_38 g_364 g_366 b_368; omega) | omega)), ⟨((by first | (clear hnf hE9 hN9 f_6 hp_4 g_12 f_18 hp_16 c_296 b_297 c_298 b_299 g_300 g_301 g_303 b_304 g_305 g_306 d_31 d_32 d_33 b_312 c_313 d_34 c_321 b_355 g_356 g_357 d_37 d_38 g_364 g_366 b_368; omega) | omega)), ⟨((by first | (clear hnf hE9 hN9 f_6 hp_4 g_12 f_18 hp_16 c_296 b_297 c_298 b_299 g_300 g_301 g_303 b_304 g_305 g_306 d_31 d_32 d_33 b_312 c_313 d_34 c_321 b_355 g_356 g_357 d_37 d_38 g_364 g_366 b_368; omega) | omega)), ⟨((by first | (clear hnf hE9 hN9 f_6 hp_4 g_12 f_18 hp_16 c_296 b_297 c_298 b_299 g_300 g_301 g_303 b_304 g_305 g_306 d_31 d_32 d_33 b_312 c_313 d_34 c_321 b_355 g_356 g_357 d_37 d_38 g_364 g_366 b_368; omega) | omega)), ⟨((by first | (clear hnf hE9 hN9 f_6 hp_4 g_12 f_18 hp_16 c_296 b_297 c_298 b_299 g_300 g_301 g_303 b_304 g_305 g_306 d_31 d_32 d_33 b_312 c_313 d_34 c_321 b_355 g_356 g_357 d_37 d_38 g_364 g_366 b_368; omega) | omega)), ((by first | (clear hnf hE9 hN9 f_6 hp_4 g_12 f_18 hp_16 c_296 b_297 c_298 b_299 g_300 g_301 g_303 b_304 g_305 g_306 d_31 d_32 d_33 b_312 c_313 d_34 c_321 b_355 g_356 g_357 d_37 d_38 g_364 g_366 b_368; omega) | omega))⟩⟩⟩⟩⟩⟩⟩⟩⟩)⟩ | omega)), ⟨r_1, G_2, hX_5, (Or.inr ⟨G_8, hX_11, hB_G_8, hq_10, ⟨r_13, G_14, hX_17, (Or.inl ⟨c_296, ⟨c_298, ⟨G_308, hX_311, (Or.inl ⟨c_313, (Or.inr ⟨c_321, ⟨G_340, hX_343, (Or.inl ⟨c_345, ⟨G_359, hX_362, rfl⟩⟩)⟩⟩)⟩)⟩⟩⟩)⟩⟩)⟩⟩), wd_t ht hW⟩, hS.F ht⟩) hS.2.2 dX12_readLine_232
  refine lv_if_eq (tgt := 25) hx hb dX12_readLine_7 rfl (fun c_372 => ?_) (fun c_372 => ?_)
  · have c_372 : r_1.toInt = 0 := xI_eq rfl rfl c_372
    exact hJ_9 () _ _ _ ⟨G_2, (Jn_n_readLine_1_mk (Or.inl ⟨c_372, rfl⟩)), hW, hB_G_2, hF, (Fr.rf (rs := []) (fs := [])), hS, lv_sub hl [0] rfl⟩
  · have c_372 : r_1.toInt ≠ 0 := xI_ne rfl rfl c_372
    refine lv_aload_n hx hb dX12_readLine_10 rfl (lv_at hl 0 rfl) ?_
    have b_373 : 0 ≤ (G.1 66 45).toInt ∧ (G.1 66 45).toInt ≤ 3 := bd_66_45 hB_G
    refine S_getI (v := (G.1 66 45)) (C := RX12) (T := TX12) (N := 89) hx hb hg iX12 hown hK hW kd_66 rfl 45 (lt_b rfl) (hg (Cond.fieldLink RX12 359 "SlabWalkModel" "nStreets" "I") m1359) (fun _ h9 => h9) rfl (hq_3.i9 66 45 rfl rfl) dX12_readLine_11 ?_
    refine ic_3 hx hb dX12_readLine_14 ?_
    refine lv_icmp_ge (tgt := 25) hx hb dX12_readLine_15 rfl (fun c_374 => ?_) (fun c_374 => ?_)
    · have c_374 : 3 ≤ (G.1 66 45).toInt := xI_le rfl rfl c_374
      exact hJ_9 () _ _ _ ⟨G_2, (Jn_n_readLine_1_mk (Or.inr ⟨c_372, ⟨c_374, rfl⟩⟩)), hW, hB_G_2, hF, (Fr.rf (rs := []) (fs := [])), hS, lv_sub hl [0] rfl⟩
    · have c_374 : (G.1 66 45).toInt < 3 := xI_nle rfl rfl c_374
      refine lv_aload_n hx hb dX12_readLine_18 rfl (lv_at hl 0 rfl) ?_
      have b_375 : 0 ≤ (G.1 66 2).toInt ∧ (G.1 66 2).toInt ≤ 4 := bd_66_2 hB_G
      have g_376 : (G_2.1 66 2).toInt = (G.1 66 2).toInt := (congrArg Int32.toInt (show G_2.1 66 2 = (G.1 66 2) from (hq_3.i9 66 2 rfl rfl)))
      have g_377 : (G_2.1 66 45).toInt = (G.1 66 45).toInt := (congrArg Int32.toInt (show G_2.1 66 45 = (G.1 66 45) from ((hq_3.i9 66 45 rfl rfl).trans (rfl))))
      have b_378 : 0 ≤ (G.1 66 4).toInt ∧ (G.1 66 4).toInt ≤ 1600 := bd_66_4 hB_G
      have g_379 : (G_2.1 66 4).toInt = (G.1 66 4).toInt := (congrArg Int32.toInt (show G_2.1 66 4 = (G.1 66 4) from (hq_3.i9 66 4 rfl rfl)))
      have g_380 : (G_2.1 66 6).toInt = (G.1 66 6).toInt := (congrArg Int32.toInt (show G_2.1 66 6 = (G.1 66 6) from (hq_3.i9 66 6 rfl rfl)))
      refine S_callv (va_runV (As := []) (rest := []) ⟨hx, hb, hml, hown, hts⟩ (n_readStreet l D k A a z G_2  ((by first | (clear hE9 hN9 hS9 f_6 hp_4 c_372 b_373 c_374 g_377 b_378 g_379 g_380; omega) | omega)) ((by first | (clear hnf hE9 hN9 hS9 f_6 hp_4 c_372 b_375 g_376 b_378 g_379 g_380; omega) | omega))) (cwV 0 hts (gd_V hgd m1628 m1630 m54 m131 m1631) rfl rfl rfl hd_X12_readStreet ⟨Nat.le_of_ble_eq_true rfl, Nat.le_of_ble_eq_true rfl⟩) (pre_W hW hB_G_2 hK hZ hS kd_66 rfl) rfl rfl hl.1 rfl (lv_room (Nat.le_of_ble_eq_true rfl)) dX12_readLine_19 ⟨Nat.le_of_ble_eq_true rfl, Nat.le_of_ble_eq_true rfl⟩) hS (fun G_382 H locs hpo hW hS => ?_)
      have hX_385 : Q_readStreet G_2 G_382 := hpo
      obtain ⟨hB_G_382, hq_383, ⟨d_39, d_40⟩, -⟩ := hpo
      have hF := hF.call9 hq_383 rfl rfl
      refine lv_goto (tgt := 200) hx hb dX12_readLine_22 rfl ?_
      refine lv_aload_n hx hb dX12_readLine_200 rfl (lv_at hl 0 rfl) ?_
      have b_386 : 0 ≤ (G_382.1 66 2).toInt ∧ (G_382.1 66 2).toInt ≤ 4 := bd_66_2 hB_G_382
      refine S_getI (v := (G_382.1 66 2)) (C := RX12) (T := TX12) (N := 89) hx hb hg iX12 hown hK hW kd_66 rfl 2 (lt_b rfl) (hg (Cond.fieldLink RX12 218 "SlabWalkModel" "fault" "I") m1316) (fun _ h9 => h9) rfl rfl dX12_readLine_201 ?_
      refine lv_if_ne (tgt := 221) hx hb dX12_readLine_204 rfl (fun c_387 => ?_) (fun c_387 => ?_)
      · have c_387 : (G_382.1 66 2).toInt ≠ 0 := xI_ne rfl rfl c_387
        refine lv_aload_n hx hb dX12_readLine_221 rfl (lv_at hl 0 rfl) ?_
        refine S_getI (v := (G_382.1 66 2)) (C := RX12) (T := TX12) (N := 89) hx hb hg iX12 hown hK hW kd_66 rfl 2 (lt_b rfl) (hg (Cond.fieldLink RX12 218 "SlabWalkModel" "fault" "I") m1316) (fun _ h9 => h9) rfl rfl dX12_readLine_222 ?_
        refine lv_if_ne (tgt := 232) hx hb dX12_readLine_225 rfl (fun c_388 => ?_) (fun c_388 => ?_)
        · have c_388 : (G_382.1 66 2).toInt ≠ 0 := xI_ne rfl rfl c_388
          have fr_389 : Fr [68, 77, 78, 79, 80, 81] [(66, 2), (66, 3), (66, 4), (66, 6), (66, 7), (66, 8), (66, 9), (66, 45)] G G_382 := (Fr.call9 (rs := [68, 77, 78, 79, 80, 81]) (fs := [(66, 2), (66, 3), (66, 4), (66, 6), (66, 7), (66, 8), (66, 9), (66, 45)]) (Fr.call9 (rs := [68, 77, 78, 79, 80, 81]) (fs := [(66, 2), (66, 3), (66, 4), (66, 6), (66, 7), (66, 8), (66, 9), (66, 45)]) Fr.rf hq_3 rfl rfl) hq_383 rfl rfl)
          have g_390 : gE G_382 = gE G := gE_fr fr_389 (gr_q rfl) (gf_q rfl)
          have g_391 : gN G_382 = gN G := gN_fr fr_389 (gr_q rfl) (gf_q rfl)
          have b_392 : 0 ≤ (G_382.1 66 4).toInt ∧ (G_382.1 66 4).toInt ≤ 1600 := bd_66_4 hB_G_382
          have g_393 : (G_382.1 86 0).toInt = (G.1 86 0).toInt := (congrArg Int32.toInt (show G_382.1 86 0 = (G.1 86 0) from ((hq_383.i9 86 0 rfl rfl).trans (hq_3.i9 86 0 rfl rfl))))
          have g_394 : (G_382.1 86 1).toInt = (G.1 86 1).toInt := (congrArg Int32.toInt (show G_382.1 86 1 = (G.1 86 1) from ((hq_383.i9 86 1 rfl rfl).trans (hq_3.i9 86 1 rfl rfl))))
          have g_395 : (G_382.1 86 2).toInt = (G.1 86 2).toInt := (congrArg Int32.toInt (show G_382.1 86 2 = (G.1 86 2) from ((hq_383.i9 86 2 rfl rfl).trans (hq_3.i9 86 2 rfl rfl))))
          exact W.vret hx hb hr (fun t ht _ => ⟨⟨G_382, rfl, (Q_readLine_mk ⟨hB_G_382, hF, ((by first | exact ⟨((by first | (clear hnf hE9 hN9 hS9 f_6 c_372 b_373 c_374 b_375 g_376 g_377 b_386 c_387 c_388 g_390 g_391 g_393 g_394 g_395; omega) | omega)), (fun h9 => ⟨((by first | (clear hnf hE9 hN9 hS9 f_6 c_372 b_373 c_374 b_375 g_376 g_377 g_390 g_391 g_393 g_394 g_395; omega) | omega)), ⟨((by first | (clear hnf hN9 hS9 f_6 hp_4 c_372 b_373 c_374 b_375 g_376 g_377 b_378 g_379 g_380 d_39 d_40 g_391 b_392 g_393 g_394 g_395; omega) | omega)), ⟨((by first | (clear hnf hE9 hS9 f_6 hp_4 c_372 b_373 c_374 b_375 g_376 g_377 b_378 g_379 g_380 d_39 d_40 g_390 b_392 g_393 g_394 g_395; omega) | omega)), ⟨((by first | (clear hnf hE9 hN9 f_6 hp_4 c_372 b_373 c_374 b_375 g_376 g_377 b_378 g_379 g_380 d_39 d_40 g_390 g_391 b_392; omega) | omega)), ⟨((by first | (clear hnf hE9 hN9 f_6 hp_4 c_372 b_373 c_374 b_375 g_376 g_377 b_378 g_379 g_380 d_39 d_40 g_390 g_391 b_392; omega) | omega)), ⟨((by first | (clear hnf hE9 hN9 f_6 hp_4 c_372 b_373 c_374 b_375 g_376 g_377 b_378 g_379 g_380 d_39 d_40 g_390 g_391 b_392; omega) | omega)), ⟨((by first | (clear hnf hE9 hN9 f_6 hp_4 c_372 b_373 c_374 b_375 g_376 g_377 b_378 g_379 g_380 d_39 d_40 g_390 g_391 b_392; omega) | omega)), ⟨((by first | (clear hnf hE9 hN9 f_6 hp_4 c_372 b_373 c_374 b_375 g_376 g_377 b_378 g_379 g_380 d_39 d_40 g_390 g_391 b_392; omega) | omega)), ⟨((by first | (clear hnf hE9 hN9 f_6 hp_4 c_372 b_373 c_374 b_375 g_376 g_377 b_378 g_379 g_380 d_39 d_40 g_390 g_391 b_392; omega) | omega)), ((by first | (clear hnf hE9 hN9 f_6 hp_4 c_372 b_373 c_374 b_375 g_376 g_377 b_378 g_379 g_380 d_39 d_40 g_390 g_391 b_392; omega) | omega))⟩⟩⟩⟩⟩⟩⟩⟩⟩)⟩ | omega)), ⟨r_1, G_2, hX_5, (Or.inl ⟨c_372, ⟨c_374, ⟨G_382, hX_385, (Or.inr ⟨c_387, rfl⟩)⟩⟩⟩)⟩⟩), wd_t ht hW⟩, hS.F ht⟩) hS.2.2 dX12_readLine_232
        · have c_388 : (G_382.1 66 2).toInt = 0 := xI_eq rfl rfl c_388
          exfalso; first | (clear hnf hE9 hN9 hS9 f_6 hp_4 c_372 b_373 c_374 b_375 g_376 g_377 b_378 g_379 g_380 d_39 d_40; omega) | omega
      · have c_387 : (G_382.1 66 2).toInt = 0 := xI_eq rfl rfl c_387
        refine lv_aload_n hx hb dX12_readLine_207 rfl (lv_at hl 0 rfl) ?_
        refine S_getI (v := (G_382.1 66 6)) (C := RX12) (T := TX12) (N := 89) hx hb hg iX12 hown hK hW kd_66 rfl 6 (lt_b rfl) (hg (Cond.fieldLink RX12 205 "SlabWalkModel" "sort" "I") m1320) (fun _ h9 => h9) rfl rfl dX12_readLine_208 ?_
        refine lv_bipush (v := 59) hx hb dX12_readLine_211 (by decide) ?_
        refine lv_icmp_eq (tgt := 221) hx hb dX12_readLine_213 rfl (fun c_396 => ?_) (fun c_396 => ?_)
        · have c_396 : (G_382.1 66 6).toInt = 59 := xI_eq rfl rfl c_396
          refine lv_aload_n hx hb dX12_readLine_221 rfl (lv_at hl 0 rfl) ?_
          refine S_getI (v := (G_382.1 66 2)) (C := RX12) (T := TX12) (N := 89) hx hb hg iX12 hown hK hW kd_66 rfl 2 (lt_b rfl) (hg (Cond.fieldLink RX12 218 "SlabWalkModel" "fault" "I") m1316) (fun _ h9 => h9) rfl rfl dX12_readLine_222 ?_
          refine lv_if_ne (tgt := 232) hx hb dX12_readLine_225 rfl (fun c_397 => ?_) (fun c_397 => ?_)
          · have c_397 : (G_382.1 66 2).toInt ≠ 0 := xI_ne rfl rfl c_397
            exfalso; first | (clear hnf hE9 hN9 hS9 f_6 hp_4 c_372 b_373 c_374 b_375 g_376 g_377 b_378 g_379 g_380 d_39 d_40 c_396; omega) | omega
          · have c_397 : (G_382.1 66 2).toInt = 0 := xI_eq rfl rfl c_397
            refine lv_aload_n hx hb dX12_readLine_228 rfl (lv_at hl 0 rfl) ?_
            have b_398 : 0 ≤ (G_382.1 66 4).toInt ∧ (G_382.1 66 4).toInt ≤ 1600 := bd_66_4 hB_G_382
            refine S_callv (va_runV (As := []) (rest := []) ⟨hx, hb, hml, hown, hts⟩ (n_token l D k A a z G_382  ) (cwV 0 hts (gd_V hgd m1602 m1604 m50 m131 m1605) rfl rfl rfl hd_X12_token ⟨Nat.le_of_ble_eq_true rfl, Nat.le_of_ble_eq_true rfl⟩) (pre_W hW hB_G_382 hK hZ hS kd_66 rfl) rfl rfl hl.1 rfl (lv_room (Nat.le_of_ble_eq_true rfl)) dX12_readLine_229 ⟨Nat.le_of_ble_eq_true rfl, Nat.le_of_ble_eq_true rfl⟩) hS (fun G_400 H locs hpo hW hS => ?_)
            have hX_403 : Q_token G_382 G_400 := hpo
            obtain ⟨hB_G_400, hq_401, ⟨d_41, d_42⟩, -⟩ := hpo
            have hF := hF.call9 hq_401 rfl rfl
            have fr_404 : Fr [68, 77, 78, 79, 80, 81] [(66, 2), (66, 3), (66, 4), (66, 6), (66, 7), (66, 8), (66, 9), (66, 45)] G G_400 := (Fr.call9 (rs := [68, 77, 78, 79, 80, 81]) (fs := [(66, 2), (66, 3), (66, 4), (66, 6), (66, 7), (66, 8), (66, 9), (66, 45)]) (Fr.call9 (rs := [68, 77, 78, 79, 80, 81]) (fs := [(66, 2), (66, 3), (66, 4), (66, 6), (66, 7), (66, 8), (66, 9), (66, 45)]) (Fr.call9 (rs := [68, 77, 78, 79, 80, 81]) (fs := [(66, 2), (66, 3), (66, 4), (66, 6), (66, 7), (66, 8), (66, 9), (66, 45)]) Fr.rf hq_3 rfl rfl) hq_383 rfl rfl) hq_401 rfl rfl)
            have g_405 : gE G_400 = gE G := gE_fr fr_404 (gr_q rfl) (gf_q rfl)
            have g_406 : gN G_400 = gN G := gN_fr fr_404 (gr_q rfl) (gf_q rfl)
            have g_407 : (G_400.1 66 2).toInt = (G_382.1 66 2).toInt := (congrArg Int32.toInt (show G_400.1 66 2 = (G_382.1 66 2) from ((hq_401.i9 66 2 rfl rfl).trans (rfl))))
            have b_408 : 0 ≤ (G_400.1 66 4).toInt ∧ (G_400.1 66 4).toInt ≤ 1600 := bd_66_4 hB_G_400
            have g_409 : (G_400.1 86 0).toInt = (G.1 86 0).toInt := (congrArg Int32.toInt (show G_400.1 86 0 = (G.1 86 0) from ((hq_401.i9 86 0 rfl rfl).trans ((hq_383.i9 86 0 rfl rfl).trans (hq_3.i9 86 0 rfl rfl)))))
            have g_410 : (G_400.1 86 1).toInt = (G.1 86 1).toInt := (congrArg Int32.toInt (show G_400.1 86 1 = (G.1 86 1) from ((hq_401.i9 86 1 rfl rfl).trans ((hq_383.i9 86 1 rfl rfl).trans (hq_3.i9 86 1 rfl rfl)))))
            have g_411 : (G_400.1 86 2).toInt = (G.1 86 2).toInt := (congrArg Int32.toInt (show G_400.1 86 2 = (G.1 86 2) from ((hq_401.i9 86 2 rfl rfl).trans ((hq_383.i9 86 2 rfl rfl).trans (hq_3.i9 86 2 rfl rfl)))))
            exact W.vret hx hb hr (fun t ht _ => ⟨⟨G_400, rfl, (Q_readLine_mk ⟨hB_G_400, hF, ((by first | exact ⟨((by first | (clear hnf hE9 hN9 hS9 f_6 c_372 b_373 c_374 b_375 g_376 g_377 b_386 c_387 c_397 g_405 g_406 g_407 g_409 g_410 g_411; omega) | omega)), (fun h9 => ⟨((by first | (clear hnf hE9 hN9 hS9 f_6 c_372 b_373 c_374 b_375 g_376 g_377 g_405 g_406 g_409 g_410 g_411; omega) | omega)), ⟨((by first | (clear hnf hN9 hS9 f_6 hp_4 c_372 b_373 c_374 b_375 g_376 g_377 b_378 g_379 g_380 d_39 d_40 c_396 b_398 d_41 d_42 g_406 b_408 g_409 g_410 g_411; omega) | omega)), ⟨((by first | (clear hnf hE9 hS9 f_6 hp_4 c_372 b_373 c_374 b_375 g_376 g_377 b_378 g_379 g_380 d_39 d_40 c_396 b_398 d_41 d_42 g_405 b_408 g_409 g_410 g_411; omega) | omega)), ⟨((by first | (clear hnf hE9 hN9 f_6 hp_4 c_372 b_373 c_374 b_375 g_376 g_377 b_378 g_379 g_380 d_39 d_40 c_396 b_398 d_41 d_42 g_405 g_406 b_408; omega) | omega)), ⟨((by first | (clear hnf hE9 hN9 f_6 hp_4 c_372 b_373 c_374 b_375 g_376 g_377 b_378 g_379 g_380 d_39 d_40 c_396 b_398 d_41 d_42 g_405 g_406 b_408; omega) | omega)), ⟨((by first | (clear hnf hE9 hN9 f_6 hp_4 c_372 b_373 c_374 b_375 g_376 g_377 b_378 g_379 g_380 d_39 d_40 c_396 b_398 d_41 d_42 g_405 g_406 b_408; omega) | omega)), ⟨((by first | (clear hnf hE9 hN9 f_6 hp_4 c_372 b_373 c_374 b_375 g_376 g_377 b_378 g_379 g_380 d_39 d_40 c_396 b_398 d_41 d_42 g_405 g_406 b_408; omega) | omega)), ⟨((by first | (clear hnf hE9 hN9 f_6 hp_4 c_372 b_373 c_374 b_375 g_376 g_377 b_378 g_379 g_380 d_39 d_40 c_396 b_398 d_41 d_42 g_405 g_406 b_408; omega) | omega)), ⟨((by first | (clear hnf hE9 hN9 f_6 hp_4 c_372 b_373 c_374 b_375 g_376 g_377 b_378 g_379 g_380 d_39 d_40 c_396 b_398 d_41 d_42 g_405 g_406 b_408; omega) | omega)), ((by first | (clear hnf hE9 hN9 f_6 hp_4 c_372 b_373 c_374 b_375 g_376 g_377 b_378 g_379 g_380 d_39 d_40 c_396 b_398 d_41 d_42 g_405 g_406 b_408; omega) | omega))⟩⟩⟩⟩⟩⟩⟩⟩⟩)⟩ | omega)), ⟨r_1, G_2, hX_5, (Or.inl ⟨c_372, ⟨c_374, ⟨G_382, hX_385, (Or.inl ⟨c_387, (Or.inl ⟨c_396, ⟨G_400, hX_403, rfl⟩⟩)⟩)⟩⟩⟩)⟩⟩), wd_t ht hW⟩, hS.F ht⟩) hS.2.2 dX12_readLine_232
        · have c_396 : (G_382.1 66 6).toInt ≠ 59 := xI_ne rfl rfl c_396
          refine lv_aload_n hx hb dX12_readLine_216 rfl (lv_at hl 0 rfl) ?_
          refine ic_2 hx hb dX12_readLine_217 ?_
          have qc_412 : (2 : Int32).toInt = 2 := rfl
          refine S_callv (va_runV (As := [.int 2]) (rest := []) ⟨hx, hb, hml, hown, hts⟩ (n_wrong l D k A a z G_382 2 ⟨by decide, by decide⟩) (cwV 1 hts (gd_V hgd m1670 m1672 m59 m131 m1673) rfl rfl rfl hd_X12_wrong ⟨Nat.le_of_ble_eq_true rfl, Nat.le_of_ble_eq_true rfl⟩) (pre_W hW hB_G_382 hK hZ hS kd_66 rfl) rfl rfl hl.1 rfl (lv_room (Nat.le_of_ble_eq_true rfl)) dX12_readLine_218 ⟨Nat.le_of_ble_eq_true rfl, Nat.le_of_ble_eq_true rfl⟩) hS (fun G_414 H locs hpo hW hS => ?_)
          have hX_417 : Q_wrong 2 G_382 G_414 := hpo
          obtain ⟨hB_G_414, hq_415, hp_416, -⟩ := hpo
          have hF := hF.call9 hq_415 rfl rfl
          refine lv_aload_n hx hb dX12_readLine_221 rfl (lv_at hl 0 rfl) ?_
          have b_418 : 0 ≤ (G_414.1 66 2).toInt ∧ (G_414.1 66 2).toInt ≤ 4 := bd_66_2 hB_G_414
          refine S_getI (v := (G_414.1 66 2)) (C := RX12) (T := TX12) (N := 89) hx hb hg iX12 hown hK hW kd_66 rfl 2 (lt_b rfl) (hg (Cond.fieldLink RX12 218 "SlabWalkModel" "fault" "I") m1316) (fun _ h9 => h9) rfl rfl dX12_readLine_222 ?_
          refine lv_if_ne (tgt := 232) hx hb dX12_readLine_225 rfl (fun c_419 => ?_) (fun c_419 => ?_)
          · have c_419 : (G_414.1 66 2).toInt ≠ 0 := xI_ne rfl rfl c_419
            have fr_420 : Fr [68, 77, 78, 79, 80, 81] [(66, 2), (66, 3), (66, 4), (66, 6), (66, 7), (66, 8), (66, 9), (66, 45)] G G_414 := (Fr.call9 (rs := [68, 77, 78, 79, 80, 81]) (fs := [(66, 2), (66, 3), (66, 4), (66, 6), (66, 7), (66, 8), (66, 9), (66, 45)]) (Fr.call9 (rs := [68, 77, 78, 79, 80, 81]) (fs := [(66, 2), (66, 3), (66, 4), (66, 6), (66, 7), (66, 8), (66, 9), (66, 45)]) (Fr.call9 (rs := [68, 77, 78, 79, 80, 81]) (fs := [(66, 2), (66, 3), (66, 4), (66, 6), (66, 7), (66, 8), (66, 9), (66, 45)]) Fr.rf hq_3 rfl rfl) hq_383 rfl rfl) hq_415 rfl rfl)
            have g_421 : gE G_414 = gE G := gE_fr fr_420 (gr_q rfl) (gf_q rfl)
            have g_422 : gN G_414 = gN G := gN_fr fr_420 (gr_q rfl) (gf_q rfl)
            have b_423 : 0 ≤ (G_382.1 66 4).toInt ∧ (G_382.1 66 4).toInt ≤ 1600 := bd_66_4 hB_G_382
            have g_424 : (G_414.1 66 4).toInt = (G_382.1 66 4).toInt := (congrArg Int32.toInt (show G_414.1 66 4 = (G_382.1 66 4) from (hq_415.i9 66 4 rfl rfl)))
            have g_425 : (G_414.1 86 0).toInt = (G.1 86 0).toInt := (congrArg Int32.toInt (show G_414.1 86 0 = (G.1 86 0) from ((hq_415.i9 86 0 rfl rfl).trans ((hq_383.i9 86 0 rfl rfl).trans (hq_3.i9 86 0 rfl rfl)))))
            have g_426 : (G_414.1 86 1).toInt = (G.1 86 1).toInt := (congrArg Int32.toInt (show G_414.1 86 1 = (G.1 86 1) from ((hq_415.i9 86 1 rfl rfl).trans ((hq_383.i9 86 1 rfl rfl).trans (hq_3.i9 86 1 rfl rfl)))))
            have g_427 : (G_414.1 86 2).toInt = (G.1 86 2).toInt := (congrArg Int32.toInt (show G_414.1 86 2 = (G.1 86 2) from ((hq_415.i9 86 2 rfl rfl).trans ((hq_383.i9 86 2 rfl rfl).trans (hq_3.i9 86 2 rfl rfl)))))
            exact W.vret hx hb hr (fun t ht _ => ⟨⟨G_414, rfl, (Q_readLine_mk ⟨hB_G_414, hF, ((by first | exact ⟨((by first | (clear hnf hE9 hN9 hS9 f_6 c_372 b_373 c_374 b_375 g_376 g_377 b_386 c_387 hp_416 b_418 c_419 g_421 g_422 g_425 g_426 g_427; omega) | omega)), (fun h9 => ⟨((by first | (clear hnf hE9 hN9 hS9 f_6 c_372 b_373 c_374 b_375 g_376 g_377 b_386 c_387 g_421 g_422 g_425 g_426 g_427; omega) | omega)), ⟨((by first | (clear hnf hN9 hS9 f_6 hp_4 c_372 b_373 c_374 b_375 g_376 g_377 b_378 g_379 g_380 d_39 d_40 b_386 c_387 c_396 g_422 b_423 g_424 g_425 g_426 g_427; omega) | omega)), ⟨((by first | (clear hnf hE9 hS9 f_6 hp_4 c_372 b_373 c_374 b_375 g_376 g_377 b_378 g_379 g_380 d_39 d_40 b_386 c_387 c_396 g_421 b_423 g_424 g_425 g_426 g_427; omega) | omega)), ⟨((by first | (clear hnf hE9 hN9 f_6 hp_4 c_372 b_373 c_374 b_375 g_376 g_377 b_378 g_379 g_380 d_39 d_40 b_386 c_387 c_396 g_421 g_422 b_423 g_424; omega) | omega)), ⟨((by first | (clear hnf hE9 hN9 f_6 hp_4 c_372 b_373 c_374 b_375 g_376 g_377 b_378 g_379 g_380 d_39 d_40 b_386 c_387 c_396 g_421 g_422 b_423 g_424; omega) | omega)), ⟨((by first | (clear hnf hE9 hN9 f_6 hp_4 c_372 b_373 c_374 b_375 g_376 g_377 b_378 g_379 g_380 d_39 d_40 b_386 c_387 c_396 g_421 g_422 b_423 g_424; omega) | omega)), ⟨((by first | (clear hnf hE9 hN9 f_6 hp_4 c_372 b_373 c_374 b_375 g_376 g_377 b_378 g_379 g_380 d_39 d_40 b_386 c_387 c_396 g_421 g_422 b_423 g_424; omega) | omega)), ⟨((by first | (clear hnf hE9 hN9 f_6 hp_4 c_372 b_373 c_374 b_375 g_376 g_377 b_378 g_379 g_380 d_39 d_40 b_386 c_387 c_396 g_421 g_422 b_423 g_424; omega) | omega)), ⟨((by first | (clear hnf hE9 hN9 f_6 hp_4 c_372 b_373 c_374 b_375 g_376 g_377 b_378 g_379 g_380 d_39 d_40 b_386 c_387 c_396 g_421 g_422 b_423 g_424; omega) | omega)), ((by first | (clear hnf hE9 hN9 f_6 hp_4 c_372 b_373 c_374 b_375 g_376 g_377 b_378 g_379 g_380 d_39 d_40 b_386 c_387 c_396 g_421 g_422 b_423 g_424; omega) | omega))⟩⟩⟩⟩⟩⟩⟩⟩⟩)⟩ | omega)), ⟨r_1, G_2, hX_5, (Or.inl ⟨c_372, ⟨c_374, ⟨G_382, hX_385, (Or.inl ⟨c_387, (Or.inr ⟨c_396, ⟨G_414, hX_417, (Or.inr ⟨c_419, rfl⟩)⟩⟩)⟩)⟩⟩⟩)⟩⟩), wd_t ht hW⟩, hS.F ht⟩) hS.2.2 dX12_readLine_232
          · have c_419 : (G_414.1 66 2).toInt = 0 := xI_eq rfl rfl c_419
            refine lv_aload_n hx hb dX12_readLine_228 rfl (lv_at hl 0 rfl) ?_
            have b_428 : 0 ≤ (G_382.1 66 4).toInt ∧ (G_382.1 66 4).toInt ≤ 1600 := bd_66_4 hB_G_382
            have g_429 : (G_414.1 66 4).toInt = (G_382.1 66 4).toInt := (congrArg Int32.toInt (show G_414.1 66 4 = (G_382.1 66 4) from (hq_415.i9 66 4 rfl rfl)))
            have g_430 : (G_414.1 66 6).toInt = (G_382.1 66 6).toInt := (congrArg Int32.toInt (show G_414.1 66 6 = (G_382.1 66 6) from ((hq_415.i9 66 6 rfl rfl).trans (rfl))))
            refine S_callv (va_runV (As := []) (rest := []) ⟨hx, hb, hml, hown, hts⟩ (n_token l D k A a z G_414  ) (cwV 0 hts (gd_V hgd m1602 m1604 m50 m131 m1605) rfl rfl rfl hd_X12_token ⟨Nat.le_of_ble_eq_true rfl, Nat.le_of_ble_eq_true rfl⟩) (pre_W hW hB_G_414 hK hZ hS kd_66 rfl) rfl rfl hl.1 rfl (lv_room (Nat.le_of_ble_eq_true rfl)) dX12_readLine_229 ⟨Nat.le_of_ble_eq_true rfl, Nat.le_of_ble_eq_true rfl⟩) hS (fun G_432 H locs hpo hW hS => ?_)
            have hX_435 : Q_token G_414 G_432 := hpo
            obtain ⟨hB_G_432, hq_433, ⟨d_43, d_44⟩, -⟩ := hpo
            have hF := hF.call9 hq_433 rfl rfl
            have fr_436 : Fr [68, 77, 78, 79, 80, 81] [(66, 2), (66, 3), (66, 4), (66, 6), (66, 7), (66, 8), (66, 9), (66, 45)] G G_432 := (Fr.call9 (rs := [68, 77, 78, 79, 80, 81]) (fs := [(66, 2), (66, 3), (66, 4), (66, 6), (66, 7), (66, 8), (66, 9), (66, 45)]) (Fr.call9 (rs := [68, 77, 78, 79, 80, 81]) (fs := [(66, 2), (66, 3), (66, 4), (66, 6), (66, 7), (66, 8), (66, 9), (66, 45)]) (Fr.call9 (rs := [68, 77, 78, 79, 80, 81]) (fs := [(66, 2), (66, 3), (66, 4), (66, 6), (66, 7), (66, 8), (66, 9), (66, 45)]) (Fr.call9 (rs := [68, 77, 78, 79, 80, 81]) (fs := [(66, 2), (66, 3), (66, 4), (66, 6), (66, 7), (66, 8), (66, 9), (66, 45)]) Fr.rf hq_3 rfl rfl) hq_383 rfl rfl) hq_415 rfl rfl) hq_433 rfl rfl)
            have g_437 : gE G_432 = gE G := gE_fr fr_436 (gr_q rfl) (gf_q rfl)
            have g_438 : gN G_432 = gN G := gN_fr fr_436 (gr_q rfl) (gf_q rfl)
            have g_439 : (G_432.1 66 2).toInt = (G_414.1 66 2).toInt := (congrArg Int32.toInt (show G_432.1 66 2 = (G_414.1 66 2) from ((hq_433.i9 66 2 rfl rfl).trans (rfl))))
            have b_440 : 0 ≤ (G_432.1 66 4).toInt ∧ (G_432.1 66 4).toInt ≤ 1600 := bd_66_4 hB_G_432
            have g_441 : (G_432.1 86 0).toInt = (G.1 86 0).toInt := (congrArg Int32.toInt (show G_432.1 86 0 = (G.1 86 0) from ((hq_433.i9 86 0 rfl rfl).trans ((hq_415.i9 86 0 rfl rfl).trans ((hq_383.i9 86 0 rfl rfl).trans (hq_3.i9 86 0 rfl rfl))))))
            have g_442 : (G_432.1 86 1).toInt = (G.1 86 1).toInt := (congrArg Int32.toInt (show G_432.1 86 1 = (G.1 86 1) from ((hq_433.i9 86 1 rfl rfl).trans ((hq_415.i9 86 1 rfl rfl).trans ((hq_383.i9 86 1 rfl rfl).trans (hq_3.i9 86 1 rfl rfl))))))
            have g_443 : (G_432.1 86 2).toInt = (G.1 86 2).toInt := (congrArg Int32.toInt (show G_432.1 86 2 = (G.1 86 2) from ((hq_433.i9 86 2 rfl rfl).trans ((hq_415.i9 86 2 rfl rfl).trans ((hq_383.i9 86 2 rfl rfl).trans (hq_3.i9 86 2 rfl rfl))))))
            exact W.vret hx hb hr (fun t ht _ => ⟨⟨G_432, rfl, (Q_readLine_mk ⟨hB_G_432, hF, ((by first | exact ⟨((by first | (clear hnf hE9 hN9 hS9 f_6 c_372 b_373 c_374 b_375 g_376 g_377 b_386 c_387 hp_416 b_418 c_419 g_437 g_438 g_439 g_441 g_442 g_443; omega) | omega)), (fun h9 => ⟨((by first | (clear hnf hE9 hN9 hS9 f_6 c_372 b_373 c_374 b_375 g_376 g_377 b_386 c_387 g_437 g_438 g_441 g_442 g_443; omega) | omega)), ⟨((by first | (clear hnf hN9 hS9 f_6 hp_4 c_372 b_373 c_374 b_375 g_376 g_377 b_378 g_379 g_380 d_39 d_40 b_386 c_387 c_396 b_428 g_429 g_430 d_43 d_44 g_438 b_440 g_441 g_442 g_443; omega) | omega)), ⟨((by first | (clear hnf hE9 hS9 f_6 hp_4 c_372 b_373 c_374 b_375 g_376 g_377 b_378 g_379 g_380 d_39 d_40 b_386 c_387 c_396 b_428 g_429 g_430 d_43 d_44 g_437 b_440 g_441 g_442 g_443; omega) | omega)), ⟨((by first | (clear hnf hE9 hN9 f_6 hp_4 c_372 b_373 c_374 b_375 g_376 g_377 b_378 g_379 g_380 d_39 d_40 b_386 c_387 c_396 b_428 g_429 g_430 d_43 d_44 g_437 g_438 b_440; omega) | omega)), ⟨((by first | (clear hnf hE9 hN9 f_6 hp_4 c_372 b_373 c_374 b_375 g_376 g_377 b_378 g_379 g_380 d_39 d_40 b_386 c_387 c_396 b_428 g_429 g_430 d_43 d_44 g_437 g_438 b_440; omega) | omega)), ⟨((by first | (clear hnf hE9 hN9 f_6 hp_4 c_372 b_373 c_374 b_375 g_376 g_377 b_378 g_379 g_380 d_39 d_40 b_386 c_387 c_396 b_428 g_429 g_430 d_43 d_44 g_437 g_438 b_440; omega) | omega)), ⟨((by first | (clear hnf hE9 hN9 f_6 hp_4 c_372 b_373 c_374 b_375 g_376 g_377 b_378 g_379 g_380 d_39 d_40 b_386 c_387 c_396 b_428 g_429 g_430 d_43 d_44 g_437 g_438 b_440; omega) | omega)), ⟨((by first | (clear hnf hE9 hN9 f_6 hp_4 c_372 b_373 c_374 b_375 g_376 g_377 b_378 g_379 g_380 d_39 d_40 b_386 c_387 c_396 b_428 g_429 g_430 d_43 d_44 g_437 g_438 b_440; omega) | omega)), ⟨((by first | (clear hnf hE9 hN9 f_6 hp_4 c_372 b_373 c_374 b_375 g_376 g_377 b_378 g_379 g_380 d_39 d_40 b_386 c_387 c_396 b_428 g_429 g_430 d_43 d_44 g_437 g_438 b_440; omega) | omega)), ((by first | (clear hnf hE9 hN9 f_6 hp_4 c_372 b_373 c_374 b_375 g_376 g_377 b_378 g_379 g_380 d_39 d_40 b_386 c_387 c_396 b_428 g_429 g_430 d_43 d_44 g_437 g_438 b_440; omega) | omega))⟩⟩⟩⟩⟩⟩⟩⟩⟩)⟩ | omega)), ⟨r_1, G_2, hX_5, (Or.inl ⟨c_372, ⟨c_374, ⟨G_382, hX_385, (Or.inl ⟨c_387, (Or.inr ⟨c_396, ⟨G_414, hX_417, (Or.inl ⟨c_419, ⟨G_432, hX_435, rfl⟩⟩)⟩⟩)⟩)⟩⟩⟩)⟩⟩), wd_t ht hW⟩, hS.F ht⟩) hS.2.2 dX12_readLine_232

theorem m52 : Cond.selects RX12 yX12_readLine yX12_readLine ∈ gd := gds_4 4 rfl
theorem m1619 : Cond.methodLink RX12 419 yX12_readLine ∈ gd := gdc_7_3 15 rfl gw_methodLink
theorem m1621 : Cond.instanceMethod yX12_readLine ∈ gd := gdc_7_4 1 rfl gw_instanceMethod
theorem m1622 : Cond.code yX12_readLine cX12_readLine 1 none ∈ gd := gdc_7_4 2 rfl gw_code
noncomputable def rbX12_readAll_0 : List (Nat × List Nat) := [(0, [42]), (1, [42]), (2, [180, 0, 178]), (5, [181, 0, 188]), (8, [42]), (9, [3]), (10, [181, 0, 178]), (13, [42]), (14, [3]), (15, [181, 0, 185]), (18, [42]), (19, [3]), (20, [181, 0, 218]), (23, [42]), (24, [2]), (25, [181, 0, 13]), (28, [42]), (29, [3]), (30, [181, 1, 103]), (33, [42]), (34, [3]), (35, [181, 1, 123]), (38, [42]), (39, [3])]
theorem rcX12_readAll_0 : dgo (lb cX12_readAll) 0 rbX12_readAll_0 = true := by decide +kernel
theorem dX12_readAll_0 : decode cX12_readAll 0 = .ok (.aload_n 0, 1) := dk_42 (dw rcX12_readAll_0 0 rfl)
theorem dX12_readAll_1 : decode cX12_readAll 1 = .ok (.aload_n 0, 1) := dk_42 (dw rcX12_readAll_0 1 rfl)
theorem dX12_readAll_2 : decode cX12_readAll 2 = .ok (.getfield 178, 3) := dk_180 (dw rcX12_readAll_0 2 rfl) rfl
theorem dX12_readAll_5 : decode cX12_readAll 5 = .ok (.putfield 188, 3) := dk_181 (dw rcX12_readAll_0 3 rfl) rfl
theorem dX12_readAll_8 : decode cX12_readAll 8 = .ok (.aload_n 0, 1) := dk_42 (dw rcX12_readAll_0 4 rfl)
theorem dX12_readAll_9 : decode cX12_readAll 9 = .ok (.iconst 0, 1) := dk_3 (dw rcX12_readAll_0 5 rfl)
theorem dX12_readAll_10 : decode cX12_readAll 10 = .ok (.putfield 178, 3) := dk_181 (dw rcX12_readAll_0 6 rfl) rfl
theorem dX12_readAll_13 : decode cX12_readAll 13 = .ok (.aload_n 0, 1) := dk_42 (dw rcX12_readAll_0 7 rfl)
theorem dX12_readAll_14 : decode cX12_readAll 14 = .ok (.iconst 0, 1) := dk_3 (dw rcX12_readAll_0 8 rfl)
theorem dX12_readAll_15 : decode cX12_readAll 15 = .ok (.putfield 185, 3) := dk_181 (dw rcX12_readAll_0 9 rfl) rfl
theorem dX12_readAll_18 : decode cX12_readAll 18 = .ok (.aload_n 0, 1) := dk_42 (dw rcX12_readAll_0 10 rfl)
theorem dX12_readAll_19 : decode cX12_readAll 19 = .ok (.iconst 0, 1) := dk_3 (dw rcX12_readAll_0 11 rfl)
theorem dX12_readAll_20 : decode cX12_readAll 20 = .ok (.putfield 218, 3) := dk_181 (dw rcX12_readAll_0 12 rfl) rfl
theorem dX12_readAll_23 : decode cX12_readAll 23 = .ok (.aload_n 0, 1) := dk_42 (dw rcX12_readAll_0 13 rfl)
theorem dX12_readAll_24 : decode cX12_readAll 24 = .ok (.iconst (-1), 1) := dk_2 (dw rcX12_readAll_0 14 rfl)
theorem dX12_readAll_25 : decode cX12_readAll 25 = .ok (.putfield 13, 3) := dk_181 (dw rcX12_readAll_0 15 rfl) rfl
theorem dX12_readAll_28 : decode cX12_readAll 28 = .ok (.aload_n 0, 1) := dk_42 (dw rcX12_readAll_0 16 rfl)
theorem dX12_readAll_29 : decode cX12_readAll 29 = .ok (.iconst 0, 1) := dk_3 (dw rcX12_readAll_0 17 rfl)
theorem dX12_readAll_30 : decode cX12_readAll 30 = .ok (.putfield 359, 3) := dk_181 (dw rcX12_readAll_0 18 rfl) rfl
theorem dX12_readAll_33 : decode cX12_readAll 33 = .ok (.aload_n 0, 1) := dk_42 (dw rcX12_readAll_0 19 rfl)
theorem dX12_readAll_34 : decode cX12_readAll 34 = .ok (.iconst 0, 1) := dk_3 (dw rcX12_readAll_0 20 rfl)
theorem dX12_readAll_35 : decode cX12_readAll 35 = .ok (.putfield 379, 3) := dk_181 (dw rcX12_readAll_0 21 rfl) rfl
theorem dX12_readAll_38 : decode cX12_readAll 38 = .ok (.aload_n 0, 1) := dk_42 (dw rcX12_readAll_0 22 rfl)
theorem dX12_readAll_39 : decode cX12_readAll 39 = .ok (.iconst 0, 1) := dk_3 (dw rcX12_readAll_0 23 rfl)
noncomputable def rbX12_readAll_40 : List (Nat × List Nat) := [(40, [181, 1, 129]), (43, [42]), (44, [180, 0, 72]), (47, [3]), (48, [3]), (49, [79]), (50, [42]), (51, [180, 0, 72]), (54, [4]), (55, [4]), (56, [79]), (57, [42]), (58, [180, 0, 72]), (61, [5]), (62, [3]), (63, [79]), (64, [42]), (65, [16, 30]), (67, [181, 1, 154]), (70, [42]), (71, [16, 10]), (73, [181, 1, 157]), (76, [42]), (77, [3])]
theorem rcX12_readAll_40 : dgo (lb cX12_readAll) 0 rbX12_readAll_40 = true := by decide +kernel
theorem dX12_readAll_40 : decode cX12_readAll 40 = .ok (.putfield 385, 3) := dk_181 (dw rcX12_readAll_40 0 rfl) rfl
theorem dX12_readAll_43 : decode cX12_readAll 43 = .ok (.aload_n 0, 1) := dk_42 (dw rcX12_readAll_40 1 rfl)
theorem dX12_readAll_44 : decode cX12_readAll 44 = .ok (.getfield 72, 3) := dk_180 (dw rcX12_readAll_40 2 rfl) rfl
theorem dX12_readAll_47 : decode cX12_readAll 47 = .ok (.iconst 0, 1) := dk_3 (dw rcX12_readAll_40 3 rfl)
theorem dX12_readAll_48 : decode cX12_readAll 48 = .ok (.iconst 0, 1) := dk_3 (dw rcX12_readAll_40 4 rfl)
theorem dX12_readAll_49 : decode cX12_readAll 49 = .ok (.iastore, 1) := dk_79 (dw rcX12_readAll_40 5 rfl)
theorem dX12_readAll_50 : decode cX12_readAll 50 = .ok (.aload_n 0, 1) := dk_42 (dw rcX12_readAll_40 6 rfl)
theorem dX12_readAll_51 : decode cX12_readAll 51 = .ok (.getfield 72, 3) := dk_180 (dw rcX12_readAll_40 7 rfl) rfl
theorem dX12_readAll_54 : decode cX12_readAll 54 = .ok (.iconst 1, 1) := dk_4 (dw rcX12_readAll_40 8 rfl)
theorem dX12_readAll_55 : decode cX12_readAll 55 = .ok (.iconst 1, 1) := dk_4 (dw rcX12_readAll_40 9 rfl)
theorem dX12_readAll_56 : decode cX12_readAll 56 = .ok (.iastore, 1) := dk_79 (dw rcX12_readAll_40 10 rfl)
theorem dX12_readAll_57 : decode cX12_readAll 57 = .ok (.aload_n 0, 1) := dk_42 (dw rcX12_readAll_40 11 rfl)
theorem dX12_readAll_58 : decode cX12_readAll 58 = .ok (.getfield 72, 3) := dk_180 (dw rcX12_readAll_40 12 rfl) rfl
theorem dX12_readAll_61 : decode cX12_readAll 61 = .ok (.iconst 2, 1) := dk_5 (dw rcX12_readAll_40 13 rfl)
theorem dX12_readAll_62 : decode cX12_readAll 62 = .ok (.iconst 0, 1) := dk_3 (dw rcX12_readAll_40 14 rfl)
theorem dX12_readAll_63 : decode cX12_readAll 63 = .ok (.iastore, 1) := dk_79 (dw rcX12_readAll_40 15 rfl)
theorem dX12_readAll_64 : decode cX12_readAll 64 = .ok (.aload_n 0, 1) := dk_42 (dw rcX12_readAll_40 16 rfl)
theorem dX12_readAll_65 : decode cX12_readAll 65 = .ok (.bipush 30, 2) := dk_16 (dw rcX12_readAll_40 17 rfl) rfl
theorem dX12_readAll_67 : decode cX12_readAll 67 = .ok (.putfield 410, 3) := dk_181 (dw rcX12_readAll_40 18 rfl) rfl
theorem dX12_readAll_70 : decode cX12_readAll 70 = .ok (.aload_n 0, 1) := dk_42 (dw rcX12_readAll_40 19 rfl)
theorem dX12_readAll_71 : decode cX12_readAll 71 = .ok (.bipush 10, 2) := dk_16 (dw rcX12_readAll_40 20 rfl) rfl
theorem dX12_readAll_73 : decode cX12_readAll 73 = .ok (.putfield 413, 3) := dk_181 (dw rcX12_readAll_40 21 rfl) rfl
theorem dX12_readAll_76 : decode cX12_readAll 76 = .ok (.aload_n 0, 1) := dk_42 (dw rcX12_readAll_40 22 rfl)
theorem dX12_readAll_77 : decode cX12_readAll 77 = .ok (.iconst 0, 1) := dk_3 (dw rcX12_readAll_40 23 rfl)
noncomputable def rbX12_readAll_78 : List (Nat × List Nat) := [(78, [181, 1, 160]), (81, [42]), (82, [3]), (83, [181, 1, 135]), (86, [42]), (87, [3]), (88, [181, 1, 56]), (91, [42]), (92, [182, 1, 23]), (95, [42]), (96, [180, 0, 218]), (99, [154, 0, 17]), (102, [42]), (103, [180, 0, 205]), (106, [153, 0, 10]), (109, [42]), (110, [182, 1, 163]), (113, [167, 255, 238]), (116, [177])]
theorem rcX12_readAll_78 : dgo (lb cX12_readAll) 0 rbX12_readAll_78 = true := by decide +kernel
theorem dX12_readAll_78 : decode cX12_readAll 78 = .ok (.putfield 416, 3) := dk_181 (dw rcX12_readAll_78 0 rfl) rfl
theorem dX12_readAll_81 : decode cX12_readAll 81 = .ok (.aload_n 0, 1) := dk_42 (dw rcX12_readAll_78 1 rfl)
theorem dX12_readAll_82 : decode cX12_readAll 82 = .ok (.iconst 0, 1) := dk_3 (dw rcX12_readAll_78 2 rfl)
theorem dX12_readAll_83 : decode cX12_readAll 83 = .ok (.putfield 391, 3) := dk_181 (dw rcX12_readAll_78 3 rfl) rfl
theorem dX12_readAll_86 : decode cX12_readAll 86 = .ok (.aload_n 0, 1) := dk_42 (dw rcX12_readAll_78 4 rfl)
theorem dX12_readAll_87 : decode cX12_readAll 87 = .ok (.iconst 0, 1) := dk_3 (dw rcX12_readAll_78 5 rfl)
theorem dX12_readAll_88 : decode cX12_readAll 88 = .ok (.putfield 312, 3) := dk_181 (dw rcX12_readAll_78 6 rfl) rfl
theorem dX12_readAll_91 : decode cX12_readAll 91 = .ok (.aload_n 0, 1) := dk_42 (dw rcX12_readAll_78 7 rfl)
theorem dX12_readAll_92 : decode cX12_readAll 92 = .ok (.invokevirtual 279, 3) := dk_182 (dw rcX12_readAll_78 8 rfl) rfl
theorem dX12_readAll_95 : decode cX12_readAll 95 = .ok (.aload_n 0, 1) := dk_42 (dw rcX12_readAll_78 9 rfl)
theorem dX12_readAll_96 : decode cX12_readAll 96 = .ok (.getfield 218, 3) := dk_180 (dw rcX12_readAll_78 10 rfl) rfl
theorem dX12_readAll_99 : decode cX12_readAll 99 = .ok (.ifCond .ne 17, 3) := dk_154 (dw rcX12_readAll_78 11 rfl) rfl
theorem dX12_readAll_102 : decode cX12_readAll 102 = .ok (.aload_n 0, 1) := dk_42 (dw rcX12_readAll_78 12 rfl)
theorem dX12_readAll_103 : decode cX12_readAll 103 = .ok (.getfield 205, 3) := dk_180 (dw rcX12_readAll_78 13 rfl) rfl
theorem dX12_readAll_106 : decode cX12_readAll 106 = .ok (.ifCond .eq 10, 3) := dk_153 (dw rcX12_readAll_78 14 rfl) rfl
theorem dX12_readAll_109 : decode cX12_readAll 109 = .ok (.aload_n 0, 1) := dk_42 (dw rcX12_readAll_78 15 rfl)
theorem dX12_readAll_110 : decode cX12_readAll 110 = .ok (.invokevirtual 419, 3) := dk_182 (dw rcX12_readAll_78 16 rfl) rfl
theorem dX12_readAll_113 : decode cX12_readAll 113 = .ok (.goto (-18), 3) := dk_167 (dw rcX12_readAll_78 17 rfl) rfl
theorem dX12_readAll_116 : decode cX12_readAll 116 = .ok (.return_, 1) := dk_177 (dw rcX12_readAll_78 18 rfl)
set_option maxHeartbeats 4000000 in
set_option maxRecDepth 100000 in
theorem n_readAll (l : Launch) (D : va_G) (k : KT) (A : Nat → Prop) (a : Nat → Nat) (z : SK) (G : GS)   : Met l yX12_readAll (WS yX12_readAll cX12_readAll 1 none) ({ frames := 7, cells := 0, slots := 0, locals := 149 }) (va_Pc [.ref (a 66)] (cW D k A a z G)) (va_Qv (fun (G1 : GS) => Q_readAll G G1) (fun (G1 : GS) t => Wd D k A a G1 t.heap) A) 0 0 A := by
  refine Met.ofW (cc := cX12_readAll) (maxL := 1) (ret := none) (by decide) rfl ?_
  intro p e s m args below meth c s₁ B hml hv
  obtain ⟨rfl, hW, hB_G, hK, hZ⟩ := hv
  have hx := B.exec
  have hb := B.bytes
  have hr := B.returns
  have hts := atoms_spec (ws := WS yX12_readAll cX12_readAll 1 none) B.pre
  have hgd : ∀ w ∈ gd, w ∈ WS yX12_readAll cX12_readAll 1 none := fun w h => List.mem_cons_of_mem _ h
  have hg : ∀ w ∈ gd, w.before _ s = true := fun w h => hts w (hgd w h)
  have hown : s.vm.findClass RX12 = some m.cls := findClass_of_methodNamed B.named
  have hS : va_S A s.heap s.heap [] := va_S.rf
  have hF : Fr [68, 69, 70, 71, 75, 77, 78, 79, 80, 81, 82, 83, 84, 85, 86] [(66, 1), (66, 2), (66, 3), (66, 4), (66, 5), (66, 6), (66, 7), (66, 8), (66, 9), (66, 19), (66, 20), (66, 21), (66, 23), (66, 24), (66, 45), (66, 46), (66, 47), (66, 48), (66, 49), (66, 50), (66, 51)] G G := Fr.rf
  have hl := lv_entry ([.ref (a 66)]) (n := 1) (Nat.le_of_ble_eq_true rfl)
  rw [lg_entry_eq]
  generalize (lg_sl ([.ref (a 66)]) ++ List.replicate (1 - (lg_sl ([.ref (a 66)])).length) Slot.unset).toArray = ls at hl ⊢
  have hl : lv_has ls 1 [(0, .ref (a 66))] := hl
  refine lv_aload_n hx hb dX12_readAll_0 rfl (lv_at hl 0 rfl) ?_
  refine lv_aload_n hx hb dX12_readAll_1 rfl (lv_at hl 0 rfl) ?_
  have b_1 : 0 ≤ (G.1 66 1).toInt ∧ (G.1 66 1).toInt ≤ 1600 := bd_66_1 hB_G
  refine S_getI (v := (G.1 66 1)) (C := RX12) (T := TX12) (N := 89) hx hb hg iX12 hown hK hW kd_66 rfl 1 (lt_b rfl) (hg (Cond.fieldLink RX12 178 "SlabWalkModel" "taped" "I") m1315) (fun _ h9 => h9) rfl rfl dX12_readAll_2 ?_
  refine S_putI (ty := .int) (C := RX12) (T := TX12) (N := 89) hx hb hg iX12 tyX12 tyX12_ok nmX12 hown hK hW hS kd_66 rfl 5 (lt_b rfl) (hg (Cond.fieldLink RX12 188 "SlabWalkModel" "size" "I") m1319) (fun _ h9 => h9) rfl (by decide +kernel) rfl rfl rfl dX12_readAll_5 (fun G_2 H locs eG_2 hW hS => ?_)
  have hB_G_2 : Bd G_2 := hB_G.put (V := (G.1 66 1).toInt) (lo := 0) (hi := 1600) eG_2 rfl rfl rfl (by omega) (by omega) (hB_G.2.put eG_2 rfl)
  have hF := hF.put eG_2 (Or.inr (by decide))
  refine lv_aload_n hx hb dX12_readAll_8 rfl (lv_at hl 0 rfl) ?_
  refine ic_0 hx hb dX12_readAll_9 ?_
  refine S_putI (ty := .int) (C := RX12) (T := TX12) (N := 89) hx hb hg iX12 tyX12 tyX12_ok nmX12 hown hK hW hS kd_66 rfl 1 (lt_b rfl) (hg (Cond.fieldLink RX12 178 "SlabWalkModel" "taped" "I") m1315) (fun _ h9 => h9) rfl (by decide +kernel) rfl rfl rfl dX12_readAll_10 (fun G_3 H locs eG_3 hW hS => ?_)
  have hB_G_3 : Bd G_3 := hB_G_2.put (V := 0) (lo := 0) (hi := 1600) eG_3 rfl rfl rfl (by decide) (by decide) (hB_G_2.2.put eG_3 rfl)
  have hF := hF.put eG_3 (Or.inr (by decide))
  refine lv_aload_n hx hb dX12_readAll_13 rfl (lv_at hl 0 rfl) ?_
  refine ic_0 hx hb dX12_readAll_14 ?_
  refine S_putI (ty := .int) (C := RX12) (T := TX12) (N := 89) hx hb hg iX12 tyX12 tyX12_ok nmX12 hown hK hW hS kd_66 rfl 4 (lt_b rfl) (hg (Cond.fieldLink RX12 185 "SlabWalkModel" "at" "I") m1318) (fun _ h9 => h9) rfl (by decide +kernel) rfl rfl rfl dX12_readAll_15 (fun G_4 H locs eG_4 hW hS => ?_)
  have hB_G_4 : Bd G_4 := hB_G_3.put (V := 0) (lo := 0) (hi := 1600) eG_4 rfl rfl rfl (by decide) (by decide) (hB_G_3.2.put eG_4 rfl)
  have hF := hF.put eG_4 (Or.inr (by decide))
  refine lv_aload_n hx hb dX12_readAll_18 rfl (lv_at hl 0 rfl) ?_
  refine ic_0 hx hb dX12_readAll_19 ?_
  refine S_putI (ty := .int) (C := RX12) (T := TX12) (N := 89) hx hb hg iX12 tyX12 tyX12_ok nmX12 hown hK hW hS kd_66 rfl 2 (lt_b rfl) (hg (Cond.fieldLink RX12 218 "SlabWalkModel" "fault" "I") m1316) (fun _ h9 => h9) rfl (by decide +kernel) rfl rfl rfl dX12_readAll_20 (fun G_5 H locs eG_5 hW hS => ?_)
  have hB_G_5 : Bd G_5 := hB_G_4.put (V := 0) (lo := 0) (hi := 4) eG_5 rfl rfl rfl (by decide) (by decide) (hB_G_4.2.put eG_5 rfl)
  have hF := hF.put eG_5 (Or.inr (by decide))
  refine lv_aload_n hx hb dX12_readAll_23 rfl (lv_at hl 0 rfl) ?_
  refine ic_m1 hx hb dX12_readAll_24 ?_
  refine S_putI (ty := .int) (C := RX12) (T := TX12) (N := 89) hx hb hg iX12 tyX12 tyX12_ok nmX12 hown hK hW hS kd_66 rfl 3 (lt_b rfl) (hg (Cond.fieldLink RX12 13 "SlabWalkModel" "faultPlace" "I") m1317) (fun _ h9 => h9) rfl (by decide +kernel) rfl rfl rfl dX12_readAll_25 (fun G_6 H locs eG_6 hW hS => ?_)
  have hB_G_6 : Bd G_6 := hB_G_5.put (V := (-1)) (lo := (-1)) (hi := 1600) eG_6 rfl rfl rfl (by decide) (by decide) (hB_G_5.2.put eG_6 rfl)
  have hF := hF.put eG_6 (Or.inr (by decide))
  refine lv_aload_n hx hb dX12_readAll_28 rfl (lv_at hl 0 rfl) ?_
  refine ic_0 hx hb dX12_readAll_29 ?_
  refine S_putI (ty := .int) (C := RX12) (T := TX12) (N := 89) hx hb hg iX12 tyX12 tyX12_ok nmX12 hown hK hW hS kd_66 rfl 45 (lt_b rfl) (hg (Cond.fieldLink RX12 359 "SlabWalkModel" "nStreets" "I") m1359) (fun _ h9 => h9) rfl (by decide +kernel) rfl rfl rfl dX12_readAll_30 (fun G_7 H locs eG_7 hW hS => ?_)
  have hB_G_7 : Bd G_7 := hB_G_6.put (V := 0) (lo := 0) (hi := 3) eG_7 rfl rfl rfl (by decide) (by decide) (hB_G_6.2.put eG_7 rfl)
  have hF := hF.put eG_7 (Or.inr (by decide))
  refine lv_aload_n hx hb dX12_readAll_33 rfl (lv_at hl 0 rfl) ?_
  refine ic_0 hx hb dX12_readAll_34 ?_
  refine S_putI (ty := .int) (C := RX12) (T := TX12) (N := 89) hx hb hg iX12 tyX12 tyX12_ok nmX12 hown hK hW hS kd_66 rfl 46 (lt_b rfl) (hg (Cond.fieldLink RX12 379 "SlabWalkModel" "nWalkers" "I") m1360) (fun _ h9 => h9) rfl (by decide +kernel) rfl rfl rfl dX12_readAll_35 (fun G_8 H locs eG_8 hW hS => ?_)
  have hB_G_8 : Bd G_8 := hB_G_7.put (V := 0) (lo := 0) (hi := 4) eG_8 rfl rfl rfl (by decide) (by decide) (hB_G_7.2.put eG_8 rfl)
  have hF := hF.put eG_8 (Or.inr (by decide))
  have u_9 := gN_0 (G := G_8) (gp_eq eG_8)
  refine lv_aload_n hx hb dX12_readAll_38 rfl (lv_at hl 0 rfl) ?_
  refine ic_0 hx hb dX12_readAll_39 ?_
  refine S_putI (ty := .int) (C := RX12) (T := TX12) (N := 89) hx hb hg iX12 tyX12 tyX12_ok nmX12 hown hK hW hS kd_66 rfl 47 (lt_b rfl) (hg (Cond.fieldLink RX12 385 "SlabWalkModel" "nRules" "I") m1361) (fun _ h9 => h9) rfl (by decide +kernel) rfl rfl rfl dX12_readAll_40 (fun G_10 H locs eG_10 hW hS => ?_)
  have hB_G_10 : Bd G_10 := hB_G_8.put (V := 0) (lo := 0) (hi := 6) eG_10 rfl rfl rfl (by decide) (by decide) (hB_G_8.2.put eG_10 rfl)
  have hF := hF.put eG_10 (Or.inr (by decide))
  have u_11 := gE_0 (G := G_10) (gp_eq eG_10)
  refine lv_aload_n hx hb dX12_readAll_43 rfl (lv_at hl 0 rfl) ?_
  refine S_getR (n := 86) (C := RX12) (T := TX12) (N := 89) hx hb hg iX12 hown hK hW kd_66 rfl 34 (lt_b rfl) (hg (Cond.fieldLink RX12 72 "SlabWalkModel" "nSlips" "[I") m1348) (fun _ h9 => h9) rfl dX12_readAll_44 ?_
  refine ic_0 hx hb dX12_readAll_47 ?_
  refine ic_0 hx hb dX12_readAll_48 ?_
  refine S_iast hx hb hK hW hS kd_86 (vin (by decide) (by decide)) dX12_readAll_49 (fun G_12 H locs eG_12 hW hS => ?_)
  have hB_G_12 : Bd G_12 := hB_G_10.put (lo := (-2147483648)) (hi := 2147483647) eG_12 rfl rfl rfl (tI_rng _).1 (tI_rng _).2 (hB_G_10.2.put eG_12 rfl)
  have hF := hF.put eG_12 (Or.inl (by decide))
  refine lv_aload_n hx hb dX12_readAll_50 rfl (lv_at hl 0 rfl) ?_
  refine S_getR (n := 86) (C := RX12) (T := TX12) (N := 89) hx hb hg iX12 hown hK hW kd_66 rfl 34 (lt_b rfl) (hg (Cond.fieldLink RX12 72 "SlabWalkModel" "nSlips" "[I") m1348) (fun _ h9 => h9) rfl dX12_readAll_51 ?_
  refine ic_1 hx hb dX12_readAll_54 ?_
  refine ic_1 hx hb dX12_readAll_55 ?_
  refine S_iast hx hb hK hW hS kd_86 (vin (by decide) (by decide)) dX12_readAll_56 (fun G_13 H locs eG_13 hW hS => ?_)
  have hB_G_13 : Bd G_13 := hB_G_12.put (lo := (-2147483648)) (hi := 2147483647) eG_13 rfl rfl rfl (tI_rng _).1 (tI_rng _).2 (hB_G_12.2.put eG_13 rfl)
  have hF := hF.put eG_13 (Or.inl (by decide))
  refine lv_aload_n hx hb dX12_readAll_57 rfl (lv_at hl 0 rfl) ?_
  refine S_getR (n := 86) (C := RX12) (T := TX12) (N := 89) hx hb hg iX12 hown hK hW kd_66 rfl 34 (lt_b rfl) (hg (Cond.fieldLink RX12 72 "SlabWalkModel" "nSlips" "[I") m1348) (fun _ h9 => h9) rfl dX12_readAll_58 ?_
  refine ic_2 hx hb dX12_readAll_61 ?_
  refine ic_0 hx hb dX12_readAll_62 ?_
  refine S_iast hx hb hK hW hS kd_86 (vin (by decide) (by decide)) dX12_readAll_63 (fun G_14 H locs eG_14 hW hS => ?_)
  have hB_G_14 : Bd G_14 := hB_G_13.put (lo := (-2147483648)) (hi := 2147483647) eG_14 rfl rfl rfl (tI_rng _).1 (tI_rng _).2 (hB_G_13.2.put eG_14 rfl)
  have hF := hF.put eG_14 (Or.inl (by decide))
  refine lv_aload_n hx hb dX12_readAll_64 rfl (lv_at hl 0 rfl) ?_
  refine lv_bipush (v := 30) hx hb dX12_readAll_65 (by decide) ?_
  refine S_putI (ty := .int) (C := RX12) (T := TX12) (N := 89) hx hb hg iX12 tyX12 tyX12_ok nmX12 hown hK hW hS kd_66 rfl 48 (lt_b rfl) (hg (Cond.fieldLink RX12 410 "SlabWalkModel" "nHand" "I") m1362) (fun _ h9 => h9) rfl (by decide +kernel) rfl rfl rfl dX12_readAll_67 (fun G_15 H locs eG_15 hW hS => ?_)
  have hB_G_15 : Bd G_15 := hB_G_14.put (lo := (-2147483648)) (hi := 2147483647) eG_15 rfl rfl rfl (tI_rng _).1 (tI_rng _).2 (hB_G_14.2.put eG_15 rfl)
  have hF := hF.put eG_15 (Or.inr (by decide))
  refine lv_aload_n hx hb dX12_readAll_70 rfl (lv_at hl 0 rfl) ?_
  refine lv_bipush (v := 10) hx hb dX12_readAll_71 (by decide) ?_
  refine S_putI (ty := .int) (C := RX12) (T := TX12) (N := 89) hx hb hg iX12 tyX12 tyX12_ok nmX12 hown hK hW hS kd_66 rfl 49 (lt_b rfl) (hg (Cond.fieldLink RX12 413 "SlabWalkModel" "nSlack" "I") m1363) (fun _ h9 => h9) rfl (by decide +kernel) rfl rfl rfl dX12_readAll_73 (fun G_16 H locs eG_16 hW hS => ?_)
  have hB_G_16 : Bd G_16 := hB_G_15.put (lo := (-2147483648)) (hi := 2147483647) eG_16 rfl rfl rfl (tI_rng _).1 (tI_rng _).2 (hB_G_15.2.put eG_16 rfl)
  have hF := hF.put eG_16 (Or.inr (by decide))
  refine lv_aload_n hx hb dX12_readAll_76 rfl (lv_at hl 0 rfl) ?_
  refine ic_0 hx hb dX12_readAll_77 ?_
  refine S_putI (ty := .int) (C := RX12) (T := TX12) (N := 89) hx hb hg iX12 tyX12 tyX12_ok nmX12 hown hK hW hS kd_66 rfl 50 (lt_b rfl) (hg (Cond.fieldLink RX12 416 "SlabWalkModel" "nDraw" "I") m1364) (fun _ h9 => h9) rfl (by decide +kernel) rfl rfl rfl dX12_readAll_78 (fun G_17 H locs eG_17 hW hS => ?_)
  have hB_G_17 : Bd G_17 := hB_G_16.put (lo := (-2147483648)) (hi := 2147483647) eG_17 rfl rfl rfl (tI_rng _).1 (tI_rng _).2 (hB_G_16.2.put eG_17 rfl)
  have hF := hF.put eG_17 (Or.inr (by decide))
  refine lv_aload_n hx hb dX12_readAll_81 rfl (lv_at hl 0 rfl) ?_
  refine ic_0 hx hb dX12_readAll_82 ?_
  refine S_putI (ty := .int) (C := RX12) (T := TX12) (N := 89) hx hb hg iX12 tyX12 tyX12_ok nmX12 hown hK hW hS kd_66 rfl 51 (lt_b rfl) (hg (Cond.fieldLink RX12 391 "SlabWalkModel" "nOnce" "I") m1365) (fun _ h9 => h9) rfl (by decide +kernel) rfl rfl rfl dX12_readAll_83 (fun G_18 H locs eG_18 hW hS => ?_)
  have hB_G_18 : Bd G_18 := hB_G_17.put (lo := (-2147483648)) (hi := 2147483647) eG_18 rfl rfl rfl (tI_rng _).1 (tI_rng _).2 (hB_G_17.2.put eG_18 rfl)
  have hF := hF.put eG_18 (Or.inr (by decide))
  refine lv_aload_n hx hb dX12_readAll_86 rfl (lv_at hl 0 rfl) ?_
  refine ic_0 hx hb dX12_readAll_87 ?_
  refine S_putI (ty := .int) (C := RX12) (T := TX12) (N := 89) hx hb hg iX12 tyX12 tyX12_ok nmX12 hown hK hW hS kd_66 rfl 21 (lt_b rfl) (hg (Cond.fieldLink RX12 312 "SlabWalkModel" "nUnits" "I") m1335) (fun _ h9 => h9) rfl (by decide +kernel) rfl rfl rfl dX12_readAll_88 (fun G_19 H locs eG_19 hW hS => ?_)
  have hB_G_19 : Bd G_19 := hB_G_18.put (lo := (-2147483648)) (hi := 2147483647) eG_19 rfl rfl rfl (tI_rng _).1 (tI_rng _).2 (hB_G_18.2.put eG_19 rfl)
  have hF := hF.put eG_19 (Or.inr (by decide))
  refine lv_aload_n hx hb dX12_readAll_91 rfl (lv_at hl 0 rfl) ?_
  have g_20 : (G_19.1 66 4).toInt = 0 := (congrArg Int32.toInt (show G_19.1 66 4 = 0 from ((gp_ne eG_19 (by decide)).trans ((gp_ne eG_18 (by decide)).trans ((gp_ne eG_17 (by decide)).trans ((gp_ne eG_16 (by decide)).trans ((gp_ne eG_15 (by decide)).trans ((gp_ne eG_14 (fun q => absurd q.1 (Nat.ne_of_beq_eq_false rfl))).trans ((gp_ne eG_13 (fun q => absurd q.1 (Nat.ne_of_beq_eq_false rfl))).trans ((gp_ne eG_12 (fun q => absurd q.1 (Nat.ne_of_beq_eq_false rfl))).trans ((gp_ne eG_10 (by decide)).trans ((gp_ne eG_8 (by decide)).trans ((gp_ne eG_7 (by decide)).trans ((gp_ne eG_6 (by decide)).trans ((gp_ne eG_5 (by decide)).trans (gp_eq eG_4)))))))))))))))).trans rfl
  have g_21 : (G_19.1 66 6).toInt = (G.1 66 6).toInt := (congrArg Int32.toInt (show G_19.1 66 6 = (G.1 66 6) from ((gp_ne eG_19 (by decide)).trans ((gp_ne eG_18 (by decide)).trans ((gp_ne eG_17 (by decide)).trans ((gp_ne eG_16 (by decide)).trans ((gp_ne eG_15 (by decide)).trans ((gp_ne eG_14 (fun q => absurd q.1 (Nat.ne_of_beq_eq_false rfl))).trans ((gp_ne eG_13 (fun q => absurd q.1 (Nat.ne_of_beq_eq_false rfl))).trans ((gp_ne eG_12 (fun q => absurd q.1 (Nat.ne_of_beq_eq_false rfl))).trans ((gp_ne eG_10 (by decide)).trans ((gp_ne eG_8 (by decide)).trans ((gp_ne eG_7 (by decide)).trans ((gp_ne eG_6 (by decide)).trans ((gp_ne eG_5 (by decide)).trans ((gp_ne eG_4 (by decide)).trans ((gp_ne eG_3 (by decide)).trans (gp_ne eG_2 (by decide)))))))))))))))))))
  refine S_callv (va_runV (As := []) (rest := []) ⟨hx, hb, hml, hown, hts⟩ (n_token l D k A a z G_19  ) (cwV 0 hts (gd_V hgd m1602 m1604 m50 m131 m1605) rfl rfl rfl hd_X12_token ⟨Nat.le_of_ble_eq_true rfl, Nat.le_of_ble_eq_true rfl⟩) (pre_W hW hB_G_19 hK hZ hS kd_66 rfl) rfl rfl hl.1 rfl (lv_room (Nat.le_of_ble_eq_true rfl)) dX12_readAll_92 ⟨Nat.le_of_ble_eq_true rfl, Nat.le_of_ble_eq_true rfl⟩) hS (fun G_23 H locs hpo hW hS => ?_)
  have hX_26 : Q_token G_19 G_23 := hpo
  obtain ⟨hB_G_23, hq_24, ⟨d_1, d_2⟩, -⟩ := hpo
  have hF := hF.call9 hq_24 rfl rfl
  have g_32 : (G_23.1 66 2).toInt = 0 := (congrArg Int32.toInt (show G_23.1 66 2 = 0 from ((hq_24.i9 66 2 rfl rfl).trans ((gp_ne eG_19 (by decide)).trans ((gp_ne eG_18 (by decide)).trans ((gp_ne eG_17 (by decide)).trans ((gp_ne eG_16 (by decide)).trans ((gp_ne eG_15 (by decide)).trans ((gp_ne eG_14 (fun q => absurd q.1 (Nat.ne_of_beq_eq_false rfl))).trans ((gp_ne eG_13 (fun q => absurd q.1 (Nat.ne_of_beq_eq_false rfl))).trans ((gp_ne eG_12 (fun q => absurd q.1 (Nat.ne_of_beq_eq_false rfl))).trans ((gp_ne eG_10 (by decide)).trans ((gp_ne eG_8 (by decide)).trans ((gp_ne eG_7 (by decide)).trans ((gp_ne eG_6 (by decide)).trans (gp_eq eG_5)))))))))))))))).trans rfl
  have b_33 : 0 ≤ (G_23.1 66 4).toInt ∧ (G_23.1 66 4).toInt ≤ 1600 := bd_66_4 hB_G_23
  have fr_34 : Fr [86] [(66, 4), (66, 6), (66, 7), (66, 8), (66, 9), (66, 21), (66, 48), (66, 49), (66, 50), (66, 51)] G_10 G_23 := (Fr.call9 (rs := [86]) (fs := [(66, 4), (66, 6), (66, 7), (66, 8), (66, 9), (66, 21), (66, 48), (66, 49), (66, 50), (66, 51)]) (Fr.put (rs := [86]) (fs := [(66, 4), (66, 6), (66, 7), (66, 8), (66, 9), (66, 21), (66, 48), (66, 49), (66, 50), (66, 51)]) (Fr.put (rs := [86]) (fs := [(66, 4), (66, 6), (66, 7), (66, 8), (66, 9), (66, 21), (66, 48), (66, 49), (66, 50), (66, 51)]) (Fr.put (rs := [86]) (fs := [(66, 4), (66, 6), (66, 7), (66, 8), (66, 9), (66, 21), (66, 48), (66, 49), (66, 50), (66, 51)]) (Fr.put (rs := [86]) (fs := [(66, 4), (66, 6), (66, 7), (66, 8), (66, 9), (66, 21), (66, 48), (66, 49), (66, 50), (66, 51)]) (Fr.put (rs := [86]) (fs := [(66, 4), (66, 6), (66, 7), (66, 8), (66, 9), (66, 21), (66, 48), (66, 49), (66, 50), (66, 51)]) (Fr.put (rs := [86]) (fs := [(66, 4), (66, 6), (66, 7), (66, 8), (66, 9), (66, 21), (66, 48), (66, 49), (66, 50), (66, 51)]) (Fr.put (rs := [86]) (fs := [(66, 4), (66, 6), (66, 7), (66, 8), (66, 9), (66, 21), (66, 48), (66, 49), (66, 50), (66, 51)]) (Fr.put (rs := [86]) (fs := [(66, 4), (66, 6), (66, 7), (66, 8), (66, 9), (66, 21), (66, 48), (66, 49), (66, 50), (66, 51)]) Fr.rf eG_12 (Or.inl (by decide))) eG_13 (Or.inl (by decide))) eG_14 (Or.inl (by decide))) eG_15 (Or.inr (by decide))) eG_16 (Or.inr (by decide))) eG_17 (Or.inr (by decide))) eG_18 (Or.inr (by decide))) eG_19 (Or.inr (by decide))) hq_24 rfl rfl)
  have g_35 : gE G_23 = gE G_10 := gE_fr fr_34 (gr_q rfl) (gf_q rfl)
  have fr_36 : Fr [86] [(66, 4), (66, 6), (66, 7), (66, 8), (66, 9), (66, 21), (66, 47), (66, 48), (66, 49), (66, 50), (66, 51)] G_8 G_23 := (Fr.call9 (rs := [86]) (fs := [(66, 4), (66, 6), (66, 7), (66, 8), (66, 9), (66, 21), (66, 47), (66, 48), (66, 49), (66, 50), (66, 51)]) (Fr.put (rs := [86]) (fs := [(66, 4), (66, 6), (66, 7), (66, 8), (66, 9), (66, 21), (66, 47), (66, 48), (66, 49), (66, 50), (66, 51)]) (Fr.put (rs := [86]) (fs := [(66, 4), (66, 6), (66, 7), (66, 8), (66, 9), (66, 21), (66, 47), (66, 48), (66, 49), (66, 50), (66, 51)]) (Fr.put (rs := [86]) (fs := [(66, 4), (66, 6), (66, 7), (66, 8), (66, 9), (66, 21), (66, 47), (66, 48), (66, 49), (66, 50), (66, 51)]) (Fr.put (rs := [86]) (fs := [(66, 4), (66, 6), (66, 7), (66, 8), (66, 9), (66, 21), (66, 47), (66, 48), (66, 49), (66, 50), (66, 51)]) (Fr.put (rs := [86]) (fs := [(66, 4), (66, 6), (66, 7), (66, 8), (66, 9), (66, 21), (66, 47), (66, 48), (66, 49), (66, 50), (66, 51)]) (Fr.put (rs := [86]) (fs := [(66, 4), (66, 6), (66, 7), (66, 8), (66, 9), (66, 21), (66, 47), (66, 48), (66, 49), (66, 50), (66, 51)]) (Fr.put (rs := [86]) (fs := [(66, 4), (66, 6), (66, 7), (66, 8), (66, 9), (66, 21), (66, 47), (66, 48), (66, 49), (66, 50), (66, 51)]) (Fr.put (rs := [86]) (fs := [(66, 4), (66, 6), (66, 7), (66, 8), (66, 9), (66, 21), (66, 47), (66, 48), (66, 49), (66, 50), (66, 51)]) (Fr.put (rs := [86]) (fs := [(66, 4), (66, 6), (66, 7), (66, 8), (66, 9), (66, 21), (66, 47), (66, 48), (66, 49), (66, 50), (66, 51)]) Fr.rf eG_10 (Or.inr (by decide))) eG_12 (Or.inl (by decide))) eG_13 (Or.inl (by decide))) eG_14 (Or.inl (by decide))) eG_15 (Or.inr (by decide))) eG_16 (Or.inr (by decide))) eG_17 (Or.inr (by decide))) eG_18 (Or.inr (by decide))) eG_19 (Or.inr (by decide))) hq_24 rfl rfl)
  have g_37 : gN G_23 = gN G_8 := gN_fr fr_36 (gr_q rfl) (gf_q rfl)
  have g_38 : (G_23.1 66 2).toInt = 0 := (congrArg Int32.toInt (show G_23.1 66 2 = 0 from ((hq_24.i9 66 2 rfl rfl).trans ((gp_ne eG_19 (by decide)).trans ((gp_ne eG_18 (by decide)).trans ((gp_ne eG_17 (by decide)).trans ((gp_ne eG_16 (by decide)).trans ((gp_ne eG_15 (by decide)).trans ((gp_ne eG_14 (fun q => absurd q.1 (Nat.ne_of_beq_eq_false rfl))).trans ((gp_ne eG_13 (fun q => absurd q.1 (Nat.ne_of_beq_eq_false rfl))).trans ((gp_ne eG_12 (fun q => absurd q.1 (Nat.ne_of_beq_eq_false rfl))).trans ((gp_ne eG_10 (by decide)).trans ((gp_ne eG_8 (by decide)).trans ((gp_ne eG_7 (by decide)).trans ((gp_ne eG_6 (by decide)).trans (gp_eq eG_5)))))))))))))))).trans rfl
  have g_39 : (G_23.1 86 0).toInt = 0 := (congrArg Int32.toInt (show G_23.1 86 0 = 0 from ((hq_24.i9 86 0 rfl rfl).trans ((gp_ne eG_19 (by decide)).trans ((gp_ne eG_18 (by decide)).trans ((gp_ne eG_17 (by decide)).trans ((gp_ne eG_16 (by decide)).trans ((gp_ne eG_15 (by decide)).trans ((gp_ne eG_14 (fun q => absurd q.2 (Nat.ne_of_beq_eq_false rfl))).trans ((gp_ne eG_13 (fun q => absurd q.2 (Nat.ne_of_beq_eq_false rfl))).trans (gp_eq eG_12))))))))))).trans rfl
  have g_40 : (G_23.1 86 1).toInt = 1 := (congrArg Int32.toInt (show G_23.1 86 1 = 1 from ((hq_24.i9 86 1 rfl rfl).trans ((gp_ne eG_19 (by decide)).trans ((gp_ne eG_18 (by decide)).trans ((gp_ne eG_17 (by decide)).trans ((gp_ne eG_16 (by decide)).trans ((gp_ne eG_15 (by decide)).trans ((gp_ne eG_14 (fun q => absurd q.2 (Nat.ne_of_beq_eq_false rfl))).trans (gp_eq eG_13)))))))))).trans rfl
  have g_41 : (G_23.1 86 2).toInt = 0 := (congrArg Int32.toInt (show G_23.1 86 2 = 0 from ((hq_24.i9 86 2 rfl rfl).trans ((gp_ne eG_19 (by decide)).trans ((gp_ne eG_18 (by decide)).trans ((gp_ne eG_17 (by decide)).trans ((gp_ne eG_16 (by decide)).trans ((gp_ne eG_15 (by decide)).trans (gp_eq eG_14))))))))).trans rfl
  refine loop_N (Inv := fun n H locs ls => ∃ (G_27 : GS), (n : Int) = 1604 - (G_27.1 66 4).toInt - (G_27.1 66 2).toInt ∧ ((G_27.1 66 2).toInt = 0 → gE G_27 = 1 ∧ gN G_27 = 1 ∧ 0 ≤ (G_27.1 86 0).toInt ∧ (G_27.1 86 0).toInt ≤ 9 ∧ 0 ≤ (G_27.1 86 1).toInt ∧ (G_27.1 86 1).toInt ≤ 9 ∧ 0 ≤ (G_27.1 86 2).toInt ∧ (G_27.1 86 2).toInt ≤ 9 ∧ 1 ≤ (G_27.1 86 0).toInt + (G_27.1 86 1).toInt + (G_27.1 86 2).toInt) ∧ Rc (St_n_readAll_1) G_23 G_27 ∧ Wd D k A a G_27 H ∧ Bd G_27 ∧ Fr [68, 69, 70, 71, 75, 77, 78, 79, 80, 81, 82, 83, 84, 85, 86] [(66, 1), (66, 2), (66, 3), (66, 4), (66, 5), (66, 6), (66, 7), (66, 8), (66, 9), (66, 19), (66, 20), (66, 21), (66, 23), (66, 24), (66, 45), (66, 46), (66, 47), (66, 48), (66, 49), (66, 50), (66, 51)] G G_27 ∧ Fr [68, 69, 70, 71, 75, 77, 78, 79, 80, 81, 82, 83, 84, 85, 86] [(66, 2), (66, 3), (66, 4), (66, 6), (66, 7), (66, 8), (66, 9), (66, 19), (66, 20), (66, 21), (66, 23), (66, 24), (66, 45), (66, 46), (66, 47), (66, 48), (66, 49), (66, 50), (66, 51)] G_23 G_27 ∧ va_S A s.heap H locs ∧ lv_has ls 1 [(0, .ref (a 66))]) (fun n_30 H locs ls ih_29 hI => ?_) (1604 - (G_23.1 66 4).toInt - (G_23.1 66 2).toInt : Int).toNat ⟨G_23, (Int.toNat_of_nonneg ((by first | (clear b_1 u_9 u_11 g_35 g_37 g_39 g_40 g_41; omega) | omega))), ((by first | exact (fun h9 => ⟨((by first | (clear b_1 u_9 u_11 g_20 g_21 d_1 d_2 b_33 g_37 g_39 g_40 g_41; omega) | omega)), ⟨((by first | (clear b_1 u_9 u_11 g_20 g_21 d_1 d_2 b_33 g_35 g_39 g_40 g_41; omega) | omega)), ⟨((by first | (clear b_1 u_9 u_11 g_20 g_21 d_1 d_2 b_33 g_35 g_37 g_40 g_41; omega) | omega)), ⟨((by first | (clear b_1 u_9 u_11 g_20 g_21 d_1 d_2 b_33 g_35 g_37 g_40 g_41; omega) | omega)), ⟨((by first | (clear b_1 u_9 u_11 g_20 g_21 d_1 d_2 b_33 g_35 g_37 g_39 g_41; omega) | omega)), ⟨((by first | (clear b_1 u_9 u_11 g_20 g_21 d_1 d_2 b_33 g_35 g_37 g_39 g_41; omega) | omega)), ⟨((by first | (clear b_1 u_9 u_11 g_20 g_21 d_1 d_2 b_33 g_35 g_37 g_39 g_40; omega) | omega)), ⟨((by first | (clear b_1 u_9 u_11 g_20 g_21 d_1 d_2 b_33 g_35 g_37 g_39 g_40; omega) | omega)), ((by first | (clear b_1 u_9 u_11 g_20 g_21 d_1 d_2 b_33 g_35 g_37; omega) | omega))⟩⟩⟩⟩⟩⟩⟩⟩) | omega)), Rc.rf, hW, hB_G_23, hF, Fr.rf, hS, lv_sub hl [0] rfl⟩
  obtain ⟨G_27, hn_43, f_42, hX_31, hW, hB_G_27, hF, hq_28, hS, hl⟩ := hI
  have b_44 : 0 ≤ (G_27.1 66 2).toInt ∧ (G_27.1 66 2).toInt ≤ 4 := bd_66_2 hB_G_27
  refine lv_aload_n hx hb dX12_readAll_95 rfl (lv_at hl 0 rfl) ?_
  refine S_getI (v := (G_27.1 66 2)) (C := RX12) (T := TX12) (N := 89) hx hb hg iX12 hown hK hW kd_66 rfl 2 (lt_b rfl) (hg (Cond.fieldLink RX12 218 "SlabWalkModel" "fault" "I") m1316) (fun _ h9 => h9) rfl rfl dX12_readAll_96 ?_
  refine lv_if_ne (tgt := 116) hx hb dX12_readAll_99 rfl (fun c_45 => ?_) (fun c_45 => ?_)
  · have c_45 : (G_27.1 66 2).toInt ≠ 0 := xI_ne rfl rfl c_45
    have g_46 : (G_27.1 66 1).toInt = 0 := (congrArg Int32.toInt (show G_27.1 66 1 = 0 from ((hq_28.i9 66 1 rfl rfl).trans ((hq_24.i9 66 1 rfl rfl).trans ((gp_ne eG_19 (by decide)).trans ((gp_ne eG_18 (by decide)).trans ((gp_ne eG_17 (by decide)).trans ((gp_ne eG_16 (by decide)).trans ((gp_ne eG_15 (by decide)).trans ((gp_ne eG_14 (fun q => absurd q.1 (Nat.ne_of_beq_eq_false rfl))).trans ((gp_ne eG_13 (fun q => absurd q.1 (Nat.ne_of_beq_eq_false rfl))).trans ((gp_ne eG_12 (fun q => absurd q.1 (Nat.ne_of_beq_eq_false rfl))).trans ((gp_ne eG_10 (by decide)).trans ((gp_ne eG_8 (by decide)).trans ((gp_ne eG_7 (by decide)).trans ((gp_ne eG_6 (by decide)).trans ((gp_ne eG_5 (by decide)).trans ((gp_ne eG_4 (by decide)).trans (gp_eq eG_3))))))))))))))))))).trans rfl
    exact W.vret hx hb hr (fun t ht _ => ⟨⟨G_27, rfl, (Q_readAll_mk ⟨hB_G_27, hF, ((by first | exact ⟨((by first | (clear b_1 u_9 u_11 g_20 g_21 d_1 d_2 g_32 b_33 g_35 g_37 g_38 g_39 g_40 g_41 hn_43 f_42 b_44 c_45; omega) | omega)), (fun h9 => ⟨((by first | (clear b_1 u_9 u_11 g_20 g_21 d_1 d_2 g_32 b_33 g_35 g_37 g_38 g_39 g_40 g_41 hn_43 f_42 g_46; omega) | omega)), ⟨((by first | (clear b_1 u_9 u_11 g_20 g_21 d_1 d_2 g_32 b_33 g_35 g_37 g_38 g_39 g_40 g_41 hn_43 f_42 g_46; omega) | omega)), ⟨((by first | (clear b_1 u_9 u_11 g_20 g_21 d_1 d_2 g_32 b_33 g_35 g_37 g_38 g_39 g_40 g_41 hn_43 f_42 g_46; omega) | omega)), ⟨((by first | (clear b_1 u_9 u_11 g_20 g_21 d_1 d_2 g_32 b_33 g_35 g_37 g_38 g_39 g_40 g_41 hn_43 f_42 g_46; omega) | omega)), ⟨((by first | (clear b_1 u_9 u_11 g_20 g_21 d_1 d_2 g_32 b_33 g_35 g_37 g_38 g_39 g_40 g_41 hn_43 f_42 g_46; omega) | omega)), ⟨((by first | (clear b_1 u_9 u_11 g_20 g_21 d_1 d_2 g_32 b_33 g_35 g_37 g_38 g_39 g_40 g_41 hn_43 f_42 g_46; omega) | omega)), ⟨((by first | (clear b_1 u_9 u_11 g_20 g_21 d_1 d_2 g_32 b_33 g_35 g_37 g_38 g_39 g_40 g_41 hn_43 f_42 g_46; omega) | omega)), ⟨((by first | (clear b_1 u_9 u_11 g_20 g_21 d_1 d_2 g_32 b_33 g_35 g_37 g_38 g_39 g_40 g_41 hn_43 f_42 g_46; omega) | omega)), ((by first | (clear b_1 u_9 u_11 g_20 g_21 d_1 d_2 g_32 b_33 g_35 g_37 g_38 g_39 g_40 g_41 hn_43 f_42 g_46; omega) | omega))⟩⟩⟩⟩⟩⟩⟩⟩)⟩ | omega)), ⟨G_19, hB_G_19, (Fr.put (rs := [86]) (fs := [(66, 1), (66, 2), (66, 3), (66, 4), (66, 5), (66, 21), (66, 45), (66, 46), (66, 47), (66, 48), (66, 49), (66, 50), (66, 51)]) (Fr.put (rs := [86]) (fs := [(66, 1), (66, 2), (66, 3), (66, 4), (66, 5), (66, 21), (66, 45), (66, 46), (66, 47), (66, 48), (66, 49), (66, 50), (66, 51)]) (Fr.put (rs := [86]) (fs := [(66, 1), (66, 2), (66, 3), (66, 4), (66, 5), (66, 21), (66, 45), (66, 46), (66, 47), (66, 48), (66, 49), (66, 50), (66, 51)]) (Fr.put (rs := [86]) (fs := [(66, 1), (66, 2), (66, 3), (66, 4), (66, 5), (66, 21), (66, 45), (66, 46), (66, 47), (66, 48), (66, 49), (66, 50), (66, 51)]) (Fr.put (rs := [86]) (fs := [(66, 1), (66, 2), (66, 3), (66, 4), (66, 5), (66, 21), (66, 45), (66, 46), (66, 47), (66, 48), (66, 49), (66, 50), (66, 51)]) (Fr.put (rs := [86]) (fs := [(66, 1), (66, 2), (66, 3), (66, 4), (66, 5), (66, 21), (66, 45), (66, 46), (66, 47), (66, 48), (66, 49), (66, 50), (66, 51)]) (Fr.put (rs := [86]) (fs := [(66, 1), (66, 2), (66, 3), (66, 4), (66, 5), (66, 21), (66, 45), (66, 46), (66, 47), (66, 48), (66, 49), (66, 50), (66, 51)]) (Fr.put (rs := [86]) (fs := [(66, 1), (66, 2), (66, 3), (66, 4), (66, 5), (66, 21), (66, 45), (66, 46), (66, 47), (66, 48), (66, 49), (66, 50), (66, 51)]) (Fr.put (rs := [86]) (fs := [(66, 1), (66, 2), (66, 3), (66, 4), (66, 5), (66, 21), (66, 45), (66, 46), (66, 47), (66, 48), (66, 49), (66, 50), (66, 51)]) (Fr.put (rs := [86]) (fs := [(66, 1), (66, 2), (66, 3), (66, 4), (66, 5), (66, 21), (66, 45), (66, 46), (66, 47), (66, 48), (66, 49), (66, 50), (66, 51)]) (Fr.put (rs := [86]) (fs := [(66, 1), (66, 2), (66, 3), (66, 4), (66, 5), (66, 21), (66, 45), (66, 46), (66, 47), (66, 48), (66, 49), (66, 50), (66, 51)]) (Fr.put (rs := [86]) (fs := [(66, 1), (66, 2), (66, 3), (66, 4), (66, 5), (66, 21), (66, 45), (66, 46), (66, 47), (66, 48), (66, 49), (66, 50), (66, 51)]) (Fr.put (rs := [86]) (fs := [(66, 1), (66, 2), (66, 3), (66, 4), (66, 5), (66, 21), (66, 45), (66, 46), (66, 47), (66, 48), (66, 49), (66, 50), (66, 51)]) (Fr.put (rs := [86]) (fs := [(66, 1), (66, 2), (66, 3), (66, 4), (66, 5), (66, 21), (66, 45), (66, 46), (66, 47), (66, 48), (66, 49), (66, 50), (66, 51)]) (Fr.put (rs := [86]) (fs := [(66, 1), (66, 2), (66, 3), (66, 4), (66, 5), (66, 21), (66, 45), (66, 46), (66, 47), (66, 48), (66, 49), (66, 50), (66, 51)]) (Fr.put (rs := [86]) (fs := [(66, 1), (66, 2), (66, 3), (66, 4), (66, 5), (66, 21), (66, 45), (66, 46), (66, 47), (66, 48), (66, 49), (66, 50), (66, 51)]) Fr.rf eG_2 (Or.inr (by decide))) eG_3 (Or.inr (by decide))) eG_4 (Or.inr (by decide))) eG_5 (Or.inr (by decide))) eG_6 (Or.inr (by decide))) eG_7 (Or.inr (by decide))) eG_8 (Or.inr (by decide))) eG_10 (Or.inr (by decide))) eG_12 (Or.inl (by decide))) eG_13 (Or.inl (by decide))) eG_14 (Or.inl (by decide))) eG_15 (Or.inr (by decide))) eG_16 (Or.inr (by decide))) eG_17 (Or.inr (by decide))) eG_18 (Or.inr (by decide))) eG_19 (Or.inr (by decide))), ((gp_ne eG_19 (by decide)).trans ((gp_ne eG_18 (by decide)).trans ((gp_ne eG_17 (by decide)).trans ((gp_ne eG_16 (by decide)).trans ((gp_ne eG_15 (by decide)).trans ((gp_ne eG_14 (fun q => absurd q.1 (Nat.ne_of_beq_eq_false rfl))).trans ((gp_ne eG_13 (fun q => absurd q.1 (Nat.ne_of_beq_eq_false rfl))).trans ((gp_ne eG_12 (fun q => absurd q.1 (Nat.ne_of_beq_eq_false rfl))).trans ((gp_ne eG_10 (by decide)).trans ((gp_ne eG_8 (by decide)).trans ((gp_ne eG_7 (by decide)).trans ((gp_ne eG_6 (by decide)).trans ((gp_ne eG_5 (by decide)).trans ((gp_ne eG_4 (by decide)).trans (gp_eq eG_3))))))))))))))), ((gp_ne eG_19 (by decide)).trans ((gp_ne eG_18 (by decide)).trans ((gp_ne eG_17 (by decide)).trans ((gp_ne eG_16 (by decide)).trans ((gp_ne eG_15 (by decide)).trans ((gp_ne eG_14 (fun q => absurd q.1 (Nat.ne_of_beq_eq_false rfl))).trans ((gp_ne eG_13 (fun q => absurd q.1 (Nat.ne_of_beq_eq_false rfl))).trans ((gp_ne eG_12 (fun q => absurd q.1 (Nat.ne_of_beq_eq_false rfl))).trans ((gp_ne eG_10 (by decide)).trans ((gp_ne eG_8 (by decide)).trans ((gp_ne eG_7 (by decide)).trans ((gp_ne eG_6 (by decide)).trans (gp_eq eG_5))))))))))))), ((gp_ne eG_19 (by decide)).trans ((gp_ne eG_18 (by decide)).trans ((gp_ne eG_17 (by decide)).trans ((gp_ne eG_16 (by decide)).trans ((gp_ne eG_15 (by decide)).trans ((gp_ne eG_14 (fun q => absurd q.1 (Nat.ne_of_beq_eq_false rfl))).trans ((gp_ne eG_13 (fun q => absurd q.1 (Nat.ne_of_beq_eq_false rfl))).trans ((gp_ne eG_12 (fun q => absurd q.1 (Nat.ne_of_beq_eq_false rfl))).trans ((gp_ne eG_10 (by decide)).trans ((gp_ne eG_8 (by decide)).trans ((gp_ne eG_7 (by decide)).trans (gp_eq eG_6)))))))))))), ((gp_ne eG_19 (by decide)).trans ((gp_ne eG_18 (by decide)).trans ((gp_ne eG_17 (by decide)).trans ((gp_ne eG_16 (by decide)).trans ((gp_ne eG_15 (by decide)).trans ((gp_ne eG_14 (fun q => absurd q.1 (Nat.ne_of_beq_eq_false rfl))).trans ((gp_ne eG_13 (fun q => absurd q.1 (Nat.ne_of_beq_eq_false rfl))).trans ((gp_ne eG_12 (fun q => absurd q.1 (Nat.ne_of_beq_eq_false rfl))).trans ((gp_ne eG_10 (by decide)).trans ((gp_ne eG_8 (by decide)).trans ((gp_ne eG_7 (by decide)).trans ((gp_ne eG_6 (by decide)).trans ((gp_ne eG_5 (by decide)).trans (gp_eq eG_4)))))))))))))), ((gp_ne eG_19 (by decide)).trans ((gp_ne eG_18 (by decide)).trans ((gp_ne eG_17 (by decide)).trans ((gp_ne eG_16 (by decide)).trans ((gp_ne eG_15 (by decide)).trans ((gp_ne eG_14 (fun q => absurd q.1 (Nat.ne_of_beq_eq_false rfl))).trans ((gp_ne eG_13 (fun q => absurd q.1 (Nat.ne_of_beq_eq_false rfl))).trans ((gp_ne eG_12 (fun q => absurd q.1 (Nat.ne_of_beq_eq_false rfl))).trans ((gp_ne eG_10 (by decide)).trans ((gp_ne eG_8 (by decide)).trans ((gp_ne eG_7 (by decide)).trans ((gp_ne eG_6 (by decide)).trans ((gp_ne eG_5 (by decide)).trans ((gp_ne eG_4 (by decide)).trans ((gp_ne eG_3 (by decide)).trans (gp_eq eG_2)))))))))))))))), (gp_eq eG_19), ((gp_ne eG_19 (by decide)).trans ((gp_ne eG_18 (by decide)).trans ((gp_ne eG_17 (by decide)).trans ((gp_ne eG_16 (by decide)).trans ((gp_ne eG_15 (by decide)).trans ((gp_ne eG_14 (fun q => absurd q.1 (Nat.ne_of_beq_eq_false rfl))).trans ((gp_ne eG_13 (fun q => absurd q.1 (Nat.ne_of_beq_eq_false rfl))).trans ((gp_ne eG_12 (fun q => absurd q.1 (Nat.ne_of_beq_eq_false rfl))).trans ((gp_ne eG_10 (by decide)).trans ((gp_ne eG_8 (by decide)).trans (gp_eq eG_7))))))))))), ((gp_ne eG_19 (by decide)).trans ((gp_ne eG_18 (by decide)).trans ((gp_ne eG_17 (by decide)).trans ((gp_ne eG_16 (by decide)).trans ((gp_ne eG_15 (by decide)).trans ((gp_ne eG_14 (fun q => absurd q.1 (Nat.ne_of_beq_eq_false rfl))).trans ((gp_ne eG_13 (fun q => absurd q.1 (Nat.ne_of_beq_eq_false rfl))).trans ((gp_ne eG_12 (fun q => absurd q.1 (Nat.ne_of_beq_eq_false rfl))).trans ((gp_ne eG_10 (by decide)).trans (gp_eq eG_8)))))))))), ((gp_ne eG_19 (by decide)).trans ((gp_ne eG_18 (by decide)).trans ((gp_ne eG_17 (by decide)).trans ((gp_ne eG_16 (by decide)).trans ((gp_ne eG_15 (by decide)).trans ((gp_ne eG_14 (fun q => absurd q.1 (Nat.ne_of_beq_eq_false rfl))).trans ((gp_ne eG_13 (fun q => absurd q.1 (Nat.ne_of_beq_eq_false rfl))).trans ((gp_ne eG_12 (fun q => absurd q.1 (Nat.ne_of_beq_eq_false rfl))).trans (gp_eq eG_10))))))))), ((gp_ne eG_19 (by decide)).trans ((gp_ne eG_18 (by decide)).trans ((gp_ne eG_17 (by decide)).trans ((gp_ne eG_16 (by decide)).trans (gp_eq eG_15))))), ((gp_ne eG_19 (by decide)).trans ((gp_ne eG_18 (by decide)).trans ((gp_ne eG_17 (by decide)).trans (gp_eq eG_16)))), ((gp_ne eG_19 (by decide)).trans ((gp_ne eG_18 (by decide)).trans (gp_eq eG_17))), ((gp_ne eG_19 (by decide)).trans (gp_eq eG_18)), (rw_put eG_19 (by decide)).trans ((rw_put eG_18 (by decide)).trans ((rw_put eG_17 (by decide)).trans ((rw_put eG_16 (by decide)).trans ((rw_put eG_15 (by decide)).trans ((rw_ast eG_14).trans (congrArg (fun q => upd q ((2 : Int32).toNatClampNeg) 0) ((rw_ast eG_13).trans (congrArg (fun q => upd q ((1 : Int32).toNatClampNeg) 1) ((rw_ast eG_12).trans (congrArg (fun q => upd q ((0 : Int32).toNatClampNeg) 0) ((rw_put eG_10 (by decide)).trans ((rw_put eG_8 (by decide)).trans ((rw_put eG_7 (by decide)).trans ((rw_put eG_6 (by decide)).trans ((rw_put eG_5 (by decide)).trans ((rw_put eG_4 (by decide)).trans ((rw_put eG_3 (by decide)).trans (rw_put eG_2 (by decide))))))))))))))))))), ⟨G_23, hX_26, ⟨G_27, hX_31, f_42, hB_G_27, hq_28, (Or.inr ⟨c_45, rfl⟩)⟩⟩⟩⟩), wd_t ht hW⟩, hS.F ht⟩) hS.2.2 dX12_readAll_116
  · have c_45 : (G_27.1 66 2).toInt = 0 := xI_eq rfl rfl c_45
    have d_3 := f_42 c_45
    refine lv_aload_n hx hb dX12_readAll_102 rfl (lv_at hl 0 rfl) ?_
    refine S_getI (v := (G_27.1 66 6)) (C := RX12) (T := TX12) (N := 89) hx hb hg iX12 hown hK hW kd_66 rfl 6 (lt_b rfl) (hg (Cond.fieldLink RX12 205 "SlabWalkModel" "sort" "I") m1320) (fun _ h9 => h9) rfl rfl dX12_readAll_103 ?_
    refine lv_if_eq (tgt := 116) hx hb dX12_readAll_106 rfl (fun c_47 => ?_) (fun c_47 => ?_)
    · have c_47 : (G_27.1 66 6).toInt = 0 := xI_eq rfl rfl c_47
      have g_48 : (G_27.1 66 1).toInt = 0 := (congrArg Int32.toInt (show G_27.1 66 1 = 0 from ((hq_28.i9 66 1 rfl rfl).trans ((hq_24.i9 66 1 rfl rfl).trans ((gp_ne eG_19 (by decide)).trans ((gp_ne eG_18 (by decide)).trans ((gp_ne eG_17 (by decide)).trans ((gp_ne eG_16 (by decide)).trans ((gp_ne eG_15 (by decide)).trans ((gp_ne eG_14 (fun q => absurd q.1 (Nat.ne_of_beq_eq_false rfl))).trans ((gp_ne eG_13 (fun q => absurd q.1 (Nat.ne_of_beq_eq_false rfl))).trans ((gp_ne eG_12 (fun q => absurd q.1 (Nat.ne_of_beq_eq_false rfl))).trans ((gp_ne eG_10 (by decide)).trans ((gp_ne eG_8 (by decide)).trans ((gp_ne eG_7 (by decide)).trans ((gp_ne eG_6 (by decide)).trans ((gp_ne eG_5 (by decide)).trans ((gp_ne eG_4 (by decide)).trans (gp_eq eG_3))))))))))))))))))).trans rfl
      exact W.vret hx hb hr (fun t ht _ => ⟨⟨G_27, rfl, (Q_readAll_mk ⟨hB_G_27, hF, ((by first | exact ⟨((by first | (clear b_1 u_9 u_11 g_20 g_21 d_1 d_2 g_32 b_33 g_35 g_37 g_38 g_39 g_40 g_41 hn_43 f_42 b_44 c_45 d_3 c_47; omega) | omega)), (fun h9 => ⟨((by first | (clear b_1 u_9 u_11 g_20 g_21 d_1 d_2 g_32 b_33 g_35 g_37 g_38 g_39 g_40 g_41 hn_43 f_42 c_47 g_48; omega) | omega)), ⟨((by first | (clear b_1 u_9 u_11 g_20 g_21 d_1 d_2 g_32 b_33 g_35 g_37 g_38 g_39 g_40 g_41 hn_43 f_42 c_47 g_48; omega) | omega)), ⟨((by first | (clear b_1 u_9 u_11 g_20 g_21 d_1 d_2 g_32 b_33 g_35 g_37 g_38 g_39 g_40 g_41 hn_43 f_42 c_47 g_48; omega) | omega)), ⟨((by first | (clear b_1 u_9 u_11 g_20 g_21 d_1 d_2 g_32 b_33 g_35 g_37 g_38 g_39 g_40 g_41 hn_43 f_42 c_47 g_48; omega) | omega)), ⟨((by first | (clear b_1 u_9 u_11 g_20 g_21 d_1 d_2 g_32 b_33 g_35 g_37 g_38 g_39 g_40 g_41 hn_43 f_42 c_47 g_48; omega) | omega)), ⟨((by first | (clear b_1 u_9 u_11 g_20 g_21 d_1 d_2 g_32 b_33 g_35 g_37 g_38 g_39 g_40 g_41 hn_43 f_42 c_47 g_48; omega) | omega)), ⟨((by first | (clear b_1 u_9 u_11 g_20 g_21 d_1 d_2 g_32 b_33 g_35 g_37 g_38 g_39 g_40 g_41 hn_43 f_42 c_47 g_48; omega) | omega)), ⟨((by first | (clear b_1 u_9 u_11 g_20 g_21 d_1 d_2 g_32 b_33 g_35 g_37 g_38 g_39 g_40 g_41 hn_43 f_42 c_47 g_48; omega) | omega)), ((by first | (clear b_1 u_9 u_11 g_20 g_21 d_1 d_2 g_32 b_33 g_35 g_37 g_38 g_39 g_40 g_41 hn_43 f_42 c_47 g_48; omega) | omega))⟩⟩⟩⟩⟩⟩⟩⟩)⟩ | omega)), ⟨G_19, hB_G_19, (Fr.put (rs := [86]) (fs := [(66, 1), (66, 2), (66, 3), (66, 4), (66, 5), (66, 21), (66, 45), (66, 46), (66, 47), (66, 48), (66, 49), (66, 50), (66, 51)]) (Fr.put (rs := [86]) (fs := [(66, 1), (66, 2), (66, 3), (66, 4), (66, 5), (66, 21), (66, 45), (66, 46), (66, 47), (66, 48), (66, 49), (66, 50), (66, 51)]) (Fr.put (rs := [86]) (fs := [(66, 1), (66, 2), (66, 3), (66, 4), (66, 5), (66, 21), (66, 45), (66, 46), (66, 47), (66, 48), (66, 49), (66, 50), (66, 51)]) (Fr.put (rs := [86]) (fs := [(66, 1), (66, 2), (66, 3), (66, 4), (66, 5), (66, 21), (66, 45), (66, 46), (66, 47), (66, 48), (66, 49), (66, 50), (66, 51)]) (Fr.put (rs := [86]) (fs := [(66, 1), (66, 2), (66, 3), (66, 4), (66, 5), (66, 21), (66, 45), (66, 46), (66, 47), (66, 48), (66, 49), (66, 50), (66, 51)]) (Fr.put (rs := [86]) (fs := [(66, 1), (66, 2), (66, 3), (66, 4), (66, 5), (66, 21), (66, 45), (66, 46), (66, 47), (66, 48), (66, 49), (66, 50), (66, 51)]) (Fr.put (rs := [86]) (fs := [(66, 1), (66, 2), (66, 3), (66, 4), (66, 5), (66, 21), (66, 45), (66, 46), (66, 47), (66, 48), (66, 49), (66, 50), (66, 51)]) (Fr.put (rs := [86]) (fs := [(66, 1), (66, 2), (66, 3), (66, 4), (66, 5), (66, 21), (66, 45), (66, 46), (66, 47), (66, 48), (66, 49), (66, 50), (66, 51)]) (Fr.put (rs := [86]) (fs := [(66, 1), (66, 2), (66, 3), (66, 4), (66, 5), (66, 21), (66, 45), (66, 46), (66, 47), (66, 48), (66, 49), (66, 50), (66, 51)]) (Fr.put (rs := [86]) (fs := [(66, 1), (66, 2), (66, 3), (66, 4), (66, 5), (66, 21), (66, 45), (66, 46), (66, 47), (66, 48), (66, 49), (66, 50), (66, 51)]) (Fr.put (rs := [86]) (fs := [(66, 1), (66, 2), (66, 3), (66, 4), (66, 5), (66, 21), (66, 45), (66, 46), (66, 47), (66, 48), (66, 49), (66, 50), (66, 51)]) (Fr.put (rs := [86]) (fs := [(66, 1), (66, 2), (66, 3), (66, 4), (66, 5), (66, 21), (66, 45), (66, 46), (66, 47), (66, 48), (66, 49), (66, 50), (66, 51)]) (Fr.put (rs := [86]) (fs := [(66, 1), (66, 2), (66, 3), (66, 4), (66, 5), (66, 21), (66, 45), (66, 46), (66, 47), (66, 48), (66, 49), (66, 50), (66, 51)]) (Fr.put (rs := [86]) (fs := [(66, 1), (66, 2), (66, 3), (66, 4), (66, 5), (66, 21), (66, 45), (66, 46), (66, 47), (66, 48), (66, 49), (66, 50), (66, 51)]) (Fr.put (rs := [86]) (fs := [(66, 1), (66, 2), (66, 3), (66, 4), (66, 5), (66, 21), (66, 45), (66, 46), (66, 47), (66, 48), (66, 49), (66, 50), (66, 51)]) (Fr.put (rs := [86]) (fs := [(66, 1), (66, 2), (66, 3), (66, 4), (66, 5), (66, 21), (66, 45), (66, 46), (66, 47), (66, 48), (66, 49), (66, 50), (66, 51)]) Fr.rf eG_2 (Or.inr (by decide))) eG_3 (Or.inr (by decide))) eG_4 (Or.inr (by decide))) eG_5 (Or.inr (by decide))) eG_6 (Or.inr (by decide))) eG_7 (Or.inr (by decide))) eG_8 (Or.inr (by decide))) eG_10 (Or.inr (by decide))) eG_12 (Or.inl (by decide))) eG_13 (Or.inl (by decide))) eG_14 (Or.inl (by decide))) eG_15 (Or.inr (by decide))) eG_16 (Or.inr (by decide))) eG_17 (Or.inr (by decide))) eG_18 (Or.inr (by decide))) eG_19 (Or.inr (by decide))), ((gp_ne eG_19 (by decide)).trans ((gp_ne eG_18 (by decide)).trans ((gp_ne eG_17 (by decide)).trans ((gp_ne eG_16 (by decide)).trans ((gp_ne eG_15 (by decide)).trans ((gp_ne eG_14 (fun q => absurd q.1 (Nat.ne_of_beq_eq_false rfl))).trans ((gp_ne eG_13 (fun q => absurd q.1 (Nat.ne_of_beq_eq_false rfl))).trans ((gp_ne eG_12 (fun q => absurd q.1 (Nat.ne_of_beq_eq_false rfl))).trans ((gp_ne eG_10 (by decide)).trans ((gp_ne eG_8 (by decide)).trans ((gp_ne eG_7 (by decide)).trans ((gp_ne eG_6 (by decide)).trans ((gp_ne eG_5 (by decide)).trans ((gp_ne eG_4 (by decide)).trans (gp_eq eG_3))))))))))))))), ((gp_ne eG_19 (by decide)).trans ((gp_ne eG_18 (by decide)).trans ((gp_ne eG_17 (by decide)).trans ((gp_ne eG_16 (by decide)).trans ((gp_ne eG_15 (by decide)).trans ((gp_ne eG_14 (fun q => absurd q.1 (Nat.ne_of_beq_eq_false rfl))).trans ((gp_ne eG_13 (fun q => absurd q.1 (Nat.ne_of_beq_eq_false rfl))).trans ((gp_ne eG_12 (fun q => absurd q.1 (Nat.ne_of_beq_eq_false rfl))).trans ((gp_ne eG_10 (by decide)).trans ((gp_ne eG_8 (by decide)).trans ((gp_ne eG_7 (by decide)).trans ((gp_ne eG_6 (by decide)).trans (gp_eq eG_5))))))))))))), ((gp_ne eG_19 (by decide)).trans ((gp_ne eG_18 (by decide)).trans ((gp_ne eG_17 (by decide)).trans ((gp_ne eG_16 (by decide)).trans ((gp_ne eG_15 (by decide)).trans ((gp_ne eG_14 (fun q => absurd q.1 (Nat.ne_of_beq_eq_false rfl))).trans ((gp_ne eG_13 (fun q => absurd q.1 (Nat.ne_of_beq_eq_false rfl))).trans ((gp_ne eG_12 (fun q => absurd q.1 (Nat.ne_of_beq_eq_false rfl))).trans ((gp_ne eG_10 (by decide)).trans ((gp_ne eG_8 (by decide)).trans ((gp_ne eG_7 (by decide)).trans (gp_eq eG_6)))))))))))), ((gp_ne eG_19 (by decide)).trans ((gp_ne eG_18 (by decide)).trans ((gp_ne eG_17 (by decide)).trans ((gp_ne eG_16 (by decide)).trans ((gp_ne eG_15 (by decide)).trans ((gp_ne eG_14 (fun q => absurd q.1 (Nat.ne_of_beq_eq_false rfl))).trans ((gp_ne eG_13 (fun q => absurd q.1 (Nat.ne_of_beq_eq_false rfl))).trans ((gp_ne eG_12 (fun q => absurd q.1 (Nat.ne_of_beq_eq_false rfl))).trans ((gp_ne eG_10 (by decide)).trans ((gp_ne eG_8 (by decide)).trans ((gp_ne eG_7 (by decide)).trans ((gp_ne eG_6 (by decide)).trans ((gp_ne eG_5 (by decide)).trans (gp_eq eG_4)))))))))))))), ((gp_ne eG_19 (by decide)).trans ((gp_ne eG_18 (by decide)).trans ((gp_ne eG_17 (by decide)).trans ((gp_ne eG_16 (by decide)).trans ((gp_ne eG_15 (by decide)).trans ((gp_ne eG_14 (fun q => absurd q.1 (Nat.ne_of_beq_eq_false rfl))).trans ((gp_ne eG_13 (fun q => absurd q.1 (Nat.ne_of_beq_eq_false rfl))).trans ((gp_ne eG_12 (fun q => absurd q.1 (Nat.ne_of_beq_eq_false rfl))).trans ((gp_ne eG_10 (by decide)).trans ((gp_ne eG_8 (by decide)).trans ((gp_ne eG_7 (by decide)).trans ((gp_ne eG_6 (by decide)).trans ((gp_ne eG_5 (by decide)).trans ((gp_ne eG_4 (by decide)).trans ((gp_ne eG_3 (by decide)).trans (gp_eq eG_2)))))))))))))))), (gp_eq eG_19), ((gp_ne eG_19 (by decide)).trans ((gp_ne eG_18 (by decide)).trans ((gp_ne eG_17 (by decide)).trans ((gp_ne eG_16 (by decide)).trans ((gp_ne eG_15 (by decide)).trans ((gp_ne eG_14 (fun q => absurd q.1 (Nat.ne_of_beq_eq_false rfl))).trans ((gp_ne eG_13 (fun q => absurd q.1 (Nat.ne_of_beq_eq_false rfl))).trans ((gp_ne eG_12 (fun q => absurd q.1 (Nat.ne_of_beq_eq_false rfl))).trans ((gp_ne eG_10 (by decide)).trans ((gp_ne eG_8 (by decide)).trans (gp_eq eG_7))))))))))), ((gp_ne eG_19 (by decide)).trans ((gp_ne eG_18 (by decide)).trans ((gp_ne eG_17 (by decide)).trans ((gp_ne eG_16 (by decide)).trans ((gp_ne eG_15 (by decide)).trans ((gp_ne eG_14 (fun q => absurd q.1 (Nat.ne_of_beq_eq_false rfl))).trans ((gp_ne eG_13 (fun q => absurd q.1 (Nat.ne_of_beq_eq_false rfl))).trans ((gp_ne eG_12 (fun q => absurd q.1 (Nat.ne_of_beq_eq_false rfl))).trans ((gp_ne eG_10 (by decide)).trans (gp_eq eG_8)))))))))), ((gp_ne eG_19 (by decide)).trans ((gp_ne eG_18 (by decide)).trans ((gp_ne eG_17 (by decide)).trans ((gp_ne eG_16 (by decide)).trans ((gp_ne eG_15 (by decide)).trans ((gp_ne eG_14 (fun q => absurd q.1 (Nat.ne_of_beq_eq_false rfl))).trans ((gp_ne eG_13 (fun q => absurd q.1 (Nat.ne_of_beq_eq_false rfl))).trans ((gp_ne eG_12 (fun q => absurd q.1 (Nat.ne_of_beq_eq_false rfl))).trans (gp_eq eG_10))))))))), ((gp_ne eG_19 (by decide)).trans ((gp_ne eG_18 (by decide)).trans ((gp_ne eG_17 (by decide)).trans ((gp_ne eG_16 (by decide)).trans (gp_eq eG_15))))), ((gp_ne eG_19 (by decide)).trans ((gp_ne eG_18 (by decide)).trans ((gp_ne eG_17 (by decide)).trans (gp_eq eG_16)))), ((gp_ne eG_19 (by decide)).trans ((gp_ne eG_18 (by decide)).trans (gp_eq eG_17))), ((gp_ne eG_19 (by decide)).trans (gp_eq eG_18)), (rw_put eG_19 (by decide)).trans ((rw_put eG_18 (by decide)).trans ((rw_put eG_17 (by decide)).trans ((rw_put eG_16 (by decide)).trans ((rw_put eG_15 (by decide)).trans ((rw_ast eG_14).trans (congrArg (fun q => upd q ((2 : Int32).toNatClampNeg) 0) ((rw_ast eG_13).trans (congrArg (fun q => upd q ((1 : Int32).toNatClampNeg) 1) ((rw_ast eG_12).trans (congrArg (fun q => upd q ((0 : Int32).toNatClampNeg) 0) ((rw_put eG_10 (by decide)).trans ((rw_put eG_8 (by decide)).trans ((rw_put eG_7 (by decide)).trans ((rw_put eG_6 (by decide)).trans ((rw_put eG_5 (by decide)).trans ((rw_put eG_4 (by decide)).trans ((rw_put eG_3 (by decide)).trans (rw_put eG_2 (by decide))))))))))))))))))), ⟨G_23, hX_26, ⟨G_27, hX_31, f_42, hB_G_27, hq_28, (Or.inl ⟨c_45, ⟨c_47, rfl⟩⟩)⟩⟩⟩⟩), wd_t ht hW⟩, hS.F ht⟩) hS.2.2 dX12_readAll_116
    · have c_47 : (G_27.1 66 6).toInt ≠ 0 := xI_ne rfl rfl c_47
      refine lv_aload_n hx hb dX12_readAll_109 rfl (lv_at hl 0 rfl) ?_
      have b_49 : 0 ≤ (G_27.1 66 4).toInt ∧ (G_27.1 66 4).toInt ≤ 1600 := bd_66_4 hB_G_27
      refine S_callv (va_runV (As := []) (rest := []) ⟨hx, hb, hml, hown, hts⟩ (n_readLine l D k A a z G_27  ((by first | (clear b_1 u_9 u_11 g_20 g_21 d_1 d_2 g_32 b_33 g_35 g_37 g_38 g_39 g_40 g_41 hn_43 f_42 c_47 b_49; omega) | omega)) ((by first | (clear b_1 u_9 u_11 g_20 g_21 d_1 d_2 g_32 b_33 g_35 g_37 g_38 g_39 g_40 g_41 hn_43 f_42 c_47 b_49; omega) | omega)) ((by first | (clear b_1 u_9 u_11 g_20 g_21 d_1 d_2 g_32 b_33 g_35 g_37 g_38 g_39 g_40 g_41 hn_43 f_42 c_47 b_49; omega) | omega)) ((by first | exact ⟨((by first | (clear b_1 u_9 u_11 g_20 g_21 d_1 d_2 g_32 b_33 g_35 g_37 g_38 g_39 g_40 g_41 hn_43 f_42 c_47 b_49; omega) | omega)), ⟨((by first | (clear b_1 u_9 u_11 g_20 g_21 d_1 d_2 g_32 b_33 g_35 g_37 g_38 g_39 g_40 g_41 hn_43 f_42 c_47 b_49; omega) | omega)), ⟨((by first | (clear b_1 u_9 u_11 g_20 g_21 d_1 d_2 g_32 b_33 g_35 g_37 g_38 g_39 g_40 g_41 hn_43 f_42 c_47 b_49; omega) | omega)), ⟨((by first | (clear b_1 u_9 u_11 g_20 g_21 d_1 d_2 g_32 b_33 g_35 g_37 g_38 g_39 g_40 g_41 hn_43 f_42 c_47 b_49; omega) | omega)), ⟨((by first | (clear b_1 u_9 u_11 g_20 g_21 d_1 d_2 g_32 b_33 g_35 g_37 g_38 g_39 g_40 g_41 hn_43 f_42 c_47 b_49; omega) | omega)), ⟨((by first | (clear b_1 u_9 u_11 g_20 g_21 d_1 d_2 g_32 b_33 g_35 g_37 g_38 g_39 g_40 g_41 hn_43 f_42 c_47 b_49; omega) | omega)), ((by first | (clear b_1 u_9 u_11 g_20 g_21 d_1 d_2 g_32 b_33 g_35 g_37 g_38 g_39 g_40 g_41 hn_43 f_42 c_47 b_49; omega) | omega))⟩⟩⟩⟩⟩⟩ | omega))) (cwV 0 hts (gd_V hgd m1619 m1621 m52 m131 m1622) rfl rfl rfl hd_X12_readLine ⟨Nat.le_of_ble_eq_true rfl, Nat.le_of_ble_eq_true rfl⟩) (pre_W hW hB_G_27 hK hZ hS kd_66 rfl) rfl rfl hl.1 rfl (lv_room (Nat.le_of_ble_eq_true rfl)) dX12_readAll_110 ⟨Nat.le_of_ble_eq_true rfl, Nat.le_of_ble_eq_true rfl⟩) hS (fun G_51 H locs hpo hW hS => ?_)
      have hX_54 : Q_readLine G_27 G_51 := hpo
      obtain ⟨hB_G_51, hq_52, ⟨d_4, d_5⟩, -⟩ := hpo
      have hF := hF.call9 hq_52 rfl rfl
      refine lv_goto (tgt := 95) hx hb dX12_readAll_113 rfl ?_
      have b_55 : 0 ≤ (G_51.1 66 2).toInt ∧ (G_51.1 66 2).toInt ≤ 4 := bd_66_2 hB_G_51
      have b_56 : 0 ≤ (G_51.1 66 4).toInt ∧ (G_51.1 66 4).toInt ≤ 1600 := bd_66_4 hB_G_51
      exact ih_29 (1604 - (G_51.1 66 4).toInt - (G_51.1 66 2).toInt : Int).toNat ((by first | (clear b_1 u_9 u_11 g_20 g_21 d_1 d_2 g_32 b_33 g_35 g_37 g_38 g_39 g_40 g_41 f_42 c_47; omega) | omega)) _ _ _ ⟨G_51, (Int.toNat_of_nonneg ((by first | (clear b_1 u_9 u_11 g_20 g_21 d_1 d_2 g_32 b_33 g_35 g_37 g_38 g_39 g_40 g_41 hn_43 f_42 b_44 c_45 d_3 c_47; omega) | omega))), ((by first | exact (fun h9 => ⟨((by first | (clear b_1 u_9 u_11 g_20 g_21 d_1 d_2 g_32 b_33 g_35 g_37 g_38 g_39 g_40 g_41 hn_43 f_42 b_44 c_45 d_3 c_47; omega) | omega)), ⟨((by first | (clear b_1 u_9 u_11 g_20 g_21 d_1 d_2 g_32 b_33 g_35 g_37 g_38 g_39 g_40 g_41 hn_43 f_42 b_44 c_45 d_3 c_47; omega) | omega)), ⟨((by first | (clear b_1 u_9 u_11 g_20 g_21 d_1 d_2 g_32 b_33 g_35 g_37 g_38 g_39 g_40 g_41 hn_43 f_42 b_44 c_45 d_3 c_47; omega) | omega)), ⟨((by first | (clear b_1 u_9 u_11 g_20 g_21 d_1 d_2 g_32 b_33 g_35 g_37 g_38 g_39 g_40 g_41 hn_43 f_42 b_44 c_45 d_3 c_47; omega) | omega)), ⟨((by first | (clear b_1 u_9 u_11 g_20 g_21 d_1 d_2 g_32 b_33 g_35 g_37 g_38 g_39 g_40 g_41 hn_43 f_42 b_44 c_45 d_3 c_47; omega) | omega)), ⟨((by first | (clear b_1 u_9 u_11 g_20 g_21 d_1 d_2 g_32 b_33 g_35 g_37 g_38 g_39 g_40 g_41 hn_43 f_42 b_44 c_45 d_3 c_47; omega) | omega)), ⟨((by first | (clear b_1 u_9 u_11 g_20 g_21 d_1 d_2 g_32 b_33 g_35 g_37 g_38 g_39 g_40 g_41 hn_43 f_42 b_44 c_45 d_3 c_47; omega) | omega)), ⟨((by first | (clear b_1 u_9 u_11 g_20 g_21 d_1 d_2 g_32 b_33 g_35 g_37 g_38 g_39 g_40 g_41 hn_43 f_42 b_44 c_45 d_3 c_47; omega) | omega)), ((by first | (clear b_1 u_9 u_11 g_20 g_21 d_1 d_2 g_32 b_33 g_35 g_37 g_38 g_39 g_40 g_41 hn_43 f_42 b_44 c_45 d_3 c_47; omega) | omega))⟩⟩⟩⟩⟩⟩⟩⟩) | omega)), (hX_31.st (St_n_readAll_1_mk ⟨G_27, G_51, rfl, rfl, f_42, hB_G_27, ⟨c_45, ⟨c_47, ⟨G_51, hX_54, rfl⟩⟩⟩⟩)), hW, hB_G_51, hF, (Fr.call9 (rs := [68, 69, 70, 71, 75, 77, 78, 79, 80, 81, 82, 83, 84, 85, 86]) (fs := [(66, 2), (66, 3), (66, 4), (66, 6), (66, 7), (66, 8), (66, 9), (66, 19), (66, 20), (66, 21), (66, 23), (66, 24), (66, 45), (66, 46), (66, 47), (66, 48), (66, 49), (66, 50), (66, 51)]) (Fr.call9 (rs := [68, 69, 70, 71, 75, 77, 78, 79, 80, 81, 82, 83, 84, 85, 86]) (fs := [(66, 2), (66, 3), (66, 4), (66, 6), (66, 7), (66, 8), (66, 9), (66, 19), (66, 20), (66, 21), (66, 23), (66, 24), (66, 45), (66, 46), (66, 47), (66, 48), (66, 49), (66, 50), (66, 51)]) Fr.rf hq_28 rfl rfl) hq_52 rfl rfl), hS, lv_sub hl [0] rfl⟩

theorem m88 : Cond.selects RX12 yX12_askOf yX12_askOf ∈ gd := gds_6 8 rfl
theorem m1328 : Cond.fieldLink RX12 30 "SlabWalkModel" "step" "[I" ∈ gd := gdc_6_0 12 rfl gw_fieldLink
theorem m1329 : Cond.fieldLink RX12 33 "SlabWalkModel" "arg" "[I" ∈ gd := gdc_6_0 13 rfl gw_fieldLink
theorem m1330 : Cond.fieldLink RX12 36 "SlabWalkModel" "many" "[I" ∈ gd := gdc_6_0 14 rfl gw_fieldLink
theorem m1332 : Cond.fieldLink RX12 42 "SlabWalkModel" "values" "[I" ∈ gd := gdc_6_1 0 rfl gw_fieldLink
theorem m1811 : Cond.methodLink RX12 352 yX12_askOf ∈ gd := gdc_8_0 15 rfl gw_methodLink
theorem m1813 : Cond.instanceMethod yX12_askOf ∈ gd := gdc_8_1 1 rfl gw_instanceMethod
theorem m1814 : Cond.code yX12_askOf cX12_askOf 3 (some .int) ∈ gd := gdc_8_1 2 rfl gw_code
theorem m1815 : Cond.methodLink RX12 355 yX12_done ∈ gd := gdc_8_1 3 rfl gw_methodLink
theorem m1816 : Cond.static yX12_done ∈ gd := gdc_8_1 4 rfl gw_static
theorem m1817 : Cond.code yX12_done cX12_done 3 (some .int) ∈ gd := gdc_8_1 5 rfl gw_code
theorem dX12_askOf_1 : decode cX12_askOf 1 = .ok (.tableswitch 112 0 7 #[47, 65, 65, 65, 65, 91, 98, 105], 47) := dq_of (by decide +kernel)
noncomputable def rbX12_askOf_0 : List (Nat × List Nat) := [(0, [28]), (48, [42]), (49, [180, 0, 75]), (52, [27]), (53, [46]), (54, [156, 0, 7]), (57, [4]), (58, [167, 0, 4]), (61, [3]), (62, [184, 1, 92]), (65, [172]), (66, [42]), (67, [180, 0, 75]), (70, [27]), (71, [46]), (72, [156, 0, 7]), (75, [3]), (76, [167, 0, 15]), (79, [42]), (80, [180, 0, 75]), (83, [27]), (84, [46]), (85, [28]), (86, [4])]
theorem rcX12_askOf_0 : dgo (lb cX12_askOf) 0 rbX12_askOf_0 = true := by decide +kernel
theorem dX12_askOf_0 : decode cX12_askOf 0 = .ok (.iload_n 2, 1) := dk_28 (dw rcX12_askOf_0 0 rfl)
theorem dX12_askOf_48 : decode cX12_askOf 48 = .ok (.aload_n 0, 1) := dk_42 (dw rcX12_askOf_0 1 rfl)
theorem dX12_askOf_49 : decode cX12_askOf 49 = .ok (.getfield 75, 3) := dk_180 (dw rcX12_askOf_0 2 rfl) rfl
theorem dX12_askOf_52 : decode cX12_askOf 52 = .ok (.iload_n 1, 1) := dk_27 (dw rcX12_askOf_0 3 rfl)
theorem dX12_askOf_53 : decode cX12_askOf 53 = .ok (.iaload, 1) := dk_46 (dw rcX12_askOf_0 4 rfl)
theorem dX12_askOf_54 : decode cX12_askOf 54 = .ok (.ifCond .ge 7, 3) := dk_156 (dw rcX12_askOf_0 5 rfl) rfl
theorem dX12_askOf_57 : decode cX12_askOf 57 = .ok (.iconst 1, 1) := dk_4 (dw rcX12_askOf_0 6 rfl)
theorem dX12_askOf_58 : decode cX12_askOf 58 = .ok (.goto 4, 3) := dk_167 (dw rcX12_askOf_0 7 rfl) rfl
theorem dX12_askOf_61 : decode cX12_askOf 61 = .ok (.iconst 0, 1) := dk_3 (dw rcX12_askOf_0 8 rfl)
theorem dX12_askOf_62 : decode cX12_askOf 62 = .ok (.invokestatic 348, 3) := dk_184 (dw rcX12_askOf_0 9 rfl) rfl
theorem dX12_askOf_65 : decode cX12_askOf 65 = .ok (.ireturn, 1) := dk_172 (dw rcX12_askOf_0 10 rfl)
theorem dX12_askOf_66 : decode cX12_askOf 66 = .ok (.aload_n 0, 1) := dk_42 (dw rcX12_askOf_0 11 rfl)
theorem dX12_askOf_67 : decode cX12_askOf 67 = .ok (.getfield 75, 3) := dk_180 (dw rcX12_askOf_0 12 rfl) rfl
theorem dX12_askOf_70 : decode cX12_askOf 70 = .ok (.iload_n 1, 1) := dk_27 (dw rcX12_askOf_0 13 rfl)
theorem dX12_askOf_71 : decode cX12_askOf 71 = .ok (.iaload, 1) := dk_46 (dw rcX12_askOf_0 14 rfl)
theorem dX12_askOf_72 : decode cX12_askOf 72 = .ok (.ifCond .ge 7, 3) := dk_156 (dw rcX12_askOf_0 15 rfl) rfl
theorem dX12_askOf_75 : decode cX12_askOf 75 = .ok (.iconst 0, 1) := dk_3 (dw rcX12_askOf_0 16 rfl)
theorem dX12_askOf_76 : decode cX12_askOf 76 = .ok (.goto 15, 3) := dk_167 (dw rcX12_askOf_0 17 rfl) rfl
theorem dX12_askOf_79 : decode cX12_askOf 79 = .ok (.aload_n 0, 1) := dk_42 (dw rcX12_askOf_0 18 rfl)
theorem dX12_askOf_80 : decode cX12_askOf 80 = .ok (.getfield 75, 3) := dk_180 (dw rcX12_askOf_0 19 rfl) rfl
theorem dX12_askOf_83 : decode cX12_askOf 83 = .ok (.iload_n 1, 1) := dk_27 (dw rcX12_askOf_0 20 rfl)
theorem dX12_askOf_84 : decode cX12_askOf 84 = .ok (.iaload, 1) := dk_46 (dw rcX12_askOf_0 21 rfl)
theorem dX12_askOf_85 : decode cX12_askOf 85 = .ok (.iload_n 2, 1) := dk_28 (dw rcX12_askOf_0 22 rfl)
theorem dX12_askOf_86 : decode cX12_askOf 86 = .ok (.iconst 1, 1) := dk_4 (dw rcX12_askOf_0 23 rfl)
noncomputable def rbX12_askOf_87 : List (Nat × List Nat) := [(87, [100]), (88, [122]), (89, [4]), (90, [126]), (91, [172]), (92, [42]), (93, [180, 0, 84]), (96, [27]), (97, [46]), (98, [172]), (99, [42]), (100, [180, 0, 78]), (103, [27]), (104, [46]), (105, [172]), (106, [42]), (107, [180, 0, 81]), (110, [27]), (111, [46]), (112, [172]), (113, [42]), (114, [180, 0, 151]), (117, [16, 6]), (119, [46])]
theorem rcX12_askOf_87 : dgo (lb cX12_askOf) 0 rbX12_askOf_87 = true := by decide +kernel
theorem dX12_askOf_87 : decode cX12_askOf 87 = .ok (.isub, 1) := dk_100 (dw rcX12_askOf_87 0 rfl)
theorem dX12_askOf_88 : decode cX12_askOf 88 = .ok (.ishr, 1) := dk_122 (dw rcX12_askOf_87 1 rfl)
theorem dX12_askOf_89 : decode cX12_askOf 89 = .ok (.iconst 1, 1) := dk_4 (dw rcX12_askOf_87 2 rfl)
theorem dX12_askOf_90 : decode cX12_askOf 90 = .ok (.iand, 1) := dk_126 (dw rcX12_askOf_87 3 rfl)
theorem dX12_askOf_91 : decode cX12_askOf 91 = .ok (.ireturn, 1) := dk_172 (dw rcX12_askOf_87 4 rfl)
theorem dX12_askOf_92 : decode cX12_askOf 92 = .ok (.aload_n 0, 1) := dk_42 (dw rcX12_askOf_87 5 rfl)
theorem dX12_askOf_93 : decode cX12_askOf 93 = .ok (.getfield 84, 3) := dk_180 (dw rcX12_askOf_87 6 rfl) rfl
theorem dX12_askOf_96 : decode cX12_askOf 96 = .ok (.iload_n 1, 1) := dk_27 (dw rcX12_askOf_87 7 rfl)
theorem dX12_askOf_97 : decode cX12_askOf 97 = .ok (.iaload, 1) := dk_46 (dw rcX12_askOf_87 8 rfl)
theorem dX12_askOf_98 : decode cX12_askOf 98 = .ok (.ireturn, 1) := dk_172 (dw rcX12_askOf_87 9 rfl)
theorem dX12_askOf_99 : decode cX12_askOf 99 = .ok (.aload_n 0, 1) := dk_42 (dw rcX12_askOf_87 10 rfl)
theorem dX12_askOf_100 : decode cX12_askOf 100 = .ok (.getfield 78, 3) := dk_180 (dw rcX12_askOf_87 11 rfl) rfl
theorem dX12_askOf_103 : decode cX12_askOf 103 = .ok (.iload_n 1, 1) := dk_27 (dw rcX12_askOf_87 12 rfl)
theorem dX12_askOf_104 : decode cX12_askOf 104 = .ok (.iaload, 1) := dk_46 (dw rcX12_askOf_87 13 rfl)
theorem dX12_askOf_105 : decode cX12_askOf 105 = .ok (.ireturn, 1) := dk_172 (dw rcX12_askOf_87 14 rfl)
theorem dX12_askOf_106 : decode cX12_askOf 106 = .ok (.aload_n 0, 1) := dk_42 (dw rcX12_askOf_87 15 rfl)
theorem dX12_askOf_107 : decode cX12_askOf 107 = .ok (.getfield 81, 3) := dk_180 (dw rcX12_askOf_87 16 rfl) rfl
theorem dX12_askOf_110 : decode cX12_askOf 110 = .ok (.iload_n 1, 1) := dk_27 (dw rcX12_askOf_87 17 rfl)
theorem dX12_askOf_111 : decode cX12_askOf 111 = .ok (.iaload, 1) := dk_46 (dw rcX12_askOf_87 18 rfl)
theorem dX12_askOf_112 : decode cX12_askOf 112 = .ok (.ireturn, 1) := dk_172 (dw rcX12_askOf_87 19 rfl)
theorem dX12_askOf_113 : decode cX12_askOf 113 = .ok (.aload_n 0, 1) := dk_42 (dw rcX12_askOf_87 20 rfl)
theorem dX12_askOf_114 : decode cX12_askOf 114 = .ok (.getfield 151, 3) := dk_180 (dw rcX12_askOf_87 21 rfl) rfl
theorem dX12_askOf_117 : decode cX12_askOf 117 = .ok (.bipush 6, 2) := dk_16 (dw rcX12_askOf_87 22 rfl) rfl
theorem dX12_askOf_119 : decode cX12_askOf 119 = .ok (.iaload, 1) := dk_46 (dw rcX12_askOf_87 23 rfl)
theorem dX12_askOf_120 : decode cX12_askOf 120 = .ok (.ireturn, 1) := dq_of (by decide +kernel)
noncomputable def rbX12_worked_0 : List (Nat × List Nat) := [(0, [3]), (1, [62]), (2, [17, 1, 64]), (5, [27]), (6, [104]), (7, [54, 4]), (9, [21, 4]), (11, [17, 1, 64]), (14, [27]), (15, [104]), (16, [42]), (17, [180, 0, 36]), (20, [27]), (21, [46]), (22, [96]), (23, [162, 0, 150]), (26, [42]), (27, [180, 0, 30]), (30, [21, 4]), (32, [46]), (33, [153, 0, 14]), (36, [42]), (37, [180, 0, 30]), (40, [21, 4])]
theorem rcX12_worked_0 : dgo (lb cX12_worked) 0 rbX12_worked_0 = true := by decide +kernel
theorem dX12_worked_0 : decode cX12_worked 0 = .ok (.iconst 0, 1) := dk_3 (dw rcX12_worked_0 0 rfl)
theorem dX12_worked_1 : decode cX12_worked 1 = .ok (.istore_n 3, 1) := dk_62 (dw rcX12_worked_0 1 rfl)
theorem dX12_worked_2 : decode cX12_worked 2 = .ok (.sipush 320, 3) := dk_17 (dw rcX12_worked_0 2 rfl) rfl
theorem dX12_worked_5 : decode cX12_worked 5 = .ok (.iload_n 1, 1) := dk_27 (dw rcX12_worked_0 3 rfl)
theorem dX12_worked_6 : decode cX12_worked 6 = .ok (.imul, 1) := dk_104 (dw rcX12_worked_0 4 rfl)
theorem dX12_worked_7 : decode cX12_worked 7 = .ok (.istore 4, 2) := dk_54 (dw rcX12_worked_0 5 rfl)
theorem dX12_worked_9 : decode cX12_worked 9 = .ok (.iload 4, 2) := dk_21 (dw rcX12_worked_0 6 rfl)
theorem dX12_worked_11 : decode cX12_worked 11 = .ok (.sipush 320, 3) := dk_17 (dw rcX12_worked_0 7 rfl) rfl
theorem dX12_worked_14 : decode cX12_worked 14 = .ok (.iload_n 1, 1) := dk_27 (dw rcX12_worked_0 8 rfl)
theorem dX12_worked_15 : decode cX12_worked 15 = .ok (.imul, 1) := dk_104 (dw rcX12_worked_0 9 rfl)
theorem dX12_worked_16 : decode cX12_worked 16 = .ok (.aload_n 0, 1) := dk_42 (dw rcX12_worked_0 10 rfl)
theorem dX12_worked_17 : decode cX12_worked 17 = .ok (.getfield 36, 3) := dk_180 (dw rcX12_worked_0 11 rfl) rfl
theorem dX12_worked_20 : decode cX12_worked 20 = .ok (.iload_n 1, 1) := dk_27 (dw rcX12_worked_0 12 rfl)
theorem dX12_worked_21 : decode cX12_worked 21 = .ok (.iaload, 1) := dk_46 (dw rcX12_worked_0 13 rfl)
theorem dX12_worked_22 : decode cX12_worked 22 = .ok (.iadd, 1) := dk_96 (dw rcX12_worked_0 14 rfl)
theorem dX12_worked_23 : decode cX12_worked 23 = .ok (.if_icmp .ge 150, 3) := dk_162 (dw rcX12_worked_0 15 rfl) rfl
theorem dX12_worked_26 : decode cX12_worked 26 = .ok (.aload_n 0, 1) := dk_42 (dw rcX12_worked_0 16 rfl)
theorem dX12_worked_27 : decode cX12_worked 27 = .ok (.getfield 30, 3) := dk_180 (dw rcX12_worked_0 17 rfl) rfl
theorem dX12_worked_30 : decode cX12_worked 30 = .ok (.iload 4, 2) := dk_21 (dw rcX12_worked_0 18 rfl)
theorem dX12_worked_32 : decode cX12_worked 32 = .ok (.iaload, 1) := dk_46 (dw rcX12_worked_0 19 rfl)
theorem dX12_worked_33 : decode cX12_worked 33 = .ok (.ifCond .eq 14, 3) := dk_153 (dw rcX12_worked_0 20 rfl) rfl
theorem dX12_worked_36 : decode cX12_worked 36 = .ok (.aload_n 0, 1) := dk_42 (dw rcX12_worked_0 21 rfl)
theorem dX12_worked_37 : decode cX12_worked 37 = .ok (.getfield 30, 3) := dk_180 (dw rcX12_worked_0 22 rfl) rfl
theorem dX12_worked_40 : decode cX12_worked 40 = .ok (.iload 4, 2) := dk_21 (dw rcX12_worked_0 23 rfl)
noncomputable def rbX12_worked_42 : List (Nat × List Nat) := [(42, [46]), (43, [4]), (44, [160, 0, 47]), (47, [42]), (48, [180, 0, 42]), (51, [29]), (52, [42]), (53, [180, 0, 30]), (56, [21, 4]), (58, [46]), (59, [154, 0, 13]), (62, [42]), (63, [180, 0, 33]), (66, [21, 4]), (68, [46]), (69, [167, 0, 15]), (72, [42]), (73, [28]), (74, [42]), (75, [180, 0, 33]), (78, [21, 4]), (80, [46]), (81, [182, 1, 96]), (84, [79])]
theorem rcX12_worked_42 : dgo (lb cX12_worked) 0 rbX12_worked_42 = true := by decide +kernel
theorem dX12_worked_42 : decode cX12_worked 42 = .ok (.iaload, 1) := dk_46 (dw rcX12_worked_42 0 rfl)
theorem dX12_worked_43 : decode cX12_worked 43 = .ok (.iconst 1, 1) := dk_4 (dw rcX12_worked_42 1 rfl)
theorem dX12_worked_44 : decode cX12_worked 44 = .ok (.if_icmp .ne 47, 3) := dk_160 (dw rcX12_worked_42 2 rfl) rfl
theorem dX12_worked_47 : decode cX12_worked 47 = .ok (.aload_n 0, 1) := dk_42 (dw rcX12_worked_42 3 rfl)
theorem dX12_worked_48 : decode cX12_worked 48 = .ok (.getfield 42, 3) := dk_180 (dw rcX12_worked_42 4 rfl) rfl
theorem dX12_worked_51 : decode cX12_worked 51 = .ok (.iload_n 3, 1) := dk_29 (dw rcX12_worked_42 5 rfl)
theorem dX12_worked_52 : decode cX12_worked 52 = .ok (.aload_n 0, 1) := dk_42 (dw rcX12_worked_42 6 rfl)
theorem dX12_worked_53 : decode cX12_worked 53 = .ok (.getfield 30, 3) := dk_180 (dw rcX12_worked_42 7 rfl) rfl
theorem dX12_worked_56 : decode cX12_worked 56 = .ok (.iload 4, 2) := dk_21 (dw rcX12_worked_42 8 rfl)
theorem dX12_worked_58 : decode cX12_worked 58 = .ok (.iaload, 1) := dk_46 (dw rcX12_worked_42 9 rfl)
theorem dX12_worked_59 : decode cX12_worked 59 = .ok (.ifCond .ne 13, 3) := dk_154 (dw rcX12_worked_42 10 rfl) rfl
theorem dX12_worked_62 : decode cX12_worked 62 = .ok (.aload_n 0, 1) := dk_42 (dw rcX12_worked_42 11 rfl)
theorem dX12_worked_63 : decode cX12_worked 63 = .ok (.getfield 33, 3) := dk_180 (dw rcX12_worked_42 12 rfl) rfl
theorem dX12_worked_66 : decode cX12_worked 66 = .ok (.iload 4, 2) := dk_21 (dw rcX12_worked_42 13 rfl)
theorem dX12_worked_68 : decode cX12_worked 68 = .ok (.iaload, 1) := dk_46 (dw rcX12_worked_42 14 rfl)
theorem dX12_worked_69 : decode cX12_worked 69 = .ok (.goto 15, 3) := dk_167 (dw rcX12_worked_42 15 rfl) rfl
theorem dX12_worked_72 : decode cX12_worked 72 = .ok (.aload_n 0, 1) := dk_42 (dw rcX12_worked_42 16 rfl)
theorem dX12_worked_73 : decode cX12_worked 73 = .ok (.iload_n 2, 1) := dk_28 (dw rcX12_worked_42 17 rfl)
theorem dX12_worked_74 : decode cX12_worked 74 = .ok (.aload_n 0, 1) := dk_42 (dw rcX12_worked_42 18 rfl)
theorem dX12_worked_75 : decode cX12_worked 75 = .ok (.getfield 33, 3) := dk_180 (dw rcX12_worked_42 19 rfl) rfl
theorem dX12_worked_78 : decode cX12_worked 78 = .ok (.iload 4, 2) := dk_21 (dw rcX12_worked_42 20 rfl)
theorem dX12_worked_80 : decode cX12_worked 80 = .ok (.iaload, 1) := dk_46 (dw rcX12_worked_42 21 rfl)
theorem dX12_worked_81 : decode cX12_worked 81 = .ok (.invokevirtual 352, 3) := dk_182 (dw rcX12_worked_42 22 rfl) rfl
theorem dX12_worked_84 : decode cX12_worked 84 = .ok (.iastore, 1) := dk_79 (dw rcX12_worked_42 23 rfl)
noncomputable def rbX12_worked_85 : List (Nat × List Nat) := [(85, [132, 3, 1]), (88, [167, 0, 79]), (91, [42]), (92, [180, 0, 30]), (95, [21, 4]), (97, [46]), (98, [5]), (99, [160, 0, 33]), (102, [42]), (103, [180, 0, 42]), (106, [29]), (107, [4]), (108, [100]), (109, [42]), (110, [180, 0, 42]), (113, [29]), (114, [4]), (115, [100]), (116, [46]), (117, [154, 0, 7]), (120, [4]), (121, [167, 0, 4]), (124, [3]), (125, [184, 1, 92])]
theorem rcX12_worked_85 : dgo (lb cX12_worked) 0 rbX12_worked_85 = true := by decide +kernel
theorem dX12_worked_85 : decode cX12_worked 85 = .ok (.iinc 3 1, 3) := dk_132 (dw rcX12_worked_85 0 rfl) rfl
theorem dX12_worked_88 : decode cX12_worked 88 = .ok (.goto 79, 3) := dk_167 (dw rcX12_worked_85 1 rfl) rfl
theorem dX12_worked_91 : decode cX12_worked 91 = .ok (.aload_n 0, 1) := dk_42 (dw rcX12_worked_85 2 rfl)
theorem dX12_worked_92 : decode cX12_worked 92 = .ok (.getfield 30, 3) := dk_180 (dw rcX12_worked_85 3 rfl) rfl
theorem dX12_worked_95 : decode cX12_worked 95 = .ok (.iload 4, 2) := dk_21 (dw rcX12_worked_85 4 rfl)
theorem dX12_worked_97 : decode cX12_worked 97 = .ok (.iaload, 1) := dk_46 (dw rcX12_worked_85 5 rfl)
theorem dX12_worked_98 : decode cX12_worked 98 = .ok (.iconst 2, 1) := dk_5 (dw rcX12_worked_85 6 rfl)
theorem dX12_worked_99 : decode cX12_worked 99 = .ok (.if_icmp .ne 33, 3) := dk_160 (dw rcX12_worked_85 7 rfl) rfl
theorem dX12_worked_102 : decode cX12_worked 102 = .ok (.aload_n 0, 1) := dk_42 (dw rcX12_worked_85 8 rfl)
theorem dX12_worked_103 : decode cX12_worked 103 = .ok (.getfield 42, 3) := dk_180 (dw rcX12_worked_85 9 rfl) rfl
theorem dX12_worked_106 : decode cX12_worked 106 = .ok (.iload_n 3, 1) := dk_29 (dw rcX12_worked_85 10 rfl)
theorem dX12_worked_107 : decode cX12_worked 107 = .ok (.iconst 1, 1) := dk_4 (dw rcX12_worked_85 11 rfl)
theorem dX12_worked_108 : decode cX12_worked 108 = .ok (.isub, 1) := dk_100 (dw rcX12_worked_85 12 rfl)
theorem dX12_worked_109 : decode cX12_worked 109 = .ok (.aload_n 0, 1) := dk_42 (dw rcX12_worked_85 13 rfl)
theorem dX12_worked_110 : decode cX12_worked 110 = .ok (.getfield 42, 3) := dk_180 (dw rcX12_worked_85 14 rfl) rfl
theorem dX12_worked_113 : decode cX12_worked 113 = .ok (.iload_n 3, 1) := dk_29 (dw rcX12_worked_85 15 rfl)
theorem dX12_worked_114 : decode cX12_worked 114 = .ok (.iconst 1, 1) := dk_4 (dw rcX12_worked_85 16 rfl)
theorem dX12_worked_115 : decode cX12_worked 115 = .ok (.isub, 1) := dk_100 (dw rcX12_worked_85 17 rfl)
theorem dX12_worked_116 : decode cX12_worked 116 = .ok (.iaload, 1) := dk_46 (dw rcX12_worked_85 18 rfl)
theorem dX12_worked_117 : decode cX12_worked 117 = .ok (.ifCond .ne 7, 3) := dk_154 (dw rcX12_worked_85 19 rfl) rfl
theorem dX12_worked_120 : decode cX12_worked 120 = .ok (.iconst 1, 1) := dk_4 (dw rcX12_worked_85 20 rfl)
theorem dX12_worked_121 : decode cX12_worked 121 = .ok (.goto 4, 3) := dk_167 (dw rcX12_worked_85 21 rfl) rfl
theorem dX12_worked_124 : decode cX12_worked 124 = .ok (.iconst 0, 1) := dk_3 (dw rcX12_worked_85 22 rfl)
theorem dX12_worked_125 : decode cX12_worked 125 = .ok (.invokestatic 348, 3) := dk_184 (dw rcX12_worked_85 23 rfl) rfl
noncomputable def rbX12_worked_128 : List (Nat × List Nat) := [(128, [79]), (129, [167, 0, 38]), (132, [132, 3, 255]), (135, [42]), (136, [180, 0, 42]), (139, [29]), (140, [4]), (141, [100]), (142, [42]), (143, [180, 0, 33]), (146, [21, 4]), (148, [46]), (149, [42]), (150, [180, 0, 42]), (153, [29]), (154, [4]), (155, [100]), (156, [46]), (157, [42]), (158, [180, 0, 42]), (161, [29]), (162, [46]), (163, [184, 1, 99]), (166, [79])]
theorem rcX12_worked_128 : dgo (lb cX12_worked) 0 rbX12_worked_128 = true := by decide +kernel
theorem dX12_worked_128 : decode cX12_worked 128 = .ok (.iastore, 1) := dk_79 (dw rcX12_worked_128 0 rfl)
theorem dX12_worked_129 : decode cX12_worked 129 = .ok (.goto 38, 3) := dk_167 (dw rcX12_worked_128 1 rfl) rfl
theorem dX12_worked_132 : decode cX12_worked 132 = .ok (.iinc 3 (-1), 3) := dk_132 (dw rcX12_worked_128 2 rfl) rfl
theorem dX12_worked_135 : decode cX12_worked 135 = .ok (.aload_n 0, 1) := dk_42 (dw rcX12_worked_128 3 rfl)
theorem dX12_worked_136 : decode cX12_worked 136 = .ok (.getfield 42, 3) := dk_180 (dw rcX12_worked_128 4 rfl) rfl
theorem dX12_worked_139 : decode cX12_worked 139 = .ok (.iload_n 3, 1) := dk_29 (dw rcX12_worked_128 5 rfl)
theorem dX12_worked_140 : decode cX12_worked 140 = .ok (.iconst 1, 1) := dk_4 (dw rcX12_worked_128 6 rfl)
theorem dX12_worked_141 : decode cX12_worked 141 = .ok (.isub, 1) := dk_100 (dw rcX12_worked_128 7 rfl)
theorem dX12_worked_142 : decode cX12_worked 142 = .ok (.aload_n 0, 1) := dk_42 (dw rcX12_worked_128 8 rfl)
theorem dX12_worked_143 : decode cX12_worked 143 = .ok (.getfield 33, 3) := dk_180 (dw rcX12_worked_128 9 rfl) rfl
theorem dX12_worked_146 : decode cX12_worked 146 = .ok (.iload 4, 2) := dk_21 (dw rcX12_worked_128 10 rfl)
theorem dX12_worked_148 : decode cX12_worked 148 = .ok (.iaload, 1) := dk_46 (dw rcX12_worked_128 11 rfl)
theorem dX12_worked_149 : decode cX12_worked 149 = .ok (.aload_n 0, 1) := dk_42 (dw rcX12_worked_128 12 rfl)
theorem dX12_worked_150 : decode cX12_worked 150 = .ok (.getfield 42, 3) := dk_180 (dw rcX12_worked_128 13 rfl) rfl
theorem dX12_worked_153 : decode cX12_worked 153 = .ok (.iload_n 3, 1) := dk_29 (dw rcX12_worked_128 14 rfl)
theorem dX12_worked_154 : decode cX12_worked 154 = .ok (.iconst 1, 1) := dk_4 (dw rcX12_worked_128 15 rfl)
theorem dX12_worked_155 : decode cX12_worked 155 = .ok (.isub, 1) := dk_100 (dw rcX12_worked_128 16 rfl)
theorem dX12_worked_156 : decode cX12_worked 156 = .ok (.iaload, 1) := dk_46 (dw rcX12_worked_128 17 rfl)
theorem dX12_worked_157 : decode cX12_worked 157 = .ok (.aload_n 0, 1) := dk_42 (dw rcX12_worked_128 18 rfl)
theorem dX12_worked_158 : decode cX12_worked 158 = .ok (.getfield 42, 3) := dk_180 (dw rcX12_worked_128 19 rfl) rfl
theorem dX12_worked_161 : decode cX12_worked 161 = .ok (.iload_n 3, 1) := dk_29 (dw rcX12_worked_128 20 rfl)
theorem dX12_worked_162 : decode cX12_worked 162 = .ok (.iaload, 1) := dk_46 (dw rcX12_worked_128 21 rfl)
theorem dX12_worked_163 : decode cX12_worked 163 = .ok (.invokestatic 355, 3) := dk_184 (dw rcX12_worked_128 22 rfl) rfl
theorem dX12_worked_166 : decode cX12_worked 166 = .ok (.iastore, 1) := dk_79 (dw rcX12_worked_128 23 rfl)
noncomputable def rbX12_worked_167 : List (Nat × List Nat) := [(167, [132, 4, 1]), (170, [167, 255, 95]), (173, [42]), (174, [180, 0, 42]), (177, [3]), (178, [46]), (179, [172])]
theorem rcX12_worked_167 : dgo (lb cX12_worked) 0 rbX12_worked_167 = true := by decide +kernel
theorem dX12_worked_167 : decode cX12_worked 167 = .ok (.iinc 4 1, 3) := dk_132 (dw rcX12_worked_167 0 rfl) rfl
theorem dX12_worked_170 : decode cX12_worked 170 = .ok (.goto (-161), 3) := dk_167 (dw rcX12_worked_167 1 rfl) rfl
theorem dX12_worked_173 : decode cX12_worked 173 = .ok (.aload_n 0, 1) := dk_42 (dw rcX12_worked_167 2 rfl)
theorem dX12_worked_174 : decode cX12_worked 174 = .ok (.getfield 42, 3) := dk_180 (dw rcX12_worked_167 3 rfl) rfl
theorem dX12_worked_177 : decode cX12_worked 177 = .ok (.iconst 0, 1) := dk_3 (dw rcX12_worked_167 4 rfl)
theorem dX12_worked_178 : decode cX12_worked 178 = .ok (.iaload, 1) := dk_46 (dw rcX12_worked_167 5 rfl)
theorem dX12_worked_179 : decode cX12_worked 179 = .ok (.ireturn, 1) := dk_172 (dw rcX12_worked_167 6 rfl)
set_option maxHeartbeats 4000000 in
set_option maxRecDepth 100000 in
theorem n_askOf (l : Launch) (D : va_G) (k : KT) (A : Nat → Prop) (a : Nat → Nat) (z : SK) (G : GS) (p0 : Int32) (p1 : Int32) (ha_p0 : 0 ≤ p0.toInt ∧ p0.toInt ≤ 1199) : Met l yX12_askOf (WS yX12_askOf cX12_askOf 3 (some .int)) ({ frames := 1, cells := 0, slots := 0, locals := 20 }) (va_Pc [.ref (a 66), .int p0, .int p1] (cW D k A a z G)) (va_Qi (fun (r : Int32) (G1 : GS) => Q_askOf p0 p1 G r G1) (fun (G1 : GS) t => Wd D k A a G1 t.heap) A) 0 0 A := by
  refine Met.ofW (cc := cX12_askOf) (maxL := 3) (ret := (some .int)) (by decide) rfl ?_
  intro p e s m args below meth c s₁ B hml hv
  obtain ⟨rfl, hW, hB_G, hK, hZ⟩ := hv
  have hx := B.exec
  have hb := B.bytes
  have hr := B.returns
  have hts := atoms_spec (ws := WS yX12_askOf cX12_askOf 3 (some .int)) B.pre
  have hgd : ∀ w ∈ gd, w ∈ WS yX12_askOf cX12_askOf 3 (some .int) := fun w h => List.mem_cons_of_mem _ h
  have hg : ∀ w ∈ gd, w.before _ s = true := fun w h => hts w (hgd w h)
  have hown : s.vm.findClass RX12 = some m.cls := findClass_of_methodNamed B.named
  have hS : va_S A s.heap s.heap [] := va_S.rf
  have hF : Fr [] [] G G := Fr.rf
  have hl := lv_entry ([.ref (a 66), .int p0, .int p1]) (n := 3) (Nat.le_of_ble_eq_true rfl)
  rw [lg_entry_eq]
  generalize (lg_sl ([.ref (a 66), .int p0, .int p1]) ++ List.replicate (3 - (lg_sl ([.ref (a 66), .int p0, .int p1])).length) Slot.unset).toArray = ls at hl ⊢
  have hl : lv_has ls 3 [(0, .ref (a 66)), (1, .int p0), (2, .int p1)] := hl
  refine lv_iload_n hx hb dX12_askOf_0 rfl (lv_at hl 2 rfl) ?_
  by_cases c_1 : p1 = 0
  · refine lv_tableIn (tgt := 48) hx hb dX12_askOf_1 (by rw [c_1]; decide) (by rw [c_1]; decide) (off := 47) (by rw [c_1]; decide) (by decide) ?_
    have c_1 : p1.toInt = 0 := xI_eq rfl rfl c_1
    refine lv_aload_n hx hb dX12_askOf_48 rfl (lv_at hl 0 rfl) ?_
    refine S_getR (n := 87) (C := RX12) (T := TX12) (N := 89) hx hb hg iX12 hown hK hW kd_66 rfl 35 (lt_b rfl) (hg (Cond.fieldLink RX12 75 "SlabWalkModel" "marks" "[I") m1349) (fun _ h9 => h9) rfl dX12_askOf_49 ?_
    refine lv_iload_n hx hb dX12_askOf_52 rfl (lv_at hl 1 rfl) ?_
    refine S_iald hx hb hK hW kd_87 (vin (by omega) (by omega)) dX12_askOf_53 (fun y_2 ey_2 => ?_)
    refine lv_if_ge (tgt := 61) hx hb dX12_askOf_54 rfl (fun c_3 => ?_) (fun c_3 => ?_)
    · have c_3 : 0 ≤ y_2.toInt := xI_le rfl rfl c_3
      refine ic_0 hx hb dX12_askOf_61 ?_
      have qc_4 : (0 : Int32).toInt = 0 := rfl
      refine S_calli (va_runS (As := [.int 0]) (rest := []) ⟨hx, hb, hml, hown, hts⟩ (n_truth l D k A a z G 0 ⟨by decide, by decide⟩) (va_cwS 1 hts (gd_S hgd m1788 m1789 m131 m1790) rfl rfl rfl hd_X12_truth.2 ⟨Nat.le_of_ble_eq_true rfl, Nat.le_of_ble_eq_true rfl⟩) (pre_S hW hB_G hK hZ hS) rfl rfl hl.1 rfl (lv_room (Nat.le_of_ble_eq_true rfl)) dX12_askOf_62 ⟨Nat.le_of_ble_eq_true rfl, Nat.le_of_ble_eq_true rfl⟩) hS (fun r_5 G_6 H locs hpo hW hS => ?_)
      have hX_9 : Q_truth 0 G r_5 G_6 := hpo
      obtain ⟨hB_G_6, hq_7, f_10, hp_8, -⟩ := hpo
      have hF := hF.call9 hq_7 rfl rfl
      exact W.iret (v := r_5) hx hb hr (fun t ht _ => ⟨⟨r_5, G_6, rfl, (Q_askOf_mk ⟨hB_G_6, hF, (Or.inl ⟨c_1, ⟨y_2, ey_2, (Or.inl ⟨c_3, ⟨r_5, G_6, hX_9, ⟨rfl, rfl⟩⟩⟩)⟩⟩)⟩), wd_t ht hW⟩, hS.F ht⟩) hS.2.2 dX12_askOf_65
    · have c_3 : y_2.toInt < 0 := xI_nle rfl rfl c_3
      refine ic_1 hx hb dX12_askOf_57 ?_
      refine lv_goto (tgt := 62) hx hb dX12_askOf_58 rfl ?_
      have qc_11 : (1 : Int32).toInt = 1 := rfl
      refine S_calli (va_runS (As := [.int 1]) (rest := []) ⟨hx, hb, hml, hown, hts⟩ (n_truth l D k A a z G 1 ⟨by decide, by decide⟩) (va_cwS 1 hts (gd_S hgd m1788 m1789 m131 m1790) rfl rfl rfl hd_X12_truth.2 ⟨Nat.le_of_ble_eq_true rfl, Nat.le_of_ble_eq_true rfl⟩) (pre_S hW hB_G hK hZ hS) rfl rfl hl.1 rfl (lv_room (Nat.le_of_ble_eq_true rfl)) dX12_askOf_62 ⟨Nat.le_of_ble_eq_true rfl, Nat.le_of_ble_eq_true rfl⟩) hS (fun r_12 G_13 H locs hpo hW hS => ?_)
      have hX_16 : Q_truth 1 G r_12 G_13 := hpo
      obtain ⟨hB_G_13, hq_14, f_17, hp_15, -⟩ := hpo
      have hF := hF.call9 hq_14 rfl rfl
      exact W.iret (v := r_12) hx hb hr (fun t ht _ => ⟨⟨r_12, G_13, rfl, (Q_askOf_mk ⟨hB_G_13, hF, (Or.inl ⟨c_1, ⟨y_2, ey_2, (Or.inr ⟨c_3, ⟨r_12, G_13, hX_16, ⟨rfl, rfl⟩⟩⟩)⟩⟩)⟩), wd_t ht hW⟩, hS.F ht⟩) hS.2.2 dX12_askOf_65
  by_cases c_18 : p1 = 1
  · refine lv_tableIn (tgt := 66) hx hb dX12_askOf_1 (by rw [c_18]; decide) (by rw [c_18]; decide) (off := 65) (by rw [c_18]; decide) (by decide) ?_
    have c_18 : p1.toInt = 1 := xI_eq rfl rfl c_18
    refine lv_aload_n hx hb dX12_askOf_66 rfl (lv_at hl 0 rfl) ?_
    refine S_getR (n := 87) (C := RX12) (T := TX12) (N := 89) hx hb hg iX12 hown hK hW kd_66 rfl 35 (lt_b rfl) (hg (Cond.fieldLink RX12 75 "SlabWalkModel" "marks" "[I") m1349) (fun _ h9 => h9) rfl dX12_askOf_67 ?_
    refine lv_iload_n hx hb dX12_askOf_70 rfl (lv_at hl 1 rfl) ?_
    refine S_iald hx hb hK hW kd_87 (vin (by omega) (by omega)) dX12_askOf_71 (fun y_19 ey_19 => ?_)
    refine lv_if_ge (tgt := 79) hx hb dX12_askOf_72 rfl (fun c_20 => ?_) (fun c_20 => ?_)
    · have c_20 : 0 ≤ y_19.toInt := xI_le rfl rfl c_20
      refine lv_aload_n hx hb dX12_askOf_79 rfl (lv_at hl 0 rfl) ?_
      refine S_getR (n := 87) (C := RX12) (T := TX12) (N := 89) hx hb hg iX12 hown hK hW kd_66 rfl 35 (lt_b rfl) (hg (Cond.fieldLink RX12 75 "SlabWalkModel" "marks" "[I") m1349) (fun _ h9 => h9) rfl dX12_askOf_80 ?_
      refine lv_iload_n hx hb dX12_askOf_83 rfl (lv_at hl 1 rfl) ?_
      refine S_iald hx hb hK hW kd_87 (vin (by omega) (by omega)) dX12_askOf_84 (fun y_21 ey_21 => ?_)
      refine lv_iload_n hx hb dX12_askOf_85 rfl (lv_at hl 2 rfl) ?_
      refine ic_1 hx hb dX12_askOf_86 ?_
      refine lv_isub hx hb dX12_askOf_87 ?_
      refine lv_topi (fun y_22 ey_22 => ?_)
      have ty_22 : y_22.toInt = p1.toInt - 1 := xI_sub rfl rfl ey_22 (by omega) (by omega)
      refine lv_ishr hx hb dX12_askOf_88 ?_
      refine lv_topi (fun y_23 ey_23 => ?_)
      refine ic_1 hx hb dX12_askOf_89 ?_
      refine lv_iand hx hb dX12_askOf_90 ?_
      refine lv_topi (fun y_24 ey_24 => ?_)
      have ty_24 := xI_and (Y := 1) rfl ey_24 (by decide)
      exact W.iret (v := y_24) hx hb hr (fun t ht _ => ⟨⟨y_24, G, rfl, (Q_askOf_mk ⟨hB_G, hF, (Or.inr ⟨(xI_ne (Y := 0) rfl rfl c_1), (Or.inl ⟨c_18, ⟨y_19, ey_19, (Or.inl ⟨c_20, ⟨y_21, ey_21, ⟨y_22, ty_22, ⟨y_23, ey_23, ⟨y_24, ey_24, ⟨rfl, rfl⟩⟩⟩⟩⟩⟩)⟩⟩)⟩)⟩), wd_t ht hW⟩, hS.F ht⟩) hS.2.2 dX12_askOf_91
    · have c_20 : y_19.toInt < 0 := xI_nle rfl rfl c_20
      refine ic_0 hx hb dX12_askOf_75 ?_
      refine lv_goto (tgt := 91) hx hb dX12_askOf_76 rfl ?_
      exact W.iret (v := 0) hx hb hr (fun t ht _ => ⟨⟨0, G, rfl, (Q_askOf_mk ⟨hB_G, hF, (Or.inr ⟨(xI_ne (Y := 0) rfl rfl c_1), (Or.inl ⟨c_18, ⟨y_19, ey_19, (Or.inr ⟨c_20, ⟨rfl, rfl⟩⟩)⟩⟩)⟩)⟩), wd_t ht hW⟩, hS.F ht⟩) hS.2.2 dX12_askOf_91
  by_cases c_25 : p1 = 2
  · refine lv_tableIn (tgt := 66) hx hb dX12_askOf_1 (by rw [c_25]; decide) (by rw [c_25]; decide) (off := 65) (by rw [c_25]; decide) (by decide) ?_
    have c_25 : p1.toInt = 2 := xI_eq rfl rfl c_25
    refine lv_aload_n hx hb dX12_askOf_66 rfl (lv_at hl 0 rfl) ?_
    refine S_getR (n := 87) (C := RX12) (T := TX12) (N := 89) hx hb hg iX12 hown hK hW kd_66 rfl 35 (lt_b rfl) (hg (Cond.fieldLink RX12 75 "SlabWalkModel" "marks" "[I") m1349) (fun _ h9 => h9) rfl dX12_askOf_67 ?_
    refine lv_iload_n hx hb dX12_askOf_70 rfl (lv_at hl 1 rfl) ?_
    refine S_iald hx hb hK hW kd_87 (vin (by omega) (by omega)) dX12_askOf_71 (fun y_26 ey_26 => ?_)
    refine lv_if_ge (tgt := 79) hx hb dX12_askOf_72 rfl (fun c_27 => ?_) (fun c_27 => ?_)
    · have c_27 : 0 ≤ y_26.toInt := xI_le rfl rfl c_27
      refine lv_aload_n hx hb dX12_askOf_79 rfl (lv_at hl 0 rfl) ?_
      refine S_getR (n := 87) (C := RX12) (T := TX12) (N := 89) hx hb hg iX12 hown hK hW kd_66 rfl 35 (lt_b rfl) (hg (Cond.fieldLink RX12 75 "SlabWalkModel" "marks" "[I") m1349) (fun _ h9 => h9) rfl dX12_askOf_80 ?_
      refine lv_iload_n hx hb dX12_askOf_83 rfl (lv_at hl 1 rfl) ?_
      refine S_iald hx hb hK hW kd_87 (vin (by omega) (by omega)) dX12_askOf_84 (fun y_28 ey_28 => ?_)
      refine lv_iload_n hx hb dX12_askOf_85 rfl (lv_at hl 2 rfl) ?_
      refine ic_1 hx hb dX12_askOf_86 ?_
      refine lv_isub hx hb dX12_askOf_87 ?_
      refine lv_topi (fun y_29 ey_29 => ?_)
      have ty_29 : y_29.toInt = p1.toInt - 1 := xI_sub rfl rfl ey_29 (by omega) (by omega)
      refine lv_ishr hx hb dX12_askOf_88 ?_
      refine lv_topi (fun y_30 ey_30 => ?_)
      refine ic_1 hx hb dX12_askOf_89 ?_
      refine lv_iand hx hb dX12_askOf_90 ?_
      refine lv_topi (fun y_31 ey_31 => ?_)
      have ty_31 := xI_and (Y := 1) rfl ey_31 (by decide)
      exact W.iret (v := y_31) hx hb hr (fun t ht _ => ⟨⟨y_31, G, rfl, (Q_askOf_mk ⟨hB_G, hF, (Or.inr ⟨(xI_ne (Y := 0) rfl rfl c_1), (Or.inr ⟨(xI_ne (Y := 1) rfl rfl c_18), (Or.inl ⟨c_25, ⟨y_26, ey_26, (Or.inl ⟨c_27, ⟨y_28, ey_28, ⟨y_29, ty_29, ⟨y_30, ey_30, ⟨y_31, ey_31, ⟨rfl, rfl⟩⟩⟩⟩⟩⟩)⟩⟩)⟩)⟩)⟩), wd_t ht hW⟩, hS.F ht⟩) hS.2.2 dX12_askOf_91
    · have c_27 : y_26.toInt < 0 := xI_nle rfl rfl c_27
      refine ic_0 hx hb dX12_askOf_75 ?_
      refine lv_goto (tgt := 91) hx hb dX12_askOf_76 rfl ?_
      exact W.iret (v := 0) hx hb hr (fun t ht _ => ⟨⟨0, G, rfl, (Q_askOf_mk ⟨hB_G, hF, (Or.inr ⟨(xI_ne (Y := 0) rfl rfl c_1), (Or.inr ⟨(xI_ne (Y := 1) rfl rfl c_18), (Or.inl ⟨c_25, ⟨y_26, ey_26, (Or.inr ⟨c_27, ⟨rfl, rfl⟩⟩)⟩⟩)⟩)⟩)⟩), wd_t ht hW⟩, hS.F ht⟩) hS.2.2 dX12_askOf_91
  by_cases c_32 : p1 = 3
  · refine lv_tableIn (tgt := 66) hx hb dX12_askOf_1 (by rw [c_32]; decide) (by rw [c_32]; decide) (off := 65) (by rw [c_32]; decide) (by decide) ?_
    have c_32 : p1.toInt = 3 := xI_eq rfl rfl c_32
    refine lv_aload_n hx hb dX12_askOf_66 rfl (lv_at hl 0 rfl) ?_
    refine S_getR (n := 87) (C := RX12) (T := TX12) (N := 89) hx hb hg iX12 hown hK hW kd_66 rfl 35 (lt_b rfl) (hg (Cond.fieldLink RX12 75 "SlabWalkModel" "marks" "[I") m1349) (fun _ h9 => h9) rfl dX12_askOf_67 ?_
    refine lv_iload_n hx hb dX12_askOf_70 rfl (lv_at hl 1 rfl) ?_
    refine S_iald hx hb hK hW kd_87 (vin (by omega) (by omega)) dX12_askOf_71 (fun y_33 ey_33 => ?_)
    refine lv_if_ge (tgt := 79) hx hb dX12_askOf_72 rfl (fun c_34 => ?_) (fun c_34 => ?_)
    · have c_34 : 0 ≤ y_33.toInt := xI_le rfl rfl c_34
      refine lv_aload_n hx hb dX12_askOf_79 rfl (lv_at hl 0 rfl) ?_
      refine S_getR (n := 87) (C := RX12) (T := TX12) (N := 89) hx hb hg iX12 hown hK hW kd_66 rfl 35 (lt_b rfl) (hg (Cond.fieldLink RX12 75 "SlabWalkModel" "marks" "[I") m1349) (fun _ h9 => h9) rfl dX12_askOf_80 ?_
      refine lv_iload_n hx hb dX12_askOf_83 rfl (lv_at hl 1 rfl) ?_
      refine S_iald hx hb hK hW kd_87 (vin (by omega) (by omega)) dX12_askOf_84 (fun y_35 ey_35 => ?_)
      refine lv_iload_n hx hb dX12_askOf_85 rfl (lv_at hl 2 rfl) ?_
      refine ic_1 hx hb dX12_askOf_86 ?_
      refine lv_isub hx hb dX12_askOf_87 ?_
      refine lv_topi (fun y_36 ey_36 => ?_)
      have ty_36 : y_36.toInt = p1.toInt - 1 := xI_sub rfl rfl ey_36 (by omega) (by omega)
      refine lv_ishr hx hb dX12_askOf_88 ?_
      refine lv_topi (fun y_37 ey_37 => ?_)
      refine ic_1 hx hb dX12_askOf_89 ?_
      refine lv_iand hx hb dX12_askOf_90 ?_
      refine lv_topi (fun y_38 ey_38 => ?_)
      have ty_38 := xI_and (Y := 1) rfl ey_38 (by decide)
      exact W.iret (v := y_38) hx hb hr (fun t ht _ => ⟨⟨y_38, G, rfl, (Q_askOf_mk ⟨hB_G, hF, (Or.inr ⟨(xI_ne (Y := 0) rfl rfl c_1), (Or.inr ⟨(xI_ne (Y := 1) rfl rfl c_18), (Or.inr ⟨(xI_ne (Y := 2) rfl rfl c_25), (Or.inl ⟨c_32, ⟨y_33, ey_33, (Or.inl ⟨c_34, ⟨y_35, ey_35, ⟨y_36, ty_36, ⟨y_37, ey_37, ⟨y_38, ey_38, ⟨rfl, rfl⟩⟩⟩⟩⟩⟩)⟩⟩)⟩)⟩)⟩)⟩), wd_t ht hW⟩, hS.F ht⟩) hS.2.2 dX12_askOf_91
    · have c_34 : y_33.toInt < 0 := xI_nle rfl rfl c_34
      refine ic_0 hx hb dX12_askOf_75 ?_
      refine lv_goto (tgt := 91) hx hb dX12_askOf_76 rfl ?_
      exact W.iret (v := 0) hx hb hr (fun t ht _ => ⟨⟨0, G, rfl, (Q_askOf_mk ⟨hB_G, hF, (Or.inr ⟨(xI_ne (Y := 0) rfl rfl c_1), (Or.inr ⟨(xI_ne (Y := 1) rfl rfl c_18), (Or.inr ⟨(xI_ne (Y := 2) rfl rfl c_25), (Or.inl ⟨c_32, ⟨y_33, ey_33, (Or.inr ⟨c_34, ⟨rfl, rfl⟩⟩)⟩⟩)⟩)⟩)⟩)⟩), wd_t ht hW⟩, hS.F ht⟩) hS.2.2 dX12_askOf_91
  by_cases c_39 : p1 = 4
  · refine lv_tableIn (tgt := 66) hx hb dX12_askOf_1 (by rw [c_39]; decide) (by rw [c_39]; decide) (off := 65) (by rw [c_39]; decide) (by decide) ?_
    have c_39 : p1.toInt = 4 := xI_eq rfl rfl c_39
    refine lv_aload_n hx hb dX12_askOf_66 rfl (lv_at hl 0 rfl) ?_
    refine S_getR (n := 87) (C := RX12) (T := TX12) (N := 89) hx hb hg iX12 hown hK hW kd_66 rfl 35 (lt_b rfl) (hg (Cond.fieldLink RX12 75 "SlabWalkModel" "marks" "[I") m1349) (fun _ h9 => h9) rfl dX12_askOf_67 ?_
    refine lv_iload_n hx hb dX12_askOf_70 rfl (lv_at hl 1 rfl) ?_
    refine S_iald hx hb hK hW kd_87 (vin (by omega) (by omega)) dX12_askOf_71 (fun y_40 ey_40 => ?_)
    refine lv_if_ge (tgt := 79) hx hb dX12_askOf_72 rfl (fun c_41 => ?_) (fun c_41 => ?_)
    · have c_41 : 0 ≤ y_40.toInt := xI_le rfl rfl c_41
      refine lv_aload_n hx hb dX12_askOf_79 rfl (lv_at hl 0 rfl) ?_
      refine S_getR (n := 87) (C := RX12) (T := TX12) (N := 89) hx hb hg iX12 hown hK hW kd_66 rfl 35 (lt_b rfl) (hg (Cond.fieldLink RX12 75 "SlabWalkModel" "marks" "[I") m1349) (fun _ h9 => h9) rfl dX12_askOf_80 ?_
      refine lv_iload_n hx hb dX12_askOf_83 rfl (lv_at hl 1 rfl) ?_
      refine S_iald hx hb hK hW kd_87 (vin (by omega) (by omega)) dX12_askOf_84 (fun y_42 ey_42 => ?_)
      refine lv_iload_n hx hb dX12_askOf_85 rfl (lv_at hl 2 rfl) ?_
      refine ic_1 hx hb dX12_askOf_86 ?_
      refine lv_isub hx hb dX12_askOf_87 ?_
      refine lv_topi (fun y_43 ey_43 => ?_)
      have ty_43 : y_43.toInt = p1.toInt - 1 := xI_sub rfl rfl ey_43 (by omega) (by omega)
      refine lv_ishr hx hb dX12_askOf_88 ?_
      refine lv_topi (fun y_44 ey_44 => ?_)
      refine ic_1 hx hb dX12_askOf_89 ?_
      refine lv_iand hx hb dX12_askOf_90 ?_
      refine lv_topi (fun y_45 ey_45 => ?_)
      have ty_45 := xI_and (Y := 1) rfl ey_45 (by decide)
      exact W.iret (v := y_45) hx hb hr (fun t ht _ => ⟨⟨y_45, G, rfl, (Q_askOf_mk ⟨hB_G, hF, (Or.inr ⟨(xI_ne (Y := 0) rfl rfl c_1), (Or.inr ⟨(xI_ne (Y := 1) rfl rfl c_18), (Or.inr ⟨(xI_ne (Y := 2) rfl rfl c_25), (Or.inr ⟨(xI_ne (Y := 3) rfl rfl c_32), (Or.inl ⟨c_39, ⟨y_40, ey_40, (Or.inl ⟨c_41, ⟨y_42, ey_42, ⟨y_43, ty_43, ⟨y_44, ey_44, ⟨y_45, ey_45, ⟨rfl, rfl⟩⟩⟩⟩⟩⟩)⟩⟩)⟩)⟩)⟩)⟩)⟩), wd_t ht hW⟩, hS.F ht⟩) hS.2.2 dX12_askOf_91
    · have c_41 : y_40.toInt < 0 := xI_nle rfl rfl c_41
      refine ic_0 hx hb dX12_askOf_75 ?_
      refine lv_goto (tgt := 91) hx hb dX12_askOf_76 rfl ?_
      exact W.iret (v := 0) hx hb hr (fun t ht _ => ⟨⟨0, G, rfl, (Q_askOf_mk ⟨hB_G, hF, (Or.inr ⟨(xI_ne (Y := 0) rfl rfl c_1), (Or.inr ⟨(xI_ne (Y := 1) rfl rfl c_18), (Or.inr ⟨(xI_ne (Y := 2) rfl rfl c_25), (Or.inr ⟨(xI_ne (Y := 3) rfl rfl c_32), (Or.inl ⟨c_39, ⟨y_40, ey_40, (Or.inr ⟨c_41, ⟨rfl, rfl⟩⟩)⟩⟩)⟩)⟩)⟩)⟩)⟩), wd_t ht hW⟩, hS.F ht⟩) hS.2.2 dX12_askOf_91
  by_cases c_46 : p1 = 5
  · refine lv_tableIn (tgt := 92) hx hb dX12_askOf_1 (by rw [c_46]; decide) (by rw [c_46]; decide) (off := 91) (by rw [c_46]; decide) (by decide) ?_
    have c_46 : p1.toInt = 5 := xI_eq rfl rfl c_46
    refine lv_aload_n hx hb dX12_askOf_92 rfl (lv_at hl 0 rfl) ?_
    refine S_getR (n := 90) (C := RX12) (T := TX12) (N := 89) hx hb hg iX12 hown hK hW kd_66 rfl 38 (lt_b rfl) (hg (Cond.fieldLink RX12 84 "SlabWalkModel" "longs" "[I") m1352) (fun _ h9 => h9) rfl dX12_askOf_93 ?_
    refine lv_iload_n hx hb dX12_askOf_96 rfl (lv_at hl 1 rfl) ?_
    refine S_iald hx hb hK hW kd_90 (vin (by omega) (by omega)) dX12_askOf_97 (fun y_47 ey_47 => ?_)
    exact W.iret (v := y_47) hx hb hr (fun t ht _ => ⟨⟨y_47, G, rfl, (Q_askOf_mk ⟨hB_G, hF, (Or.inr ⟨(xI_ne (Y := 0) rfl rfl c_1), (Or.inr ⟨(xI_ne (Y := 1) rfl rfl c_18), (Or.inr ⟨(xI_ne (Y := 2) rfl rfl c_25), (Or.inr ⟨(xI_ne (Y := 3) rfl rfl c_32), (Or.inr ⟨(xI_ne (Y := 4) rfl rfl c_39), (Or.inl ⟨c_46, ⟨y_47, ey_47, ⟨rfl, rfl⟩⟩⟩)⟩)⟩)⟩)⟩)⟩)⟩), wd_t ht hW⟩, hS.F ht⟩) hS.2.2 dX12_askOf_98
  by_cases c_48 : p1 = 6
  · refine lv_tableIn (tgt := 99) hx hb dX12_askOf_1 (by rw [c_48]; decide) (by rw [c_48]; decide) (off := 98) (by rw [c_48]; decide) (by decide) ?_
    have c_48 : p1.toInt = 6 := xI_eq rfl rfl c_48
    refine lv_aload_n hx hb dX12_askOf_99 rfl (lv_at hl 0 rfl) ?_
    refine S_getR (n := 88) (C := RX12) (T := TX12) (N := 89) hx hb hg iX12 hown hK hW kd_66 rfl 36 (lt_b rfl) (hg (Cond.fieldLink RX12 78 "SlabWalkModel" "nths" "[I") m1350) (fun _ h9 => h9) rfl dX12_askOf_100 ?_
    refine lv_iload_n hx hb dX12_askOf_103 rfl (lv_at hl 1 rfl) ?_
    refine S_iald hx hb hK hW kd_88 (vin (by omega) (by omega)) dX12_askOf_104 (fun y_49 ey_49 => ?_)
    exact W.iret (v := y_49) hx hb hr (fun t ht _ => ⟨⟨y_49, G, rfl, (Q_askOf_mk ⟨hB_G, hF, (Or.inr ⟨(xI_ne (Y := 0) rfl rfl c_1), (Or.inr ⟨(xI_ne (Y := 1) rfl rfl c_18), (Or.inr ⟨(xI_ne (Y := 2) rfl rfl c_25), (Or.inr ⟨(xI_ne (Y := 3) rfl rfl c_32), (Or.inr ⟨(xI_ne (Y := 4) rfl rfl c_39), (Or.inr ⟨(xI_ne (Y := 5) rfl rfl c_46), (Or.inl ⟨c_48, ⟨y_49, ey_49, ⟨rfl, rfl⟩⟩⟩)⟩)⟩)⟩)⟩)⟩)⟩)⟩), wd_t ht hW⟩, hS.F ht⟩) hS.2.2 dX12_askOf_105
  by_cases c_50 : p1 = 7
  · refine lv_tableIn (tgt := 106) hx hb dX12_askOf_1 (by rw [c_50]; decide) (by rw [c_50]; decide) (off := 105) (by rw [c_50]; decide) (by decide) ?_
    have c_50 : p1.toInt = 7 := xI_eq rfl rfl c_50
    refine lv_aload_n hx hb dX12_askOf_106 rfl (lv_at hl 0 rfl) ?_
    refine S_getR (n := 89) (C := RX12) (T := TX12) (N := 89) hx hb hg iX12 hown hK hW kd_66 rfl 37 (lt_b rfl) (hg (Cond.fieldLink RX12 81 "SlabWalkModel" "inches" "[I") m1351) (fun _ h9 => h9) rfl dX12_askOf_107 ?_
    refine lv_iload_n hx hb dX12_askOf_110 rfl (lv_at hl 1 rfl) ?_
    refine S_iald hx hb hK hW kd_89 (vin (by omega) (by omega)) dX12_askOf_111 (fun y_51 ey_51 => ?_)
    exact W.iret (v := y_51) hx hb hr (fun t ht _ => ⟨⟨y_51, G, rfl, (Q_askOf_mk ⟨hB_G, hF, (Or.inr ⟨(xI_ne (Y := 0) rfl rfl c_1), (Or.inr ⟨(xI_ne (Y := 1) rfl rfl c_18), (Or.inr ⟨(xI_ne (Y := 2) rfl rfl c_25), (Or.inr ⟨(xI_ne (Y := 3) rfl rfl c_32), (Or.inr ⟨(xI_ne (Y := 4) rfl rfl c_39), (Or.inr ⟨(xI_ne (Y := 5) rfl rfl c_46), (Or.inr ⟨(xI_ne (Y := 6) rfl rfl c_48), (Or.inl ⟨c_50, ⟨y_51, ey_51, ⟨rfl, rfl⟩⟩⟩)⟩)⟩)⟩)⟩)⟩)⟩)⟩)⟩), wd_t ht hW⟩, hS.F ht⟩) hS.2.2 dX12_askOf_112
  refine lv_tableOut (tgt := 113) hx hb dX12_askOf_1 (tb_out (lo := 0) (hi := 7) (by have c_1 := xI_ne (Y := 0) rfl rfl c_1; have c_18 := xI_ne (Y := 1) rfl rfl c_18; have c_25 := xI_ne (Y := 2) rfl rfl c_25; have c_32 := xI_ne (Y := 3) rfl rfl c_32; have c_39 := xI_ne (Y := 4) rfl rfl c_39; have c_46 := xI_ne (Y := 5) rfl rfl c_46; have c_48 := xI_ne (Y := 6) rfl rfl c_48; have c_50 := xI_ne (Y := 7) rfl rfl c_50; omega)) (by decide) ?_
  have c_1 := xI_ne (Y := 0) rfl rfl c_1
  have c_18 := xI_ne (Y := 1) rfl rfl c_18
  have c_25 := xI_ne (Y := 2) rfl rfl c_25
  have c_32 := xI_ne (Y := 3) rfl rfl c_32
  have c_39 := xI_ne (Y := 4) rfl rfl c_39
  have c_46 := xI_ne (Y := 5) rfl rfl c_46
  have c_48 := xI_ne (Y := 6) rfl rfl c_48
  have c_50 := xI_ne (Y := 7) rfl rfl c_50
  refine lv_aload_n hx hb dX12_askOf_113 rfl (lv_at hl 0 rfl) ?_
  refine S_getR (n := 110) (C := RX12) (T := TX12) (N := 89) hx hb hg iX12 hown hK hW kd_66 rfl 76 (lt_b rfl) (hg (Cond.fieldLink RX12 151 "SlabWalkModel" "now" "[I") m1390) (fun _ h9 => h9) rfl dX12_askOf_114 ?_
  refine lv_bipush (v := 6) hx hb dX12_askOf_117 (by decide) ?_
  refine S_iald hx hb hK hW kd_110 (vin (by decide) (by decide)) dX12_askOf_119 (fun y_52 ey_52 => ?_)
  exact W.iret (v := y_52) hx hb hr (fun t ht _ => ⟨⟨y_52, G, rfl, (Q_askOf_mk ⟨hB_G, hF, (Or.inr ⟨c_1, (Or.inr ⟨c_18, (Or.inr ⟨c_25, (Or.inr ⟨c_32, (Or.inr ⟨c_39, (Or.inr ⟨c_46, (Or.inr ⟨c_48, (Or.inr ⟨c_50, ⟨y_52, ey_52, ⟨rfl, rfl⟩⟩⟩)⟩)⟩)⟩)⟩)⟩)⟩)⟩)⟩), wd_t ht hW⟩, hS.F ht⟩) hS.2.2 dX12_askOf_120

set_option maxHeartbeats 4000000 in
set_option maxRecDepth 100000 in
theorem n_worked (l : Launch) (D : va_G) (k : KT) (A : Nat → Prop) (a : Nat → Nat) (z : SK) (G : GS) (p0 : Int32) (p1 : Int32) (ha_p0 : 0 ≤ p0.toInt ∧ p0.toInt ≤ 5) (ha_p1 : 0 ≤ p1.toInt ∧ p1.toInt ≤ 1199) (hP9 : gP G = 1) (hpr : p0.toInt < (G.1 66 54).toInt) : Met l yX12_worked (WS yX12_worked cX12_worked 5 (some .int)) ({ frames := 2, cells := 0, slots := 0, locals := 42 }) (va_Pc [.ref (a 66), .int p0, .int p1] (cW D k A a z G)) (va_Qi (fun (r : Int32) (G1 : GS) => Q_worked p0 p1 G r G1) (fun (G1 : GS) t => Wd D k A a G1 t.heap) A) 0 0 A := by
  refine Met.ofW (cc := cX12_worked) (maxL := 5) (ret := (some .int)) (by decide) rfl ?_
  intro p e s m args below meth c s₁ B hml hv
  obtain ⟨rfl, hW, hB_G, hK, hZ⟩ := hv
  have hx := B.exec
  have hb := B.bytes
  have hr := B.returns
  have hts := atoms_spec (ws := WS yX12_worked cX12_worked 5 (some .int)) B.pre
  have hgd : ∀ w ∈ gd, w ∈ WS yX12_worked cX12_worked 5 (some .int) := fun w h => List.mem_cons_of_mem _ h
  have hg : ∀ w ∈ gd, w.before _ s = true := fun w h => hts w (hgd w h)
  have hown : s.vm.findClass RX12 = some m.cls := findClass_of_methodNamed B.named
  have hS : va_S A s.heap s.heap [] := va_S.rf
  have hF : Fr [76] [] G G := Fr.rf
  have hl := lv_entry ([.ref (a 66), .int p0, .int p1]) (n := 5) (Nat.le_of_ble_eq_true rfl)
  rw [lg_entry_eq]
  generalize (lg_sl ([.ref (a 66), .int p0, .int p1]) ++ List.replicate (5 - (lg_sl ([.ref (a 66), .int p0, .int p1])).length) Slot.unset).toArray = ls at hl ⊢
  have hl : lv_has ls 5 [(0, .ref (a 66)), (1, .int p0), (2, .int p1)] := hl
  refine ic_0 hx hb dX12_worked_0 ?_
  refine lv_istore_n (lv' := [(3, .int 0), (0, .ref (a 66)), (1, .int p0), (2, .int p1)]) hx hb dX12_worked_1 rfl hl (lt_b rfl) rfl (fun ls hl => ?_)
  refine lv_sipush (v := 320) hx hb dX12_worked_2 (by decide) ?_
  refine lv_iload_n hx hb dX12_worked_5 rfl (lv_at hl 2 rfl) ?_
  refine lv_imul hx hb dX12_worked_6 ?_
  refine lv_topi (fun y_1 ey_1 => ?_)
  have ty_1 : y_1.toInt = 320 * p0.toInt := xI_mul rfl rfl ey_1 (by omega) (by omega)
  have u_2 : dpK (G.1 72) (320 * p0.toInt) y_1.toInt = 0 := by rw [ty_1]; exact dpK_0 _ _
  have u_3 : 0 ≤ (G.1 74 p0.toNatClampNeg).toInt ∧ (G.1 74 p0.toNatClampNeg).toInt ≤ 320 := hB_G.i 74 _ rfl rfl
  refine lv_istore (lv' := [(4, .int y_1), (3, .int 0), (0, .ref (a 66)), (1, .int p0), (2, .int p1)]) hx hb dX12_worked_7 hl (lt_b rfl) rfl (fun ls hl => ?_)
  have qc_11 : (0 : Int32).toInt = 0 := rfl
  refine loop_N (Inv := fun n H locs ls => ∃ (G_4 : GS) (x_8 : Int32) (x_9 : Int32), (n : Int) = 1920 - x_8.toInt ∧ (0 ≤ x_8.toInt ∧ x_8.toInt ≤ 1920) ∧ (0 ≤ x_9.toInt ∧ x_9.toInt ≤ 41) ∧ (x_9.toInt = dpK (G.1 72) (320 * p0.toInt) x_8.toInt) ∧ (320 * p0.toInt ≤ x_8.toInt) ∧ (x_8.toInt ≤ 320 * p0.toInt + (G.1 74 p0.toNatClampNeg).toInt) ∧ Rc (St_n_worked_1 p0 p1 G) (y_1, 0, G) (x_8, x_9, G_4) ∧ Wd D k A a G_4 H ∧ Bd G_4 ∧ Fr [76] [] G G_4 ∧ Fr [76] [] G G_4 ∧ va_S A s.heap H locs ∧ lv_has ls 5 [(4, .int x_8), (3, .int x_9), (0, .ref (a 66)), (1, .int p0), (2, .int p1)]) (fun n_7 H locs ls ih_6 hI => ?_) (1920 - y_1.toInt : Int).toNat ⟨G, y_1, 0, (Int.toNat_of_nonneg (by omega)), ⟨by omega, by omega⟩, ⟨(by first | (clear ha_p0 ha_p1 hP9 hpr ty_1 u_2 u_3; omega) | omega), (by first | (clear ha_p0 ha_p1 hP9 hpr ty_1 u_2 u_3; omega) | omega)⟩, (by omega), (by omega), (by omega), Rc.rf, hW, hB_G, hF, Fr.rf, hS, lv_sub hl [0, 1, 2, 3, 4] rfl⟩
  obtain ⟨G_4, x_8, x_9, hn_17, f_12, f_13, f_14, f_15, f_16, hX_10, hW, hB_G_4, hF, hq_5, hS, hl⟩ := hI
  refine lv_iload hx hb dX12_worked_9 (lv_at hl 0 rfl) ?_
  refine lv_sipush (v := 320) hx hb dX12_worked_11 (by decide) ?_
  refine lv_iload_n hx hb dX12_worked_14 rfl (lv_at hl 3 rfl) ?_
  refine lv_imul hx hb dX12_worked_15 ?_
  refine lv_topi (fun y_18 ey_18 => ?_)
  have ty_18 : y_18.toInt = 320 * p0.toInt := xI_mul rfl rfl ey_18 ((by first | (clear ha_p1 hP9 hn_17; omega) | omega)) ((by first | (clear ha_p1 hP9 hn_17; omega) | omega))
  refine lv_aload_n hx hb dX12_worked_16 rfl (lv_at hl 2 rfl) ?_
  refine S_getR (n := 74) (C := RX12) (T := TX12) (N := 89) hx hb hg iX12 hown hK hW kd_66 rfl 16 (lt_b rfl) (hg (Cond.fieldLink RX12 36 "SlabWalkModel" "many" "[I") m1330) (fun _ h9 => h9) rfl dX12_worked_17 ?_
  refine lv_iload_n hx hb dX12_worked_20 rfl (lv_at hl 3 rfl) ?_
  refine S_iald hx hb hK hW kd_74 (vin ((by first | (clear ha_p1 hP9 hn_17; omega) | omega)) ((by first | (clear ha_p1 hP9 hn_17; omega) | omega))) dX12_worked_21 (fun y_19 ey_19 => ?_)
  have ty_19 : 0 ≤ y_19.toInt ∧ y_19.toInt ≤ 320 := bv_74 hB_G_4 ey_19
  have u_20 : y_19.toInt = (G.1 74 p0.toNatClampNeg).toInt := congrArg Int32.toInt (ey_19.trans ((hq_5.ri9 74 rfl p0.toNatClampNeg)))
  refine lv_iadd hx hb dX12_worked_22 ?_
  refine lv_topi (fun y_21 ey_21 => ?_)
  have ty_21 : y_21.toInt = y_18.toInt + y_19.toInt := xI_add rfl rfl ey_21 ((by first | (clear ha_p1 hP9 hn_17; omega) | omega)) ((by first | (clear ha_p1 hP9 hn_17; omega) | omega))
  refine lv_icmp_ge (tgt := 173) hx hb dX12_worked_23 rfl (fun c_22 => ?_) (fun c_22 => ?_)
  · have c_22 : y_21.toInt ≤ x_8.toInt := xI_le rfl rfl c_22
    refine lv_aload_n hx hb dX12_worked_173 rfl (lv_at hl 2 rfl) ?_
    refine S_getR (n := 76) (C := RX12) (T := TX12) (N := 89) hx hb hg iX12 hown hK hW kd_66 rfl 18 (lt_b rfl) (hg (Cond.fieldLink RX12 42 "SlabWalkModel" "values" "[I") m1332) (fun _ h9 => h9) rfl dX12_worked_174 ?_
    refine ic_0 hx hb dX12_worked_177 ?_
    refine S_iald hx hb hK hW kd_76 (vin (by decide) (by decide)) dX12_worked_178 (fun y_23 ey_23 => ?_)
    exact W.iret (v := y_23) hx hb hr (fun t ht _ => ⟨⟨y_23, G_4, rfl, (Q_worked_mk ⟨hB_G_4, hF, ⟨y_1, ty_1, ⟨x_8, x_9, G_4, hX_10, f_12, f_13, f_14, f_15, f_16, hB_G_4, hq_5, ⟨y_18, ty_18, ⟨y_19, ey_19, ⟨y_21, ty_21, ⟨c_22, ⟨y_23, ey_23, ⟨rfl, rfl⟩⟩⟩⟩⟩⟩⟩⟩⟩), wd_t ht hW⟩, hS.F ht⟩) hS.2.2 dX12_worked_179
  · have c_22 : x_8.toInt < y_21.toInt := xI_nle rfl rfl c_22
    refine lv_aload_n hx hb dX12_worked_26 rfl (lv_at hl 2 rfl) ?_
    refine S_getR (n := 72) (C := RX12) (T := TX12) (N := 89) hx hb hg iX12 hown hK hW kd_66 rfl 14 (lt_b rfl) (hg (Cond.fieldLink RX12 30 "SlabWalkModel" "step" "[I") m1328) (fun _ h9 => h9) rfl dX12_worked_27 ?_
    refine lv_iload hx hb dX12_worked_30 (lv_at hl 0 rfl) ?_
    refine S_iald hx hb hK hW kd_72 (vin ((by first | (clear ha_p1 hP9 hn_17; omega) | omega)) ((by first | (clear ha_p1 hP9 hn_17; omega) | omega))) dX12_worked_32 (fun y_24 ey_24 => ?_)
    have u_25 : y_24.toInt = (G.1 72 x_8.toNatClampNeg).toInt := congrArg Int32.toInt (ey_24.trans ((hq_5.ri9 72 rfl x_8.toNatClampNeg)))
    have u_26 := wk_step (ind_p hP9) (p := p0) (k := x_8) (y := y_24) (by first | (clear ha_p1 hP9 hn_17; omega) | omega) (by rw [tN (by first | (clear ha_p1 hP9 hn_17; omega) | omega)]; omega) (by first | (clear ha_p1 hP9 hn_17; omega) | omega) (by first | (clear ha_p1 hP9 hn_17; omega) | omega) (by first | (clear ha_p1 hP9 hn_17; omega) | omega)
    refine lv_if_eq (tgt := 47) hx hb dX12_worked_33 rfl (fun c_27 => ?_) (fun c_27 => ?_)
    · have c_27 : y_24.toInt = 0 := xI_eq rfl rfl c_27
      refine lv_aload_n hx hb dX12_worked_47 rfl (lv_at hl 2 rfl) ?_
      refine S_getR (n := 76) (C := RX12) (T := TX12) (N := 89) hx hb hg iX12 hown hK hW kd_66 rfl 18 (lt_b rfl) (hg (Cond.fieldLink RX12 42 "SlabWalkModel" "values" "[I") m1332) (fun _ h9 => h9) rfl dX12_worked_48 ?_
      refine lv_iload_n hx hb dX12_worked_51 rfl (lv_at hl 1 rfl) ?_
      refine lv_aload_n hx hb dX12_worked_52 rfl (lv_at hl 2 rfl) ?_
      refine S_getR (n := 72) (C := RX12) (T := TX12) (N := 89) hx hb hg iX12 hown hK hW kd_66 rfl 14 (lt_b rfl) (hg (Cond.fieldLink RX12 30 "SlabWalkModel" "step" "[I") m1328) (fun _ h9 => h9) rfl dX12_worked_53 ?_
      refine lv_iload hx hb dX12_worked_56 (lv_at hl 0 rfl) ?_
      refine S_iald hx hb hK hW kd_72 (vin ((by first | (clear ha_p1 hP9 hn_17; omega) | omega)) ((by first | (clear ha_p1 hP9 hn_17; omega) | omega))) dX12_worked_58 (fun y_28 ey_28 => ?_)
      have u_29 : y_28.toInt = y_24.toInt := congrArg Int32.toInt (ey_28.trans (ey_24.symm))
      refine lv_if_ne (tgt := 72) hx hb dX12_worked_59 rfl (fun c_30 => ?_) (fun c_30 => ?_)
      · have c_30 : y_28.toInt ≠ 0 := xI_ne rfl rfl c_30
        refine lv_aload_n hx hb dX12_worked_72 rfl (lv_at hl 2 rfl) ?_
        refine lv_iload_n hx hb dX12_worked_73 rfl (lv_at hl 4 rfl) ?_
        refine lv_aload_n hx hb dX12_worked_74 rfl (lv_at hl 2 rfl) ?_
        refine S_getR (n := 73) (C := RX12) (T := TX12) (N := 89) hx hb hg iX12 hown hK hW kd_66 rfl 15 (lt_b rfl) (hg (Cond.fieldLink RX12 33 "SlabWalkModel" "arg" "[I") m1329) (fun _ h9 => h9) rfl dX12_worked_75 ?_
        refine lv_iload hx hb dX12_worked_78 (lv_at hl 0 rfl) ?_
        refine S_iald hx hb hK hW kd_73 (vin ((by first | (clear ha_p1 hP9 hn_17; omega) | omega)) ((by first | (clear ha_p1 hP9 hn_17; omega) | omega))) dX12_worked_80 (fun y_31 ey_31 => ?_)
        have u_32 : y_31.toInt = (G.1 73 x_8.toNatClampNeg).toInt := congrArg Int32.toInt (ey_31.trans ((hq_5.ri9 73 rfl x_8.toNatClampNeg)))
        refine S_calli (va_runV (As := [.int p1, .int y_31]) (rest := [.int x_9, .ref (a 76)]) ⟨hx, hb, hml, hown, hts⟩ (n_askOf l D k A a z G_4 p1 y_31 ⟨(by first | (clear ha_p0 hP9 hpr ty_1 u_2 u_3 hn_17 f_12 f_13 f_14 f_15 f_16 ty_18 ty_19 u_20 ty_21 c_22 u_25 u_26 c_27 u_29 c_30 u_32; omega) | omega), (by first | (clear ha_p0 hP9 hpr ty_1 u_2 u_3 hn_17 f_12 f_13 f_14 f_15 f_16 ty_18 ty_19 u_20 ty_21 c_22 u_25 u_26 c_27 u_29 c_30 u_32; omega) | omega)⟩) (cwV 2 hts (gd_V hgd m1811 m1813 m88 m131 m1814) rfl rfl rfl hd_X12_askOf ⟨Nat.le_of_ble_eq_true rfl, Nat.le_of_ble_eq_true rfl⟩) (pre_W hW hB_G_4 hK hZ hS kd_66 rfl) rfl rfl hl.1 rfl (lv_room (Nat.le_of_ble_eq_true rfl)) dX12_worked_81 ⟨Nat.le_of_ble_eq_true rfl, Nat.le_of_ble_eq_true rfl⟩) hS (fun r_33 G_34 H locs hpo hW hS => ?_)
        have hX_37 : Q_askOf p1 y_31 G_4 r_33 G_34 := hpo
        obtain ⟨hB_G_34, hq_35, -⟩ := hpo
        have hF := hF.call9 hq_35 rfl rfl
        refine S_iast hx hb hK hW hS kd_76 (vin ((by first | (clear ha_p1 hP9 hn_17; omega) | omega)) ((by first | (clear ha_p1 hP9 hn_17; omega) | omega))) dX12_worked_84 (fun G_38 H locs eG_38 hW hS => ?_)
        have hB_G_38 : Bd G_38 := hB_G_34.put (lo := (-2147483648)) (hi := 2147483647) eG_38 rfl rfl rfl (tI_rng _).1 (tI_rng _).2 (hB_G_34.2.put eG_38 rfl)
        have hF := hF.put eG_38 (Or.inl (by decide))
        obtain ⟨y_39, ey_39⟩ : ∃ q, q = x_9 + 1 := ⟨_, rfl⟩
        have ty_39 : y_39.toInt = x_9.toInt + 1 := xI_add rfl rfl ey_39 ((by first | (clear ha_p1 hP9 hn_17; omega) | omega)) ((by first | (clear ha_p1 hP9 hn_17; omega) | omega))
        refine lv_iinc (v := y_39) (lv' := [(3, .int y_39), (4, .int x_8), (0, .ref (a 66)), (1, .int p0), (2, .int p1)]) hx hb dX12_worked_85 hl (k := 1) rfl (by rw [ey_39]; rfl) (lt_b rfl) rfl (fun ls hl => ?_)
        refine lv_goto (tgt := 167) hx hb dX12_worked_88 rfl ?_
        obtain ⟨y_40, ey_40⟩ : ∃ q, q = x_8 + 1 := ⟨_, rfl⟩
        have ty_40 : y_40.toInt = x_8.toInt + 1 := xI_add rfl rfl ey_40 ((by first | (clear ha_p1 hP9 hn_17; omega) | omega)) ((by first | (clear ha_p1 hP9 hn_17; omega) | omega))
        refine lv_iinc (v := y_40) (lv' := [(4, .int y_40), (3, .int y_39), (0, .ref (a 66)), (1, .int p0), (2, .int p1)]) hx hb dX12_worked_167 hl (k := 1) rfl (by rw [ey_40]; rfl) (lt_b rfl) rfl (fun ls hl => ?_)
        have u_41 : dpK (G.1 72) (320 * p0.toInt) y_40.toInt = dpK (G.1 72) (320 * p0.toInt) (x_8.toInt + 1) := by rw [ty_40]
        refine lv_goto (tgt := 9) hx hb dX12_worked_170 rfl ?_
        exact ih_6 (1920 - y_40.toInt : Int).toNat (by omega) _ _ _ ⟨G_38, y_40, y_39, (Int.toNat_of_nonneg ((by first | (clear ha_p1 hP9 hn_17; omega) | omega))), ⟨(by first | (clear ha_p1 hP9 hn_17; omega) | omega), (by first | (clear ha_p1 hP9 hn_17; omega) | omega)⟩, ⟨(by first | (clear ha_p1 hP9 hn_17; omega) | omega), (by first | (clear ha_p1 hP9 hn_17; omega) | omega)⟩, ((by first | (clear ha_p1 hP9 hn_17; omega) | omega)), ((by first | (clear ha_p1 hP9 hn_17; omega) | omega)), ((by first | (clear ha_p1 hP9 hn_17; omega) | omega)), (hX_10.st (St_n_worked_1_mk ⟨x_8, x_9, G_4, y_40, y_39, G_38, rfl, rfl, f_12, f_13, f_14, f_15, f_16, hB_G_4, ⟨y_18, ty_18, ⟨y_19, ey_19, ⟨y_21, ty_21, ⟨c_22, ⟨y_24, ey_24, (Or.inl ⟨c_27, ⟨y_28, ey_28, (Or.inr ⟨c_30, ⟨y_31, ey_31, ⟨r_33, G_34, hX_37, ⟨y_39, ty_39, ⟨y_40, ty_40, ⟨rfl, rfl, (Fr.put (rs := [76]) (fs := []) Fr.rf eG_38 (Or.inl (by decide))), rw_ast eG_38⟩⟩⟩⟩⟩⟩)⟩⟩)⟩⟩⟩⟩⟩⟩)), hW, hB_G_38, hF, (Fr.put (rs := [76]) (fs := []) (Fr.call9 (rs := [76]) (fs := []) (Fr.call9 (rs := [76]) (fs := []) Fr.rf hq_5 rfl rfl) hq_35 rfl rfl) eG_38 (Or.inl (by decide))), hS, lv_sub hl [0, 1, 2, 3, 4] rfl⟩
      · have c_30 : y_28.toInt = 0 := xI_eq rfl rfl c_30
        refine lv_aload_n hx hb dX12_worked_62 rfl (lv_at hl 2 rfl) ?_
        refine S_getR (n := 73) (C := RX12) (T := TX12) (N := 89) hx hb hg iX12 hown hK hW kd_66 rfl 15 (lt_b rfl) (hg (Cond.fieldLink RX12 33 "SlabWalkModel" "arg" "[I") m1329) (fun _ h9 => h9) rfl dX12_worked_63 ?_
        refine lv_iload hx hb dX12_worked_66 (lv_at hl 0 rfl) ?_
        refine S_iald hx hb hK hW kd_73 (vin ((by first | (clear ha_p1 hP9 hn_17; omega) | omega)) ((by first | (clear ha_p1 hP9 hn_17; omega) | omega))) dX12_worked_68 (fun y_42 ey_42 => ?_)
        have u_43 : y_42.toInt = (G.1 73 x_8.toNatClampNeg).toInt := congrArg Int32.toInt (ey_42.trans ((hq_5.ri9 73 rfl x_8.toNatClampNeg)))
        refine lv_goto (tgt := 84) hx hb dX12_worked_69 rfl ?_
        refine S_iast hx hb hK hW hS kd_76 (vin ((by first | (clear ha_p1 hP9 hn_17; omega) | omega)) ((by first | (clear ha_p1 hP9 hn_17; omega) | omega))) dX12_worked_84 (fun G_44 H locs eG_44 hW hS => ?_)
        have hB_G_44 : Bd G_44 := hB_G_4.put (lo := (-2147483648)) (hi := 2147483647) eG_44 rfl rfl rfl (tI_rng _).1 (tI_rng _).2 (hB_G_4.2.put eG_44 rfl)
        have hF := hF.put eG_44 (Or.inl (by decide))
        obtain ⟨y_45, ey_45⟩ : ∃ q, q = x_9 + 1 := ⟨_, rfl⟩
        have ty_45 : y_45.toInt = x_9.toInt + 1 := xI_add rfl rfl ey_45 ((by first | (clear ha_p1 hP9 hn_17; omega) | omega)) ((by first | (clear ha_p1 hP9 hn_17; omega) | omega))
        refine lv_iinc (v := y_45) (lv' := [(3, .int y_45), (4, .int x_8), (0, .ref (a 66)), (1, .int p0), (2, .int p1)]) hx hb dX12_worked_85 hl (k := 1) rfl (by rw [ey_45]; rfl) (lt_b rfl) rfl (fun ls hl => ?_)
        refine lv_goto (tgt := 167) hx hb dX12_worked_88 rfl ?_
        obtain ⟨y_46, ey_46⟩ : ∃ q, q = x_8 + 1 := ⟨_, rfl⟩
        have ty_46 : y_46.toInt = x_8.toInt + 1 := xI_add rfl rfl ey_46 ((by first | (clear ha_p1 hP9 hn_17; omega) | omega)) ((by first | (clear ha_p1 hP9 hn_17; omega) | omega))
        refine lv_iinc (v := y_46) (lv' := [(4, .int y_46), (3, .int y_45), (0, .ref (a 66)), (1, .int p0), (2, .int p1)]) hx hb dX12_worked_167 hl (k := 1) rfl (by rw [ey_46]; rfl) (lt_b rfl) rfl (fun ls hl => ?_)
        have u_47 : dpK (G.1 72) (320 * p0.toInt) y_46.toInt = dpK (G.1 72) (320 * p0.toInt) (x_8.toInt + 1) := by rw [ty_46]
        refine lv_goto (tgt := 9) hx hb dX12_worked_170 rfl ?_
        exact ih_6 (1920 - y_46.toInt : Int).toNat (by omega) _ _ _ ⟨G_44, y_46, y_45, (Int.toNat_of_nonneg ((by first | (clear ha_p1 hP9 hn_17; omega) | omega))), ⟨(by first | (clear ha_p1 hP9 hn_17; omega) | omega), (by first | (clear ha_p1 hP9 hn_17; omega) | omega)⟩, ⟨(by first | (clear ha_p1 hP9 hn_17; omega) | omega), (by first | (clear ha_p1 hP9 hn_17; omega) | omega)⟩, ((by first | (clear ha_p1 hP9 hn_17; omega) | omega)), ((by first | (clear ha_p1 hP9 hn_17; omega) | omega)), ((by first | (clear ha_p1 hP9 hn_17; omega) | omega)), (hX_10.st (St_n_worked_1_mk ⟨x_8, x_9, G_4, y_46, y_45, G_44, rfl, rfl, f_12, f_13, f_14, f_15, f_16, hB_G_4, ⟨y_18, ty_18, ⟨y_19, ey_19, ⟨y_21, ty_21, ⟨c_22, ⟨y_24, ey_24, (Or.inl ⟨c_27, ⟨y_28, ey_28, (Or.inl ⟨c_30, ⟨y_42, ey_42, ⟨y_45, ty_45, ⟨y_46, ty_46, ⟨rfl, rfl, (Fr.put (rs := [76]) (fs := []) Fr.rf eG_44 (Or.inl (by decide))), rw_ast eG_44⟩⟩⟩⟩⟩)⟩⟩)⟩⟩⟩⟩⟩⟩)), hW, hB_G_44, hF, (Fr.put (rs := [76]) (fs := []) (Fr.call9 (rs := [76]) (fs := []) Fr.rf hq_5 rfl rfl) eG_44 (Or.inl (by decide))), hS, lv_sub hl [0, 1, 2, 3, 4] rfl⟩
    · have c_27 : y_24.toInt ≠ 0 := xI_ne rfl rfl c_27
      refine lv_aload_n hx hb dX12_worked_36 rfl (lv_at hl 2 rfl) ?_
      refine S_getR (n := 72) (C := RX12) (T := TX12) (N := 89) hx hb hg iX12 hown hK hW kd_66 rfl 14 (lt_b rfl) (hg (Cond.fieldLink RX12 30 "SlabWalkModel" "step" "[I") m1328) (fun _ h9 => h9) rfl dX12_worked_37 ?_
      refine lv_iload hx hb dX12_worked_40 (lv_at hl 0 rfl) ?_
      refine S_iald hx hb hK hW kd_72 (vin ((by first | (clear ha_p1 hP9 hn_17; omega) | omega)) ((by first | (clear ha_p1 hP9 hn_17; omega) | omega))) dX12_worked_42 (fun y_48 ey_48 => ?_)
      have u_49 : y_48.toInt = y_24.toInt := congrArg Int32.toInt (ey_48.trans (ey_24.symm))
      refine ic_1 hx hb dX12_worked_43 ?_
      refine lv_icmp_ne (tgt := 91) hx hb dX12_worked_44 rfl (fun c_50 => ?_) (fun c_50 => ?_)
      · have c_50 : y_48.toInt ≠ 1 := xI_ne rfl rfl c_50
        refine lv_aload_n hx hb dX12_worked_91 rfl (lv_at hl 2 rfl) ?_
        refine S_getR (n := 72) (C := RX12) (T := TX12) (N := 89) hx hb hg iX12 hown hK hW kd_66 rfl 14 (lt_b rfl) (hg (Cond.fieldLink RX12 30 "SlabWalkModel" "step" "[I") m1328) (fun _ h9 => h9) rfl dX12_worked_92 ?_
        refine lv_iload hx hb dX12_worked_95 (lv_at hl 0 rfl) ?_
        refine S_iald hx hb hK hW kd_72 (vin ((by first | (clear ha_p1 hP9 hn_17; omega) | omega)) ((by first | (clear ha_p1 hP9 hn_17; omega) | omega))) dX12_worked_97 (fun y_51 ey_51 => ?_)
        have u_52 : y_51.toInt = y_48.toInt := congrArg Int32.toInt (ey_51.trans (ey_48.symm))
        refine ic_2 hx hb dX12_worked_98 ?_
        refine lv_icmp_ne (tgt := 132) hx hb dX12_worked_99 rfl (fun c_53 => ?_) (fun c_53 => ?_)
        · have c_53 : y_51.toInt ≠ 2 := xI_ne rfl rfl c_53
          obtain ⟨y_54, ey_54⟩ : ∃ q, q = x_9 + (-1) := ⟨_, rfl⟩
          have ty_54 : y_54.toInt = x_9.toInt + (-1) := xI_add rfl rfl ey_54 ((by first | (clear ha_p1 hP9 hn_17; omega) | omega)) ((by first | (clear ha_p1 hP9 hn_17; omega) | omega))
          refine lv_iinc (v := y_54) (lv' := [(3, .int y_54), (4, .int x_8), (0, .ref (a 66)), (1, .int p0), (2, .int p1)]) hx hb dX12_worked_132 hl (k := 1) rfl (by rw [ey_54]; rfl) (lt_b rfl) rfl (fun ls hl => ?_)
          refine lv_aload_n hx hb dX12_worked_135 rfl (lv_at hl 2 rfl) ?_
          refine S_getR (n := 76) (C := RX12) (T := TX12) (N := 89) hx hb hg iX12 hown hK hW kd_66 rfl 18 (lt_b rfl) (hg (Cond.fieldLink RX12 42 "SlabWalkModel" "values" "[I") m1332) (fun _ h9 => h9) rfl dX12_worked_136 ?_
          refine lv_iload_n hx hb dX12_worked_139 rfl (lv_at hl 0 rfl) ?_
          refine ic_1 hx hb dX12_worked_140 ?_
          refine lv_isub hx hb dX12_worked_141 ?_
          refine lv_topi (fun y_55 ey_55 => ?_)
          have ty_55 : y_55.toInt = y_54.toInt - 1 := xI_sub rfl rfl ey_55 ((by first | (clear ha_p1 hP9 hn_17; omega) | omega)) ((by first | (clear ha_p1 hP9 hn_17; omega) | omega))
          refine lv_aload_n hx hb dX12_worked_142 rfl (lv_at hl 2 rfl) ?_
          refine S_getR (n := 73) (C := RX12) (T := TX12) (N := 89) hx hb hg iX12 hown hK hW kd_66 rfl 15 (lt_b rfl) (hg (Cond.fieldLink RX12 33 "SlabWalkModel" "arg" "[I") m1329) (fun _ h9 => h9) rfl dX12_worked_143 ?_
          refine lv_iload hx hb dX12_worked_146 (lv_at hl 1 rfl) ?_
          refine S_iald hx hb hK hW kd_73 (vin ((by first | (clear ha_p1 hP9 hn_17; omega) | omega)) ((by first | (clear ha_p1 hP9 hn_17; omega) | omega))) dX12_worked_148 (fun y_56 ey_56 => ?_)
          have u_57 : y_56.toInt = (G.1 73 x_8.toNatClampNeg).toInt := congrArg Int32.toInt (ey_56.trans ((hq_5.ri9 73 rfl x_8.toNatClampNeg)))
          refine lv_aload_n hx hb dX12_worked_149 rfl (lv_at hl 2 rfl) ?_
          refine S_getR (n := 76) (C := RX12) (T := TX12) (N := 89) hx hb hg iX12 hown hK hW kd_66 rfl 18 (lt_b rfl) (hg (Cond.fieldLink RX12 42 "SlabWalkModel" "values" "[I") m1332) (fun _ h9 => h9) rfl dX12_worked_150 ?_
          refine lv_iload_n hx hb dX12_worked_153 rfl (lv_at hl 0 rfl) ?_
          refine ic_1 hx hb dX12_worked_154 ?_
          refine lv_isub hx hb dX12_worked_155 ?_
          refine lv_topi (fun y_58 ey_58 => ?_)
          have ty_58 : y_58.toInt = y_54.toInt - 1 := xI_sub rfl rfl ey_58 ((by first | (clear ha_p1 hP9 hn_17; omega) | omega)) ((by first | (clear ha_p1 hP9 hn_17; omega) | omega))
          refine S_iald hx hb hK hW kd_76 (vin ((by first | (clear ha_p1 hP9 hn_17; omega) | omega)) ((by first | (clear ha_p1 hP9 hn_17; omega) | omega))) dX12_worked_156 (fun y_59 ey_59 => ?_)
          have u_60 : y_59.toInt = (G_4.1 76 y_58.toNatClampNeg).toInt := congrArg Int32.toInt (ey_59)
          refine lv_aload_n hx hb dX12_worked_157 rfl (lv_at hl 2 rfl) ?_
          refine S_getR (n := 76) (C := RX12) (T := TX12) (N := 89) hx hb hg iX12 hown hK hW kd_66 rfl 18 (lt_b rfl) (hg (Cond.fieldLink RX12 42 "SlabWalkModel" "values" "[I") m1332) (fun _ h9 => h9) rfl dX12_worked_158 ?_
          refine lv_iload_n hx hb dX12_worked_161 rfl (lv_at hl 0 rfl) ?_
          refine S_iald hx hb hK hW kd_76 (vin ((by first | (clear ha_p1 hP9 hn_17; omega) | omega)) ((by first | (clear ha_p1 hP9 hn_17; omega) | omega))) dX12_worked_162 (fun y_61 ey_61 => ?_)
          have u_62 : y_61.toInt = (G_4.1 76 y_54.toNatClampNeg).toInt := congrArg Int32.toInt (ey_61)
          refine S_calli (va_runS (As := [.int y_56, .int y_59, .int y_61]) (rest := [.int y_55, .ref (a 76)]) ⟨hx, hb, hml, hown, hts⟩ (n_done l D k A a z G_4 y_56 y_59 y_61 ) (va_cwS 3 hts (gd_S hgd m1815 m1816 m131 m1817) rfl rfl rfl hd_X12_done.2 ⟨Nat.le_of_ble_eq_true rfl, Nat.le_of_ble_eq_true rfl⟩) (pre_S hW hB_G_4 hK hZ hS) rfl rfl hl.1 rfl (lv_room (Nat.le_of_ble_eq_true rfl)) dX12_worked_163 ⟨Nat.le_of_ble_eq_true rfl, Nat.le_of_ble_eq_true rfl⟩) hS (fun r_63 G_64 H locs hpo hW hS => ?_)
          have hX_67 : Q_done y_56 y_59 y_61 G_4 r_63 G_64 := hpo
          obtain ⟨hB_G_64, hq_65, -⟩ := hpo
          have hF := hF.call9 hq_65 rfl rfl
          refine S_iast hx hb hK hW hS kd_76 (vin ((by first | (clear ha_p1 hP9 hn_17; omega) | omega)) ((by first | (clear ha_p1 hP9 hn_17; omega) | omega))) dX12_worked_166 (fun G_68 H locs eG_68 hW hS => ?_)
          have hB_G_68 : Bd G_68 := hB_G_64.put (lo := (-2147483648)) (hi := 2147483647) eG_68 rfl rfl rfl (tI_rng _).1 (tI_rng _).2 (hB_G_64.2.put eG_68 rfl)
          have hF := hF.put eG_68 (Or.inl (by decide))
          obtain ⟨y_69, ey_69⟩ : ∃ q, q = x_8 + 1 := ⟨_, rfl⟩
          have ty_69 : y_69.toInt = x_8.toInt + 1 := xI_add rfl rfl ey_69 ((by first | (clear ha_p1 hP9 hn_17; omega) | omega)) ((by first | (clear ha_p1 hP9 hn_17; omega) | omega))
          refine lv_iinc (v := y_69) (lv' := [(4, .int y_69), (3, .int y_54), (0, .ref (a 66)), (1, .int p0), (2, .int p1)]) hx hb dX12_worked_167 hl (k := 1) rfl (by rw [ey_69]; rfl) (lt_b rfl) rfl (fun ls hl => ?_)
          have u_70 : dpK (G.1 72) (320 * p0.toInt) y_69.toInt = dpK (G.1 72) (320 * p0.toInt) (x_8.toInt + 1) := by rw [ty_69]
          refine lv_goto (tgt := 9) hx hb dX12_worked_170 rfl ?_
          exact ih_6 (1920 - y_69.toInt : Int).toNat (by omega) _ _ _ ⟨G_68, y_69, y_54, (Int.toNat_of_nonneg ((by first | (clear ha_p1 hP9 hn_17; omega) | omega))), ⟨(by first | (clear ha_p1 hP9 hn_17; omega) | omega), (by first | (clear ha_p1 hP9 hn_17; omega) | omega)⟩, ⟨(by first | (clear ha_p1 hP9 hn_17; omega) | omega), (by first | (clear ha_p1 hP9 hn_17; omega) | omega)⟩, ((by first | (clear ha_p1 hP9 hn_17; omega) | omega)), ((by first | (clear ha_p1 hP9 hn_17; omega) | omega)), ((by first | (clear ha_p1 hP9 hn_17; omega) | omega)), (hX_10.st (St_n_worked_1_mk ⟨x_8, x_9, G_4, y_69, y_54, G_68, rfl, rfl, f_12, f_13, f_14, f_15, f_16, hB_G_4, ⟨y_18, ty_18, ⟨y_19, ey_19, ⟨y_21, ty_21, ⟨c_22, ⟨y_24, ey_24, (Or.inr ⟨c_27, ⟨y_48, ey_48, (Or.inr ⟨c_50, ⟨y_51, ey_51, (Or.inr ⟨c_53, ⟨y_54, ty_54, ⟨y_55, ty_55, ⟨y_56, ey_56, ⟨y_58, ty_58, ⟨y_59, ey_59, ⟨y_61, ey_61, ⟨r_63, G_64, hX_67, ⟨y_69, ty_69, ⟨rfl, rfl, (Fr.put (rs := [76]) (fs := []) Fr.rf eG_68 (Or.inl (by decide))), rw_ast eG_68⟩⟩⟩⟩⟩⟩⟩⟩⟩⟩)⟩⟩)⟩⟩)⟩⟩⟩⟩⟩⟩)), hW, hB_G_68, hF, (Fr.put (rs := [76]) (fs := []) (Fr.call9 (rs := [76]) (fs := []) (Fr.call9 (rs := [76]) (fs := []) Fr.rf hq_5 rfl rfl) hq_65 rfl rfl) eG_68 (Or.inl (by decide))), hS, lv_sub hl [0, 1, 2, 3, 4] rfl⟩
        · have c_53 : y_51.toInt = 2 := xI_eq rfl rfl c_53
          refine lv_aload_n hx hb dX12_worked_102 rfl (lv_at hl 2 rfl) ?_
          refine S_getR (n := 76) (C := RX12) (T := TX12) (N := 89) hx hb hg iX12 hown hK hW kd_66 rfl 18 (lt_b rfl) (hg (Cond.fieldLink RX12 42 "SlabWalkModel" "values" "[I") m1332) (fun _ h9 => h9) rfl dX12_worked_103 ?_
          refine lv_iload_n hx hb dX12_worked_106 rfl (lv_at hl 1 rfl) ?_
          refine ic_1 hx hb dX12_worked_107 ?_
          refine lv_isub hx hb dX12_worked_108 ?_
          refine lv_topi (fun y_71 ey_71 => ?_)
          have ty_71 : y_71.toInt = x_9.toInt - 1 := xI_sub rfl rfl ey_71 ((by first | (clear ha_p1 hP9 hn_17; omega) | omega)) ((by first | (clear ha_p1 hP9 hn_17; omega) | omega))
          refine lv_aload_n hx hb dX12_worked_109 rfl (lv_at hl 2 rfl) ?_
          refine S_getR (n := 76) (C := RX12) (T := TX12) (N := 89) hx hb hg iX12 hown hK hW kd_66 rfl 18 (lt_b rfl) (hg (Cond.fieldLink RX12 42 "SlabWalkModel" "values" "[I") m1332) (fun _ h9 => h9) rfl dX12_worked_110 ?_
          refine lv_iload_n hx hb dX12_worked_113 rfl (lv_at hl 1 rfl) ?_
          refine ic_1 hx hb dX12_worked_114 ?_
          refine lv_isub hx hb dX12_worked_115 ?_
          refine lv_topi (fun y_72 ey_72 => ?_)
          have ty_72 : y_72.toInt = x_9.toInt - 1 := xI_sub rfl rfl ey_72 ((by first | (clear ha_p1 hP9 hn_17; omega) | omega)) ((by first | (clear ha_p1 hP9 hn_17; omega) | omega))
          refine S_iald hx hb hK hW kd_76 (vin ((by first | (clear ha_p1 hP9 hn_17; omega) | omega)) ((by first | (clear ha_p1 hP9 hn_17; omega) | omega))) dX12_worked_116 (fun y_73 ey_73 => ?_)
          have u_74 : y_73.toInt = (G_4.1 76 y_72.toNatClampNeg).toInt := congrArg Int32.toInt (ey_73)
          refine lv_if_ne (tgt := 124) hx hb dX12_worked_117 rfl (fun c_75 => ?_) (fun c_75 => ?_)
          · have c_75 : y_73.toInt ≠ 0 := xI_ne rfl rfl c_75
            refine ic_0 hx hb dX12_worked_124 ?_
            have qc_76 : (0 : Int32).toInt = 0 := rfl
            refine S_calli (va_runS (As := [.int 0]) (rest := [.int y_71, .ref (a 76)]) ⟨hx, hb, hml, hown, hts⟩ (n_truth l D k A a z G_4 0 ⟨by decide, by decide⟩) (va_cwS 1 hts (gd_S hgd m1788 m1789 m131 m1790) rfl rfl rfl hd_X12_truth.2 ⟨Nat.le_of_ble_eq_true rfl, Nat.le_of_ble_eq_true rfl⟩) (pre_S hW hB_G_4 hK hZ hS) rfl rfl hl.1 rfl (lv_room (Nat.le_of_ble_eq_true rfl)) dX12_worked_125 ⟨Nat.le_of_ble_eq_true rfl, Nat.le_of_ble_eq_true rfl⟩) hS (fun r_77 G_78 H locs hpo hW hS => ?_)
            have hX_81 : Q_truth 0 G_4 r_77 G_78 := hpo
            obtain ⟨hB_G_78, hq_79, f_82, hp_80, -⟩ := hpo
            have hF := hF.call9 hq_79 rfl rfl
            refine S_iast hx hb hK hW hS kd_76 (vin ((by first | (clear ha_p1 hP9 hn_17 f_82 hp_80; omega) | omega)) ((by first | (clear ha_p1 hP9 hn_17 f_82 hp_80; omega) | omega))) dX12_worked_128 (fun G_83 H locs eG_83 hW hS => ?_)
            have hB_G_83 : Bd G_83 := hB_G_78.put (lo := (-2147483648)) (hi := 2147483647) eG_83 rfl rfl rfl (tI_rng _).1 (tI_rng _).2 (hB_G_78.2.put eG_83 rfl)
            have hF := hF.put eG_83 (Or.inl (by decide))
            refine lv_goto (tgt := 167) hx hb dX12_worked_129 rfl ?_
            obtain ⟨y_84, ey_84⟩ : ∃ q, q = x_8 + 1 := ⟨_, rfl⟩
            have ty_84 : y_84.toInt = x_8.toInt + 1 := xI_add rfl rfl ey_84 ((by first | (clear ha_p1 hP9 hn_17 f_82 hp_80; omega) | omega)) ((by first | (clear ha_p1 hP9 hn_17 f_82 hp_80; omega) | omega))
            refine lv_iinc (v := y_84) (lv' := [(4, .int y_84), (3, .int x_9), (0, .ref (a 66)), (1, .int p0), (2, .int p1)]) hx hb dX12_worked_167 hl (k := 0) rfl (by rw [ey_84]; rfl) (lt_b rfl) rfl (fun ls hl => ?_)
            have u_85 : dpK (G.1 72) (320 * p0.toInt) y_84.toInt = dpK (G.1 72) (320 * p0.toInt) (x_8.toInt + 1) := by rw [ty_84]
            refine lv_goto (tgt := 9) hx hb dX12_worked_170 rfl ?_
            exact ih_6 (1920 - y_84.toInt : Int).toNat ((by first | (clear ha_p1 hP9 f_82 hp_80; omega) | omega)) _ _ _ ⟨G_83, y_84, x_9, (Int.toNat_of_nonneg ((by first | (clear ha_p1 hP9 hn_17 f_82 hp_80; omega) | omega))), ⟨(by first | (clear ha_p1 hP9 hn_17 f_82 hp_80; omega) | omega), (by first | (clear ha_p1 hP9 hn_17 f_82 hp_80; omega) | omega)⟩, ⟨(by first | (clear ha_p1 hP9 hn_17 f_82 hp_80; omega) | omega), (by first | (clear ha_p1 hP9 hn_17 f_82 hp_80; omega) | omega)⟩, ((by first | (clear ha_p1 hP9 hn_17 f_82 hp_80; omega) | omega)), ((by first | (clear ha_p1 hP9 hn_17 f_82 hp_80; omega) | omega)), ((by first | (clear ha_p1 hP9 hn_17 f_82 hp_80; omega) | omega)), (hX_10.st (St_n_worked_1_mk ⟨x_8, x_9, G_4, y_84, x_9, G_83, rfl, rfl, f_12, f_13, f_14, f_15, f_16, hB_G_4, ⟨y_18, ty_18, ⟨y_19, ey_19, ⟨y_21, ty_21, ⟨c_22, ⟨y_24, ey_24, (Or.inr ⟨c_27, ⟨y_48, ey_48, (Or.inr ⟨c_50, ⟨y_51, ey_51, (Or.inl ⟨c_53, ⟨y_71, ty_71, ⟨y_72, ty_72, ⟨y_73, ey_73, (Or.inr ⟨c_75, ⟨r_77, G_78, hX_81, ⟨y_84, ty_84, ⟨rfl, rfl, (Fr.put (rs := [76]) (fs := []) Fr.rf eG_83 (Or.inl (by decide))), rw_ast eG_83⟩⟩⟩⟩)⟩⟩⟩⟩)⟩⟩)⟩⟩)⟩⟩⟩⟩⟩⟩)), hW, hB_G_83, hF, (Fr.put (rs := [76]) (fs := []) (Fr.call9 (rs := [76]) (fs := []) (Fr.call9 (rs := [76]) (fs := []) Fr.rf hq_5 rfl rfl) hq_79 rfl rfl) eG_83 (Or.inl (by decide))), hS, lv_sub hl [0, 1, 2, 3, 4] rfl⟩
          · have c_75 : y_73.toInt = 0 := xI_eq rfl rfl c_75
            refine ic_1 hx hb dX12_worked_120 ?_
            refine lv_goto (tgt := 125) hx hb dX12_worked_121 rfl ?_
            have qc_86 : (1 : Int32).toInt = 1 := rfl
            refine S_calli (va_runS (As := [.int 1]) (rest := [.int y_71, .ref (a 76)]) ⟨hx, hb, hml, hown, hts⟩ (n_truth l D k A a z G_4 1 ⟨by decide, by decide⟩) (va_cwS 1 hts (gd_S hgd m1788 m1789 m131 m1790) rfl rfl rfl hd_X12_truth.2 ⟨Nat.le_of_ble_eq_true rfl, Nat.le_of_ble_eq_true rfl⟩) (pre_S hW hB_G_4 hK hZ hS) rfl rfl hl.1 rfl (lv_room (Nat.le_of_ble_eq_true rfl)) dX12_worked_125 ⟨Nat.le_of_ble_eq_true rfl, Nat.le_of_ble_eq_true rfl⟩) hS (fun r_87 G_88 H locs hpo hW hS => ?_)
            have hX_91 : Q_truth 1 G_4 r_87 G_88 := hpo
            obtain ⟨hB_G_88, hq_89, f_92, hp_90, -⟩ := hpo
            have hF := hF.call9 hq_89 rfl rfl
            refine S_iast hx hb hK hW hS kd_76 (vin ((by first | (clear ha_p1 hP9 hn_17 f_92 hp_90; omega) | omega)) ((by first | (clear ha_p1 hP9 hn_17 f_92 hp_90; omega) | omega))) dX12_worked_128 (fun G_93 H locs eG_93 hW hS => ?_)
            have hB_G_93 : Bd G_93 := hB_G_88.put (lo := (-2147483648)) (hi := 2147483647) eG_93 rfl rfl rfl (tI_rng _).1 (tI_rng _).2 (hB_G_88.2.put eG_93 rfl)
            have hF := hF.put eG_93 (Or.inl (by decide))
            refine lv_goto (tgt := 167) hx hb dX12_worked_129 rfl ?_
            obtain ⟨y_94, ey_94⟩ : ∃ q, q = x_8 + 1 := ⟨_, rfl⟩
            have ty_94 : y_94.toInt = x_8.toInt + 1 := xI_add rfl rfl ey_94 ((by first | (clear ha_p1 hP9 hn_17 f_92 hp_90; omega) | omega)) ((by first | (clear ha_p1 hP9 hn_17 f_92 hp_90; omega) | omega))
            refine lv_iinc (v := y_94) (lv' := [(4, .int y_94), (3, .int x_9), (0, .ref (a 66)), (1, .int p0), (2, .int p1)]) hx hb dX12_worked_167 hl (k := 0) rfl (by rw [ey_94]; rfl) (lt_b rfl) rfl (fun ls hl => ?_)
            have u_95 : dpK (G.1 72) (320 * p0.toInt) y_94.toInt = dpK (G.1 72) (320 * p0.toInt) (x_8.toInt + 1) := by rw [ty_94]
            refine lv_goto (tgt := 9) hx hb dX12_worked_170 rfl ?_
            exact ih_6 (1920 - y_94.toInt : Int).toNat ((by first | (clear ha_p1 hP9 f_92 hp_90; omega) | omega)) _ _ _ ⟨G_93, y_94, x_9, (Int.toNat_of_nonneg ((by first | (clear ha_p1 hP9 hn_17 f_92 hp_90; omega) | omega))), ⟨(by first | (clear ha_p1 hP9 hn_17 f_92 hp_90; omega) | omega), (by first | (clear ha_p1 hP9 hn_17 f_92 hp_90; omega) | omega)⟩, ⟨(by first | (clear ha_p1 hP9 hn_17 f_92 hp_90; omega) | omega), (by first | (clear ha_p1 hP9 hn_17 f_92 hp_90; omega) | omega)⟩, ((by first | (clear ha_p1 hP9 hn_17 f_92 hp_90; omega) | omega)), ((by first | (clear ha_p1 hP9 hn_17 f_92 hp_90; omega) | omega)), ((by first | (clear ha_p1 hP9 hn_17 f_92 hp_90; omega) | omega)), (hX_10.st (St_n_worked_1_mk ⟨x_8, x_9, G_4, y_94, x_9, G_93, rfl, rfl, f_12, f_13, f_14, f_15, f_16, hB_G_4, ⟨y_18, ty_18, ⟨y_19, ey_19, ⟨y_21, ty_21, ⟨c_22, ⟨y_24, ey_24, (Or.inr ⟨c_27, ⟨y_48, ey_48, (Or.inr ⟨c_50, ⟨y_51, ey_51, (Or.inl ⟨c_53, ⟨y_71, ty_71, ⟨y_72, ty_72, ⟨y_73, ey_73, (Or.inl ⟨c_75, ⟨r_87, G_88, hX_91, ⟨y_94, ty_94, ⟨rfl, rfl, (Fr.put (rs := [76]) (fs := []) Fr.rf eG_93 (Or.inl (by decide))), rw_ast eG_93⟩⟩⟩⟩)⟩⟩⟩⟩)⟩⟩)⟩⟩)⟩⟩⟩⟩⟩⟩)), hW, hB_G_93, hF, (Fr.put (rs := [76]) (fs := []) (Fr.call9 (rs := [76]) (fs := []) (Fr.call9 (rs := [76]) (fs := []) Fr.rf hq_5 rfl rfl) hq_89 rfl rfl) eG_93 (Or.inl (by decide))), hS, lv_sub hl [0, 1, 2, 3, 4] rfl⟩
      · have c_50 : y_48.toInt = 1 := xI_eq rfl rfl c_50
        refine lv_aload_n hx hb dX12_worked_47 rfl (lv_at hl 2 rfl) ?_
        refine S_getR (n := 76) (C := RX12) (T := TX12) (N := 89) hx hb hg iX12 hown hK hW kd_66 rfl 18 (lt_b rfl) (hg (Cond.fieldLink RX12 42 "SlabWalkModel" "values" "[I") m1332) (fun _ h9 => h9) rfl dX12_worked_48 ?_
        refine lv_iload_n hx hb dX12_worked_51 rfl (lv_at hl 1 rfl) ?_
        refine lv_aload_n hx hb dX12_worked_52 rfl (lv_at hl 2 rfl) ?_
        refine S_getR (n := 72) (C := RX12) (T := TX12) (N := 89) hx hb hg iX12 hown hK hW kd_66 rfl 14 (lt_b rfl) (hg (Cond.fieldLink RX12 30 "SlabWalkModel" "step" "[I") m1328) (fun _ h9 => h9) rfl dX12_worked_53 ?_
        refine lv_iload hx hb dX12_worked_56 (lv_at hl 0 rfl) ?_
        refine S_iald hx hb hK hW kd_72 (vin ((by first | (clear ha_p1 hP9 hn_17; omega) | omega)) ((by first | (clear ha_p1 hP9 hn_17; omega) | omega))) dX12_worked_58 (fun y_96 ey_96 => ?_)
        have u_97 : y_96.toInt = y_48.toInt := congrArg Int32.toInt (ey_96.trans (ey_48.symm))
        refine lv_if_ne (tgt := 72) hx hb dX12_worked_59 rfl (fun c_98 => ?_) (fun c_98 => ?_)
        · have c_98 : y_96.toInt ≠ 0 := xI_ne rfl rfl c_98
          refine lv_aload_n hx hb dX12_worked_72 rfl (lv_at hl 2 rfl) ?_
          refine lv_iload_n hx hb dX12_worked_73 rfl (lv_at hl 4 rfl) ?_
          refine lv_aload_n hx hb dX12_worked_74 rfl (lv_at hl 2 rfl) ?_
          refine S_getR (n := 73) (C := RX12) (T := TX12) (N := 89) hx hb hg iX12 hown hK hW kd_66 rfl 15 (lt_b rfl) (hg (Cond.fieldLink RX12 33 "SlabWalkModel" "arg" "[I") m1329) (fun _ h9 => h9) rfl dX12_worked_75 ?_
          refine lv_iload hx hb dX12_worked_78 (lv_at hl 0 rfl) ?_
          refine S_iald hx hb hK hW kd_73 (vin ((by first | (clear ha_p1 hP9 hn_17; omega) | omega)) ((by first | (clear ha_p1 hP9 hn_17; omega) | omega))) dX12_worked_80 (fun y_99 ey_99 => ?_)
          have u_100 : y_99.toInt = (G.1 73 x_8.toNatClampNeg).toInt := congrArg Int32.toInt (ey_99.trans ((hq_5.ri9 73 rfl x_8.toNatClampNeg)))
          refine S_calli (va_runV (As := [.int p1, .int y_99]) (rest := [.int x_9, .ref (a 76)]) ⟨hx, hb, hml, hown, hts⟩ (n_askOf l D k A a z G_4 p1 y_99 ⟨(by first | (clear ha_p0 hP9 hpr ty_1 u_2 u_3 hn_17 f_12 f_13 f_14 f_15 f_16 ty_18 ty_19 u_20 ty_21 c_22 u_25 u_26 c_27 u_49 c_50 u_97 c_98 u_100; omega) | omega), (by first | (clear ha_p0 hP9 hpr ty_1 u_2 u_3 hn_17 f_12 f_13 f_14 f_15 f_16 ty_18 ty_19 u_20 ty_21 c_22 u_25 u_26 c_27 u_49 c_50 u_97 c_98 u_100; omega) | omega)⟩) (cwV 2 hts (gd_V hgd m1811 m1813 m88 m131 m1814) rfl rfl rfl hd_X12_askOf ⟨Nat.le_of_ble_eq_true rfl, Nat.le_of_ble_eq_true rfl⟩) (pre_W hW hB_G_4 hK hZ hS kd_66 rfl) rfl rfl hl.1 rfl (lv_room (Nat.le_of_ble_eq_true rfl)) dX12_worked_81 ⟨Nat.le_of_ble_eq_true rfl, Nat.le_of_ble_eq_true rfl⟩) hS (fun r_101 G_102 H locs hpo hW hS => ?_)
          have hX_105 : Q_askOf p1 y_99 G_4 r_101 G_102 := hpo
          obtain ⟨hB_G_102, hq_103, -⟩ := hpo
          have hF := hF.call9 hq_103 rfl rfl
          refine S_iast hx hb hK hW hS kd_76 (vin ((by first | (clear ha_p1 hP9 hn_17; omega) | omega)) ((by first | (clear ha_p1 hP9 hn_17; omega) | omega))) dX12_worked_84 (fun G_106 H locs eG_106 hW hS => ?_)
          have hB_G_106 : Bd G_106 := hB_G_102.put (lo := (-2147483648)) (hi := 2147483647) eG_106 rfl rfl rfl (tI_rng _).1 (tI_rng _).2 (hB_G_102.2.put eG_106 rfl)
          have hF := hF.put eG_106 (Or.inl (by decide))
          obtain ⟨y_107, ey_107⟩ : ∃ q, q = x_9 + 1 := ⟨_, rfl⟩
          have ty_107 : y_107.toInt = x_9.toInt + 1 := xI_add rfl rfl ey_107 ((by first | (clear ha_p1 hP9 hn_17; omega) | omega)) ((by first | (clear ha_p1 hP9 hn_17; omega) | omega))
          refine lv_iinc (v := y_107) (lv' := [(3, .int y_107), (4, .int x_8), (0, .ref (a 66)), (1, .int p0), (2, .int p1)]) hx hb dX12_worked_85 hl (k := 1) rfl (by rw [ey_107]; rfl) (lt_b rfl) rfl (fun ls hl => ?_)
          refine lv_goto (tgt := 167) hx hb dX12_worked_88 rfl ?_
          obtain ⟨y_108, ey_108⟩ : ∃ q, q = x_8 + 1 := ⟨_, rfl⟩
          have ty_108 : y_108.toInt = x_8.toInt + 1 := xI_add rfl rfl ey_108 ((by first | (clear ha_p1 hP9 hn_17; omega) | omega)) ((by first | (clear ha_p1 hP9 hn_17; omega) | omega))
          refine lv_iinc (v := y_108) (lv' := [(4, .int y_108), (3, .int y_107), (0, .ref (a 66)), (1, .int p0), (2, .int p1)]) hx hb dX12_worked_167 hl (k := 1) rfl (by rw [ey_108]; rfl) (lt_b rfl) rfl (fun ls hl => ?_)
          have u_109 : dpK (G.1 72) (320 * p0.toInt) y_108.toInt = dpK (G.1 72) (320 * p0.toInt) (x_8.toInt + 1) := by rw [ty_108]
          refine lv_goto (tgt := 9) hx hb dX12_worked_170 rfl ?_
          exact ih_6 (1920 - y_108.toInt : Int).toNat (by omega) _ _ _ ⟨G_106, y_108, y_107, (Int.toNat_of_nonneg ((by first | (clear ha_p1 hP9 hn_17; omega) | omega))), ⟨(by first | (clear ha_p1 hP9 hn_17; omega) | omega), (by first | (clear ha_p1 hP9 hn_17; omega) | omega)⟩, ⟨(by first | (clear ha_p1 hP9 hn_17; omega) | omega), (by first | (clear ha_p1 hP9 hn_17; omega) | omega)⟩, ((by first | (clear ha_p1 hP9 hn_17; omega) | omega)), ((by first | (clear ha_p1 hP9 hn_17; omega) | omega)), ((by first | (clear ha_p1 hP9 hn_17; omega) | omega)), (hX_10.st (St_n_worked_1_mk ⟨x_8, x_9, G_4, y_108, y_107, G_106, rfl, rfl, f_12, f_13, f_14, f_15, f_16, hB_G_4, ⟨y_18, ty_18, ⟨y_19, ey_19, ⟨y_21, ty_21, ⟨c_22, ⟨y_24, ey_24, (Or.inr ⟨c_27, ⟨y_48, ey_48, (Or.inl ⟨c_50, ⟨y_96, ey_96, (Or.inr ⟨c_98, ⟨y_99, ey_99, ⟨r_101, G_102, hX_105, ⟨y_107, ty_107, ⟨y_108, ty_108, ⟨rfl, rfl, (Fr.put (rs := [76]) (fs := []) Fr.rf eG_106 (Or.inl (by decide))), rw_ast eG_106⟩⟩⟩⟩⟩⟩)⟩⟩)⟩⟩)⟩⟩⟩⟩⟩⟩)), hW, hB_G_106, hF, (Fr.put (rs := [76]) (fs := []) (Fr.call9 (rs := [76]) (fs := []) (Fr.call9 (rs := [76]) (fs := []) Fr.rf hq_5 rfl rfl) hq_103 rfl rfl) eG_106 (Or.inl (by decide))), hS, lv_sub hl [0, 1, 2, 3, 4] rfl⟩
        · have c_98 : y_96.toInt = 0 := xI_eq rfl rfl c_98
          refine lv_aload_n hx hb dX12_worked_62 rfl (lv_at hl 2 rfl) ?_
          refine S_getR (n := 73) (C := RX12) (T := TX12) (N := 89) hx hb hg iX12 hown hK hW kd_66 rfl 15 (lt_b rfl) (hg (Cond.fieldLink RX12 33 "SlabWalkModel" "arg" "[I") m1329) (fun _ h9 => h9) rfl dX12_worked_63 ?_
          refine lv_iload hx hb dX12_worked_66 (lv_at hl 0 rfl) ?_
          refine S_iald hx hb hK hW kd_73 (vin ((by first | (clear ha_p1 hP9 hn_17; omega) | omega)) ((by first | (clear ha_p1 hP9 hn_17; omega) | omega))) dX12_worked_68 (fun y_110 ey_110 => ?_)
          have u_111 : y_110.toInt = (G.1 73 x_8.toNatClampNeg).toInt := congrArg Int32.toInt (ey_110.trans ((hq_5.ri9 73 rfl x_8.toNatClampNeg)))
          refine lv_goto (tgt := 84) hx hb dX12_worked_69 rfl ?_
          refine S_iast hx hb hK hW hS kd_76 (vin ((by first | (clear ha_p1 hP9 hn_17; omega) | omega)) ((by first | (clear ha_p1 hP9 hn_17; omega) | omega))) dX12_worked_84 (fun G_112 H locs eG_112 hW hS => ?_)
          have hB_G_112 : Bd G_112 := hB_G_4.put (lo := (-2147483648)) (hi := 2147483647) eG_112 rfl rfl rfl (tI_rng _).1 (tI_rng _).2 (hB_G_4.2.put eG_112 rfl)
          have hF := hF.put eG_112 (Or.inl (by decide))
          obtain ⟨y_113, ey_113⟩ : ∃ q, q = x_9 + 1 := ⟨_, rfl⟩
          have ty_113 : y_113.toInt = x_9.toInt + 1 := xI_add rfl rfl ey_113 ((by first | (clear ha_p1 hP9 hn_17; omega) | omega)) ((by first | (clear ha_p1 hP9 hn_17; omega) | omega))
          refine lv_iinc (v := y_113) (lv' := [(3, .int y_113), (4, .int x_8), (0, .ref (a 66)), (1, .int p0), (2, .int p1)]) hx hb dX12_worked_85 hl (k := 1) rfl (by rw [ey_113]; rfl) (lt_b rfl) rfl (fun ls hl => ?_)
          refine lv_goto (tgt := 167) hx hb dX12_worked_88 rfl ?_
          obtain ⟨y_114, ey_114⟩ : ∃ q, q = x_8 + 1 := ⟨_, rfl⟩
          have ty_114 : y_114.toInt = x_8.toInt + 1 := xI_add rfl rfl ey_114 ((by first | (clear ha_p1 hP9 hn_17; omega) | omega)) ((by first | (clear ha_p1 hP9 hn_17; omega) | omega))
          refine lv_iinc (v := y_114) (lv' := [(4, .int y_114), (3, .int y_113), (0, .ref (a 66)), (1, .int p0), (2, .int p1)]) hx hb dX12_worked_167 hl (k := 1) rfl (by rw [ey_114]; rfl) (lt_b rfl) rfl (fun ls hl => ?_)
          have u_115 : dpK (G.1 72) (320 * p0.toInt) y_114.toInt = dpK (G.1 72) (320 * p0.toInt) (x_8.toInt + 1) := by rw [ty_114]
          refine lv_goto (tgt := 9) hx hb dX12_worked_170 rfl ?_
          exact ih_6 (1920 - y_114.toInt : Int).toNat (by omega) _ _ _ ⟨G_112, y_114, y_113, (Int.toNat_of_nonneg ((by first | (clear ha_p1 hP9 hn_17; omega) | omega))), ⟨(by first | (clear ha_p1 hP9 hn_17; omega) | omega), (by first | (clear ha_p1 hP9 hn_17; omega) | omega)⟩, ⟨(by first | (clear ha_p1 hP9 hn_17; omega) | omega), (by first | (clear ha_p1 hP9 hn_17; omega) | omega)⟩, ((by first | (clear ha_p1 hP9 hn_17; omega) | omega)), ((by first | (clear ha_p1 hP9 hn_17; omega) | omega)), ((by first | (clear ha_p1 hP9 hn_17; omega) | omega)), (hX_10.st (St_n_worked_1_mk ⟨x_8, x_9, G_4, y_114, y_113, G_112, rfl, rfl, f_12, f_13, f_14, f_15, f_16, hB_G_4, ⟨y_18, ty_18, ⟨y_19, ey_19, ⟨y_21, ty_21, ⟨c_22, ⟨y_24, ey_24, (Or.inr ⟨c_27, ⟨y_48, ey_48, (Or.inl ⟨c_50, ⟨y_96, ey_96, (Or.inl ⟨c_98, ⟨y_110, ey_110, ⟨y_113, ty_113, ⟨y_114, ty_114, ⟨rfl, rfl, (Fr.put (rs := [76]) (fs := []) Fr.rf eG_112 (Or.inl (by decide))), rw_ast eG_112⟩⟩⟩⟩⟩)⟩⟩)⟩⟩)⟩⟩⟩⟩⟩⟩)), hW, hB_G_112, hF, (Fr.put (rs := [76]) (fs := []) (Fr.call9 (rs := [76]) (fs := []) Fr.rf hq_5 rfl rfl) eG_112 (Or.inl (by decide))), hS, lv_sub hl [0, 1, 2, 3, 4] rfl⟩
