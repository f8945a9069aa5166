theorem m95 : Cond.selects RX12 yX12_isEnd yX12_isEnd ∈ gd := gds_6 15 rfl
theorem m101 : Cond.selects RX12 yX12_isHeld yX12_isHeld ∈ gd := gds_7 5 rfl
theorem m1383 : Cond.fieldLink RX12 130 "SlabWalkModel" "comes" "[Z" ∈ gd := gdc_6_4 3 rfl gw_fieldLink
theorem m1384 : Cond.fieldLink RX12 133 "SlabWalkModel" "leapt" "[I" ∈ gd := gdc_6_4 4 rfl gw_fieldLink
theorem m1385 : Cond.fieldLink RX12 136 "SlabWalkModel" "leaptNext" "[I" ∈ gd := gdc_6_4 5 rfl gw_fieldLink
theorem m1854 : Cond.methodLink RX12 499 yX12_isEnd ∈ gd := gdc_8_3 10 rfl gw_methodLink
theorem m1856 : Cond.instanceMethod yX12_isEnd ∈ gd := gdc_8_3 12 rfl gw_instanceMethod
theorem m1857 : Cond.code yX12_isEnd cX12_isEnd 2 (some .boolean) ∈ gd := gdc_8_3 13 rfl gw_code
theorem m1863 : Cond.methodLink RX12 506 yX12_lesser ∈ gd := gdc_8_4 3 rfl gw_methodLink
theorem m1864 : Cond.static yX12_lesser ∈ gd := gdc_8_4 4 rfl gw_static
theorem m1865 : Cond.code yX12_lesser cX12_lesser 2 (some .int) ∈ gd := gdc_8_4 5 rfl gw_code
theorem m1931 : Cond.methodLink RX12 547 yX12_isHeld ∈ gd := gdc_8_8 7 rfl gw_methodLink
theorem m1933 : Cond.instanceMethod yX12_isHeld ∈ gd := gdc_8_8 9 rfl gw_instanceMethod
theorem m1934 : Cond.code yX12_isHeld cX12_isHeld 3 (some .boolean) ∈ gd := gdc_8_8 10 rfl gw_code
def rbX12_isEven_0 : List (Nat × List Nat) := [(0, [3]), (1, [62]), (2, [17, 1, 143]), (5, [54, 4]), (7, [21, 4]), (9, [155, 0, 160]), (12, [42]), (13, [180, 0, 130]), (16, [21, 4]), (18, [42]), (19, [180, 0, 115]), (22, [21, 4]), (24, [51]), (25, [153, 0, 16]), (28, [42]), (29, [21, 4]), (31, [182, 1, 243]), (34, [153, 0, 7]), (37, [4]), (38, [167, 0, 4]), (41, [3]), (42, [84]), (43, [27]), (44, [54, 5])]
theorem rcX12_isEven_0 : dgo (lb cX12_isEven) 0 rbX12_isEven_0 = true := by decide +kernel
theorem dX12_isEven_0 : decode cX12_isEven 0 = .ok (.iconst 0, 1) := dk_3 (dw rcX12_isEven_0 0 rfl)
theorem dX12_isEven_1 : decode cX12_isEven 1 = .ok (.istore_n 3, 1) := dk_62 (dw rcX12_isEven_0 1 rfl)
theorem dX12_isEven_2 : decode cX12_isEven 2 = .ok (.sipush 399, 3) := dk_17 (dw rcX12_isEven_0 2 rfl) rfl
theorem dX12_isEven_5 : decode cX12_isEven 5 = .ok (.istore 4, 2) := dk_54 (dw rcX12_isEven_0 3 rfl)
theorem dX12_isEven_7 : decode cX12_isEven 7 = .ok (.iload 4, 2) := dk_21 (dw rcX12_isEven_0 4 rfl)
theorem dX12_isEven_9 : decode cX12_isEven 9 = .ok (.ifCond .lt 160, 3) := dk_155 (dw rcX12_isEven_0 5 rfl) rfl
theorem dX12_isEven_12 : decode cX12_isEven 12 = .ok (.aload_n 0, 1) := dk_42 (dw rcX12_isEven_0 6 rfl)
theorem dX12_isEven_13 : decode cX12_isEven 13 = .ok (.getfield 130, 3) := dk_180 (dw rcX12_isEven_0 7 rfl) rfl
theorem dX12_isEven_16 : decode cX12_isEven 16 = .ok (.iload 4, 2) := dk_21 (dw rcX12_isEven_0 8 rfl)
theorem dX12_isEven_18 : decode cX12_isEven 18 = .ok (.aload_n 0, 1) := dk_42 (dw rcX12_isEven_0 9 rfl)
theorem dX12_isEven_19 : decode cX12_isEven 19 = .ok (.getfield 115, 3) := dk_180 (dw rcX12_isEven_0 10 rfl) rfl
theorem dX12_isEven_22 : decode cX12_isEven 22 = .ok (.iload 4, 2) := dk_21 (dw rcX12_isEven_0 11 rfl)
theorem dX12_isEven_24 : decode cX12_isEven 24 = .ok (.baload, 1) := dk_51 (dw rcX12_isEven_0 12 rfl)
theorem dX12_isEven_25 : decode cX12_isEven 25 = .ok (.ifCond .eq 16, 3) := dk_153 (dw rcX12_isEven_0 13 rfl) rfl
theorem dX12_isEven_28 : decode cX12_isEven 28 = .ok (.aload_n 0, 1) := dk_42 (dw rcX12_isEven_0 14 rfl)
theorem dX12_isEven_29 : decode cX12_isEven 29 = .ok (.iload 4, 2) := dk_21 (dw rcX12_isEven_0 15 rfl)
theorem dX12_isEven_31 : decode cX12_isEven 31 = .ok (.invokevirtual 499, 3) := dk_182 (dw rcX12_isEven_0 16 rfl) rfl
theorem dX12_isEven_34 : decode cX12_isEven 34 = .ok (.ifCond .eq 7, 3) := dk_153 (dw rcX12_isEven_0 17 rfl) rfl
theorem dX12_isEven_37 : decode cX12_isEven 37 = .ok (.iconst 1, 1) := dk_4 (dw rcX12_isEven_0 18 rfl)
theorem dX12_isEven_38 : decode cX12_isEven 38 = .ok (.goto 4, 3) := dk_167 (dw rcX12_isEven_0 19 rfl) rfl
theorem dX12_isEven_41 : decode cX12_isEven 41 = .ok (.iconst 0, 1) := dk_3 (dw rcX12_isEven_0 20 rfl)
theorem dX12_isEven_42 : decode cX12_isEven 42 = .ok (.bastore, 1) := dk_84 (dw rcX12_isEven_0 21 rfl)
theorem dX12_isEven_43 : decode cX12_isEven 43 = .ok (.iload_n 1, 1) := dk_27 (dw rcX12_isEven_0 22 rfl)
theorem dX12_isEven_44 : decode cX12_isEven 44 = .ok (.istore 5, 2) := dk_54 (dw rcX12_isEven_0 23 rfl)
def rbX12_isEven_46 : List (Nat × List Nat) := [(46, [21, 5]), (48, [28]), (49, [163, 0, 76]), (52, [42]), (53, [180, 0, 115]), (56, [21, 4]), (58, [51]), (59, [153, 0, 66]), (62, [42]), (63, [21, 4]), (65, [182, 1, 243]), (68, [154, 0, 57]), (71, [42]), (72, [180, 0, 130]), (75, [21, 4]), (77, [51]), (78, [154, 0, 47]), (81, [42]), (82, [180, 0, 130]), (85, [21, 4]), (87, [42]), (88, [180, 0, 115]), (91, [21, 4]), (93, [21, 5])]
theorem rcX12_isEven_46 : dgo (lb cX12_isEven) 0 rbX12_isEven_46 = true := by decide +kernel
theorem dX12_isEven_46 : decode cX12_isEven 46 = .ok (.iload 5, 2) := dk_21 (dw rcX12_isEven_46 0 rfl)
theorem dX12_isEven_48 : decode cX12_isEven 48 = .ok (.iload_n 2, 1) := dk_28 (dw rcX12_isEven_46 1 rfl)
theorem dX12_isEven_49 : decode cX12_isEven 49 = .ok (.if_icmp .gt 76, 3) := dk_163 (dw rcX12_isEven_46 2 rfl) rfl
theorem dX12_isEven_52 : decode cX12_isEven 52 = .ok (.aload_n 0, 1) := dk_42 (dw rcX12_isEven_46 3 rfl)
theorem dX12_isEven_53 : decode cX12_isEven 53 = .ok (.getfield 115, 3) := dk_180 (dw rcX12_isEven_46 4 rfl) rfl
theorem dX12_isEven_56 : decode cX12_isEven 56 = .ok (.iload 4, 2) := dk_21 (dw rcX12_isEven_46 5 rfl)
theorem dX12_isEven_58 : decode cX12_isEven 58 = .ok (.baload, 1) := dk_51 (dw rcX12_isEven_46 6 rfl)
theorem dX12_isEven_59 : decode cX12_isEven 59 = .ok (.ifCond .eq 66, 3) := dk_153 (dw rcX12_isEven_46 7 rfl) rfl
theorem dX12_isEven_62 : decode cX12_isEven 62 = .ok (.aload_n 0, 1) := dk_42 (dw rcX12_isEven_46 8 rfl)
theorem dX12_isEven_63 : decode cX12_isEven 63 = .ok (.iload 4, 2) := dk_21 (dw rcX12_isEven_46 9 rfl)
theorem dX12_isEven_65 : decode cX12_isEven 65 = .ok (.invokevirtual 499, 3) := dk_182 (dw rcX12_isEven_46 10 rfl) rfl
theorem dX12_isEven_68 : decode cX12_isEven 68 = .ok (.ifCond .ne 57, 3) := dk_154 (dw rcX12_isEven_46 11 rfl) rfl
theorem dX12_isEven_71 : decode cX12_isEven 71 = .ok (.aload_n 0, 1) := dk_42 (dw rcX12_isEven_46 12 rfl)
theorem dX12_isEven_72 : decode cX12_isEven 72 = .ok (.getfield 130, 3) := dk_180 (dw rcX12_isEven_46 13 rfl) rfl
theorem dX12_isEven_75 : decode cX12_isEven 75 = .ok (.iload 4, 2) := dk_21 (dw rcX12_isEven_46 14 rfl)
theorem dX12_isEven_77 : decode cX12_isEven 77 = .ok (.baload, 1) := dk_51 (dw rcX12_isEven_46 15 rfl)
theorem dX12_isEven_78 : decode cX12_isEven 78 = .ok (.ifCond .ne 47, 3) := dk_154 (dw rcX12_isEven_46 16 rfl) rfl
theorem dX12_isEven_81 : decode cX12_isEven 81 = .ok (.aload_n 0, 1) := dk_42 (dw rcX12_isEven_46 17 rfl)
theorem dX12_isEven_82 : decode cX12_isEven 82 = .ok (.getfield 130, 3) := dk_180 (dw rcX12_isEven_46 18 rfl) rfl
theorem dX12_isEven_85 : decode cX12_isEven 85 = .ok (.iload 4, 2) := dk_21 (dw rcX12_isEven_46 19 rfl)
theorem dX12_isEven_87 : decode cX12_isEven 87 = .ok (.aload_n 0, 1) := dk_42 (dw rcX12_isEven_46 20 rfl)
theorem dX12_isEven_88 : decode cX12_isEven 88 = .ok (.getfield 115, 3) := dk_180 (dw rcX12_isEven_46 21 rfl) rfl
theorem dX12_isEven_91 : decode cX12_isEven 91 = .ok (.iload 4, 2) := dk_21 (dw rcX12_isEven_46 22 rfl)
theorem dX12_isEven_93 : decode cX12_isEven 93 = .ok (.iload 5, 2) := dk_21 (dw rcX12_isEven_46 23 rfl)
def rbX12_isEven_95 : List (Nat × List Nat) := [(95, [96]), (96, [51]), (97, [153, 0, 20]), (100, [42]), (101, [180, 0, 130]), (104, [21, 4]), (106, [21, 5]), (108, [96]), (109, [51]), (110, [153, 0, 7]), (113, [4]), (114, [167, 0, 4]), (117, [3]), (118, [84]), (119, [132, 5, 1]), (122, [167, 255, 180]), (125, [29]), (126, [154, 0, 31]), (129, [21, 4]), (131, [42]), (132, [180, 1, 222]), (135, [162, 0, 26]), (138, [42]), (139, [180, 0, 130])]
theorem rcX12_isEven_95 : dgo (lb cX12_isEven) 0 rbX12_isEven_95 = true := by decide +kernel
theorem dX12_isEven_95 : decode cX12_isEven 95 = .ok (.iadd, 1) := dk_96 (dw rcX12_isEven_95 0 rfl)
theorem dX12_isEven_96 : decode cX12_isEven 96 = .ok (.baload, 1) := dk_51 (dw rcX12_isEven_95 1 rfl)
theorem dX12_isEven_97 : decode cX12_isEven 97 = .ok (.ifCond .eq 20, 3) := dk_153 (dw rcX12_isEven_95 2 rfl) rfl
theorem dX12_isEven_100 : decode cX12_isEven 100 = .ok (.aload_n 0, 1) := dk_42 (dw rcX12_isEven_95 3 rfl)
theorem dX12_isEven_101 : decode cX12_isEven 101 = .ok (.getfield 130, 3) := dk_180 (dw rcX12_isEven_95 4 rfl) rfl
theorem dX12_isEven_104 : decode cX12_isEven 104 = .ok (.iload 4, 2) := dk_21 (dw rcX12_isEven_95 5 rfl)
theorem dX12_isEven_106 : decode cX12_isEven 106 = .ok (.iload 5, 2) := dk_21 (dw rcX12_isEven_95 6 rfl)
theorem dX12_isEven_108 : decode cX12_isEven 108 = .ok (.iadd, 1) := dk_96 (dw rcX12_isEven_95 7 rfl)
theorem dX12_isEven_109 : decode cX12_isEven 109 = .ok (.baload, 1) := dk_51 (dw rcX12_isEven_95 8 rfl)
theorem dX12_isEven_110 : decode cX12_isEven 110 = .ok (.ifCond .eq 7, 3) := dk_153 (dw rcX12_isEven_95 9 rfl) rfl
theorem dX12_isEven_113 : decode cX12_isEven 113 = .ok (.iconst 1, 1) := dk_4 (dw rcX12_isEven_95 10 rfl)
theorem dX12_isEven_114 : decode cX12_isEven 114 = .ok (.goto 4, 3) := dk_167 (dw rcX12_isEven_95 11 rfl) rfl
theorem dX12_isEven_117 : decode cX12_isEven 117 = .ok (.iconst 0, 1) := dk_3 (dw rcX12_isEven_95 12 rfl)
theorem dX12_isEven_118 : decode cX12_isEven 118 = .ok (.bastore, 1) := dk_84 (dw rcX12_isEven_95 13 rfl)
theorem dX12_isEven_119 : decode cX12_isEven 119 = .ok (.iinc 5 1, 3) := dk_132 (dw rcX12_isEven_95 14 rfl) rfl
theorem dX12_isEven_122 : decode cX12_isEven 122 = .ok (.goto (-76), 3) := dk_167 (dw rcX12_isEven_95 15 rfl) rfl
theorem dX12_isEven_125 : decode cX12_isEven 125 = .ok (.iload_n 3, 1) := dk_29 (dw rcX12_isEven_95 16 rfl)
theorem dX12_isEven_126 : decode cX12_isEven 126 = .ok (.ifCond .ne 31, 3) := dk_154 (dw rcX12_isEven_95 17 rfl) rfl
theorem dX12_isEven_129 : decode cX12_isEven 129 = .ok (.iload 4, 2) := dk_21 (dw rcX12_isEven_95 18 rfl)
theorem dX12_isEven_131 : decode cX12_isEven 131 = .ok (.aload_n 0, 1) := dk_42 (dw rcX12_isEven_95 19 rfl)
theorem dX12_isEven_132 : decode cX12_isEven 132 = .ok (.getfield 478, 3) := dk_180 (dw rcX12_isEven_95 20 rfl) rfl
theorem dX12_isEven_135 : decode cX12_isEven 135 = .ok (.if_icmp .ge 26, 3) := dk_162 (dw rcX12_isEven_95 21 rfl) rfl
theorem dX12_isEven_138 : decode cX12_isEven 138 = .ok (.aload_n 0, 1) := dk_42 (dw rcX12_isEven_95 22 rfl)
theorem dX12_isEven_139 : decode cX12_isEven 139 = .ok (.getfield 130, 3) := dk_180 (dw rcX12_isEven_95 23 rfl) rfl
def rbX12_isEven_142 : List (Nat × List Nat) := [(142, [21, 4]), (144, [51]), (145, [153, 0, 16]), (148, [42]), (149, [21, 4]), (151, [182, 1, 243]), (154, [154, 0, 7]), (157, [4]), (158, [167, 0, 4]), (161, [3]), (162, [62]), (163, [132, 4, 255]), (166, [167, 255, 97]), (169, [29]), (170, [172])]
theorem rcX12_isEven_142 : dgo (lb cX12_isEven) 0 rbX12_isEven_142 = true := by decide +kernel
theorem dX12_isEven_142 : decode cX12_isEven 142 = .ok (.iload 4, 2) := dk_21 (dw rcX12_isEven_142 0 rfl)
theorem dX12_isEven_144 : decode cX12_isEven 144 = .ok (.baload, 1) := dk_51 (dw rcX12_isEven_142 1 rfl)
theorem dX12_isEven_145 : decode cX12_isEven 145 = .ok (.ifCond .eq 16, 3) := dk_153 (dw rcX12_isEven_142 2 rfl) rfl
theorem dX12_isEven_148 : decode cX12_isEven 148 = .ok (.aload_n 0, 1) := dk_42 (dw rcX12_isEven_142 3 rfl)
theorem dX12_isEven_149 : decode cX12_isEven 149 = .ok (.iload 4, 2) := dk_21 (dw rcX12_isEven_142 4 rfl)
theorem dX12_isEven_151 : decode cX12_isEven 151 = .ok (.invokevirtual 499, 3) := dk_182 (dw rcX12_isEven_142 5 rfl) rfl
theorem dX12_isEven_154 : decode cX12_isEven 154 = .ok (.ifCond .ne 7, 3) := dk_154 (dw rcX12_isEven_142 6 rfl) rfl
theorem dX12_isEven_157 : decode cX12_isEven 157 = .ok (.iconst 1, 1) := dk_4 (dw rcX12_isEven_142 7 rfl)
theorem dX12_isEven_158 : decode cX12_isEven 158 = .ok (.goto 4, 3) := dk_167 (dw rcX12_isEven_142 8 rfl) rfl
theorem dX12_isEven_161 : decode cX12_isEven 161 = .ok (.iconst 0, 1) := dk_3 (dw rcX12_isEven_142 9 rfl)
theorem dX12_isEven_162 : decode cX12_isEven 162 = .ok (.istore_n 3, 1) := dk_62 (dw rcX12_isEven_142 10 rfl)
theorem dX12_isEven_163 : decode cX12_isEven 163 = .ok (.iinc 4 (-1), 3) := dk_132 (dw rcX12_isEven_142 11 rfl) rfl
theorem dX12_isEven_166 : decode cX12_isEven 166 = .ok (.goto (-159), 3) := dk_167 (dw rcX12_isEven_142 12 rfl) rfl
theorem dX12_isEven_169 : decode cX12_isEven 169 = .ok (.iload_n 3, 1) := dk_29 (dw rcX12_isEven_142 13 rfl)
theorem dX12_isEven_170 : decode cX12_isEven 170 = .ok (.ireturn, 1) := dk_172 (dw rcX12_isEven_142 14 rfl)
def rbX12_keepOn_0 : List (Nat × List Nat) := [(0, [27]), (1, [5]), (2, [108]), (3, [62]), (4, [42]), (5, [180, 1, 219]), (8, [54, 4]), (10, [21, 4]), (12, [27]), (13, [5]), (14, [112]), (15, [4]), (16, [160, 0, 10]), (19, [42]), (20, [180, 1, 222]), (23, [167, 0, 7]), (26, [42]), (27, [180, 1, 225]), (30, [163, 0, 103]), (33, [42]), (34, [180, 0, 115]), (37, [29]), (38, [21, 4]), (40, [96])]
theorem rcX12_keepOn_0 : dgo (lb cX12_keepOn) 0 rbX12_keepOn_0 = true := by decide +kernel
theorem dX12_keepOn_0 : decode cX12_keepOn 0 = .ok (.iload_n 1, 1) := dk_27 (dw rcX12_keepOn_0 0 rfl)
theorem dX12_keepOn_1 : decode cX12_keepOn 1 = .ok (.iconst 2, 1) := dk_5 (dw rcX12_keepOn_0 1 rfl)
theorem dX12_keepOn_2 : decode cX12_keepOn 2 = .ok (.idiv, 1) := dk_108 (dw rcX12_keepOn_0 2 rfl)
theorem dX12_keepOn_3 : decode cX12_keepOn 3 = .ok (.istore_n 3, 1) := dk_62 (dw rcX12_keepOn_0 3 rfl)
theorem dX12_keepOn_4 : decode cX12_keepOn 4 = .ok (.aload_n 0, 1) := dk_42 (dw rcX12_keepOn_0 4 rfl)
theorem dX12_keepOn_5 : decode cX12_keepOn 5 = .ok (.getfield 475, 3) := dk_180 (dw rcX12_keepOn_0 5 rfl) rfl
theorem dX12_keepOn_8 : decode cX12_keepOn 8 = .ok (.istore 4, 2) := dk_54 (dw rcX12_keepOn_0 6 rfl)
theorem dX12_keepOn_10 : decode cX12_keepOn 10 = .ok (.iload 4, 2) := dk_21 (dw rcX12_keepOn_0 7 rfl)
theorem dX12_keepOn_12 : decode cX12_keepOn 12 = .ok (.iload_n 1, 1) := dk_27 (dw rcX12_keepOn_0 8 rfl)
theorem dX12_keepOn_13 : decode cX12_keepOn 13 = .ok (.iconst 2, 1) := dk_5 (dw rcX12_keepOn_0 9 rfl)
theorem dX12_keepOn_14 : decode cX12_keepOn 14 = .ok (.irem, 1) := dk_112 (dw rcX12_keepOn_0 10 rfl)
theorem dX12_keepOn_15 : decode cX12_keepOn 15 = .ok (.iconst 1, 1) := dk_4 (dw rcX12_keepOn_0 11 rfl)
theorem dX12_keepOn_16 : decode cX12_keepOn 16 = .ok (.if_icmp .ne 10, 3) := dk_160 (dw rcX12_keepOn_0 12 rfl) rfl
theorem dX12_keepOn_19 : decode cX12_keepOn 19 = .ok (.aload_n 0, 1) := dk_42 (dw rcX12_keepOn_0 13 rfl)
theorem dX12_keepOn_20 : decode cX12_keepOn 20 = .ok (.getfield 478, 3) := dk_180 (dw rcX12_keepOn_0 14 rfl) rfl
theorem dX12_keepOn_23 : decode cX12_keepOn 23 = .ok (.goto 7, 3) := dk_167 (dw rcX12_keepOn_0 15 rfl) rfl
theorem dX12_keepOn_26 : decode cX12_keepOn 26 = .ok (.aload_n 0, 1) := dk_42 (dw rcX12_keepOn_0 16 rfl)
theorem dX12_keepOn_27 : decode cX12_keepOn 27 = .ok (.getfield 481, 3) := dk_180 (dw rcX12_keepOn_0 17 rfl) rfl
theorem dX12_keepOn_30 : decode cX12_keepOn 30 = .ok (.if_icmp .gt 103, 3) := dk_163 (dw rcX12_keepOn_0 18 rfl) rfl
theorem dX12_keepOn_33 : decode cX12_keepOn 33 = .ok (.aload_n 0, 1) := dk_42 (dw rcX12_keepOn_0 19 rfl)
theorem dX12_keepOn_34 : decode cX12_keepOn 34 = .ok (.getfield 115, 3) := dk_180 (dw rcX12_keepOn_0 20 rfl) rfl
theorem dX12_keepOn_37 : decode cX12_keepOn 37 = .ok (.iload_n 3, 1) := dk_29 (dw rcX12_keepOn_0 21 rfl)
theorem dX12_keepOn_38 : decode cX12_keepOn 38 = .ok (.iload 4, 2) := dk_21 (dw rcX12_keepOn_0 22 rfl)
theorem dX12_keepOn_40 : decode cX12_keepOn 40 = .ok (.iadd, 1) := dk_96 (dw rcX12_keepOn_0 23 rfl)
def rbX12_keepOn_41 : List (Nat × List Nat) := [(41, [51]), (42, [153, 0, 85]), (45, [42]), (46, [29]), (47, [21, 4]), (49, [96]), (50, [28]), (51, [182, 2, 35]), (54, [154, 0, 6]), (57, [167, 0, 70]), (60, [5]), (61, [29]), (62, [21, 4]), (64, [96]), (65, [104]), (66, [21, 4]), (68, [42]), (69, [180, 1, 222]), (72, [164, 0, 7]), (75, [4]), (76, [167, 0, 4]), (79, [3]), (80, [184, 1, 92]), (83, [96])]
theorem rcX12_keepOn_41 : dgo (lb cX12_keepOn) 0 rbX12_keepOn_41 = true := by decide +kernel
theorem dX12_keepOn_41 : decode cX12_keepOn 41 = .ok (.baload, 1) := dk_51 (dw rcX12_keepOn_41 0 rfl)
theorem dX12_keepOn_42 : decode cX12_keepOn 42 = .ok (.ifCond .eq 85, 3) := dk_153 (dw rcX12_keepOn_41 1 rfl) rfl
theorem dX12_keepOn_45 : decode cX12_keepOn 45 = .ok (.aload_n 0, 1) := dk_42 (dw rcX12_keepOn_41 2 rfl)
theorem dX12_keepOn_46 : decode cX12_keepOn 46 = .ok (.iload_n 3, 1) := dk_29 (dw rcX12_keepOn_41 3 rfl)
theorem dX12_keepOn_47 : decode cX12_keepOn 47 = .ok (.iload 4, 2) := dk_21 (dw rcX12_keepOn_41 4 rfl)
theorem dX12_keepOn_49 : decode cX12_keepOn 49 = .ok (.iadd, 1) := dk_96 (dw rcX12_keepOn_41 5 rfl)
theorem dX12_keepOn_50 : decode cX12_keepOn 50 = .ok (.iload_n 2, 1) := dk_28 (dw rcX12_keepOn_41 6 rfl)
theorem dX12_keepOn_51 : decode cX12_keepOn 51 = .ok (.invokevirtual 547, 3) := dk_182 (dw rcX12_keepOn_41 7 rfl) rfl
theorem dX12_keepOn_54 : decode cX12_keepOn 54 = .ok (.ifCond .ne 6, 3) := dk_154 (dw rcX12_keepOn_41 8 rfl) rfl
theorem dX12_keepOn_57 : decode cX12_keepOn 57 = .ok (.goto 70, 3) := dk_167 (dw rcX12_keepOn_41 9 rfl) rfl
theorem dX12_keepOn_60 : decode cX12_keepOn 60 = .ok (.iconst 2, 1) := dk_5 (dw rcX12_keepOn_41 10 rfl)
theorem dX12_keepOn_61 : decode cX12_keepOn 61 = .ok (.iload_n 3, 1) := dk_29 (dw rcX12_keepOn_41 11 rfl)
theorem dX12_keepOn_62 : decode cX12_keepOn 62 = .ok (.iload 4, 2) := dk_21 (dw rcX12_keepOn_41 12 rfl)
theorem dX12_keepOn_64 : decode cX12_keepOn 64 = .ok (.iadd, 1) := dk_96 (dw rcX12_keepOn_41 13 rfl)
theorem dX12_keepOn_65 : decode cX12_keepOn 65 = .ok (.imul, 1) := dk_104 (dw rcX12_keepOn_41 14 rfl)
theorem dX12_keepOn_66 : decode cX12_keepOn 66 = .ok (.iload 4, 2) := dk_21 (dw rcX12_keepOn_41 15 rfl)
theorem dX12_keepOn_68 : decode cX12_keepOn 68 = .ok (.aload_n 0, 1) := dk_42 (dw rcX12_keepOn_41 16 rfl)
theorem dX12_keepOn_69 : decode cX12_keepOn 69 = .ok (.getfield 478, 3) := dk_180 (dw rcX12_keepOn_41 17 rfl) rfl
theorem dX12_keepOn_72 : decode cX12_keepOn 72 = .ok (.if_icmp .le 7, 3) := dk_164 (dw rcX12_keepOn_41 18 rfl) rfl
theorem dX12_keepOn_75 : decode cX12_keepOn 75 = .ok (.iconst 1, 1) := dk_4 (dw rcX12_keepOn_41 19 rfl)
theorem dX12_keepOn_76 : decode cX12_keepOn 76 = .ok (.goto 4, 3) := dk_167 (dw rcX12_keepOn_41 20 rfl) rfl
theorem dX12_keepOn_79 : decode cX12_keepOn 79 = .ok (.iconst 0, 1) := dk_3 (dw rcX12_keepOn_41 21 rfl)
theorem dX12_keepOn_80 : decode cX12_keepOn 80 = .ok (.invokestatic 348, 3) := dk_184 (dw rcX12_keepOn_41 22 rfl) rfl
theorem dX12_keepOn_83 : decode cX12_keepOn 83 = .ok (.iadd, 1) := dk_96 (dw rcX12_keepOn_41 23 rfl)
def rbX12_keepOn_84 : List (Nat × List Nat) := [(84, [54, 5]), (86, [42]), (87, [180, 0, 136]), (90, [21, 5]), (92, [42]), (93, [180, 0, 136]), (96, [21, 5]), (98, [46]), (99, [42]), (100, [180, 0, 133]), (103, [27]), (104, [46]), (105, [21, 4]), (107, [42]), (108, [180, 1, 222]), (111, [164, 0, 7]), (114, [4]), (115, [167, 0, 4]), (118, [3]), (119, [184, 1, 92]), (122, [96]), (123, [184, 1, 250]), (126, [79]), (127, [132, 4, 1])]
theorem rcX12_keepOn_84 : dgo (lb cX12_keepOn) 0 rbX12_keepOn_84 = true := by decide +kernel
theorem dX12_keepOn_84 : decode cX12_keepOn 84 = .ok (.istore 5, 2) := dk_54 (dw rcX12_keepOn_84 0 rfl)
theorem dX12_keepOn_86 : decode cX12_keepOn 86 = .ok (.aload_n 0, 1) := dk_42 (dw rcX12_keepOn_84 1 rfl)
theorem dX12_keepOn_87 : decode cX12_keepOn 87 = .ok (.getfield 136, 3) := dk_180 (dw rcX12_keepOn_84 2 rfl) rfl
theorem dX12_keepOn_90 : decode cX12_keepOn 90 = .ok (.iload 5, 2) := dk_21 (dw rcX12_keepOn_84 3 rfl)
theorem dX12_keepOn_92 : decode cX12_keepOn 92 = .ok (.aload_n 0, 1) := dk_42 (dw rcX12_keepOn_84 4 rfl)
theorem dX12_keepOn_93 : decode cX12_keepOn 93 = .ok (.getfield 136, 3) := dk_180 (dw rcX12_keepOn_84 5 rfl) rfl
theorem dX12_keepOn_96 : decode cX12_keepOn 96 = .ok (.iload 5, 2) := dk_21 (dw rcX12_keepOn_84 6 rfl)
theorem dX12_keepOn_98 : decode cX12_keepOn 98 = .ok (.iaload, 1) := dk_46 (dw rcX12_keepOn_84 7 rfl)
theorem dX12_keepOn_99 : decode cX12_keepOn 99 = .ok (.aload_n 0, 1) := dk_42 (dw rcX12_keepOn_84 8 rfl)
theorem dX12_keepOn_100 : decode cX12_keepOn 100 = .ok (.getfield 133, 3) := dk_180 (dw rcX12_keepOn_84 9 rfl) rfl
theorem dX12_keepOn_103 : decode cX12_keepOn 103 = .ok (.iload_n 1, 1) := dk_27 (dw rcX12_keepOn_84 10 rfl)
theorem dX12_keepOn_104 : decode cX12_keepOn 104 = .ok (.iaload, 1) := dk_46 (dw rcX12_keepOn_84 11 rfl)
theorem dX12_keepOn_105 : decode cX12_keepOn 105 = .ok (.iload 4, 2) := dk_21 (dw rcX12_keepOn_84 12 rfl)
theorem dX12_keepOn_107 : decode cX12_keepOn 107 = .ok (.aload_n 0, 1) := dk_42 (dw rcX12_keepOn_84 13 rfl)
theorem dX12_keepOn_108 : decode cX12_keepOn 108 = .ok (.getfield 478, 3) := dk_180 (dw rcX12_keepOn_84 14 rfl) rfl
theorem dX12_keepOn_111 : decode cX12_keepOn 111 = .ok (.if_icmp .le 7, 3) := dk_164 (dw rcX12_keepOn_84 15 rfl) rfl
theorem dX12_keepOn_114 : decode cX12_keepOn 114 = .ok (.iconst 1, 1) := dk_4 (dw rcX12_keepOn_84 16 rfl)
theorem dX12_keepOn_115 : decode cX12_keepOn 115 = .ok (.goto 4, 3) := dk_167 (dw rcX12_keepOn_84 17 rfl) rfl
theorem dX12_keepOn_118 : decode cX12_keepOn 118 = .ok (.iconst 0, 1) := dk_3 (dw rcX12_keepOn_84 18 rfl)
theorem dX12_keepOn_119 : decode cX12_keepOn 119 = .ok (.invokestatic 348, 3) := dk_184 (dw rcX12_keepOn_84 19 rfl) rfl
theorem dX12_keepOn_122 : decode cX12_keepOn 122 = .ok (.iadd, 1) := dk_96 (dw rcX12_keepOn_84 20 rfl)
theorem dX12_keepOn_123 : decode cX12_keepOn 123 = .ok (.invokestatic 506, 3) := dk_184 (dw rcX12_keepOn_84 21 rfl) rfl
theorem dX12_keepOn_126 : decode cX12_keepOn 126 = .ok (.iastore, 1) := dk_79 (dw rcX12_keepOn_84 22 rfl)
theorem dX12_keepOn_127 : decode cX12_keepOn 127 = .ok (.iinc 4 1, 3) := dk_132 (dw rcX12_keepOn_84 23 rfl) rfl
def rbX12_keepOn_130 : List (Nat × List Nat) := [(130, [167, 255, 136]), (133, [177])]
theorem rcX12_keepOn_130 : dgo (lb cX12_keepOn) 0 rbX12_keepOn_130 = true := by decide +kernel
theorem dX12_keepOn_130 : decode cX12_keepOn 130 = .ok (.goto (-120), 3) := dk_167 (dw rcX12_keepOn_130 0 rfl) rfl
theorem dX12_keepOn_133 : decode cX12_keepOn 133 = .ok (.return_, 1) := dk_177 (dw rcX12_keepOn_130 1 rfl)
set_option maxHeartbeats 4000000 in
set_option maxRecDepth 100000 in
theorem n_keepOn (l : Launch) (D : va_G) (k : KT) (A : Nat → Prop) (a : Nat → Nat) (z : SK) (G : GS) (p0 : Int32) (p1 : Int32) (ha_p0 : 0 ≤ p0.toInt ∧ p0.toInt ≤ 799) (ha_p1 : 1 ≤ p1.toInt ∧ p1.toInt ≤ 400) : Met l yX12_keepOn (WS yX12_keepOn cX12_keepOn 6 none) ({ frames := 1, cells := 0, slots := 0, locals := 22 }) (va_Pc [.ref (a 66), .int p0, .int p1] (cW D k A a z G)) (va_Qv (fun (G1 : GS) => Q_keepOn p0 p1 G G1) (fun (G1 : GS) t => Wd D k A a G1 t.heap) A) 0 0 A := by
  refine Met.ofW (cc := cX12_keepOn) (maxL := 6) (ret := none) (by decide) rfl ?_
  intro p e s m args below meth c s₁ B hml hv
  obtain ⟨rfl, hW, hB_G, hK, hZ⟩ := hv
  have hx := B.exec
  have hb := B.bytes
  have hr := B.returns
  have hts := atoms_spec (ws := WS yX12_keepOn cX12_keepOn 6 none) B.pre
  have hgd : ∀ w ∈ gd, w ∈ WS yX12_keepOn cX12_keepOn 6 none := fun w h => List.mem_cons_of_mem _ h
  have hg : ∀ w ∈ gd, w.before _ s = true := fun w h => hts w (hgd w h)
  have hown : s.vm.findClass RX12 = some m.cls := findClass_of_methodNamed B.named
  have hS : va_S A s.heap s.heap [] := va_S.rf
  have hF : Fr [105] [] G G := Fr.rf
  have hl := lv_entry ([.ref (a 66), .int p0, .int p1]) (n := 6) (Nat.le_of_ble_eq_true rfl)
  rw [lg_entry_eq]
  generalize (lg_sl ([.ref (a 66), .int p0, .int p1]) ++ List.replicate (6 - (lg_sl ([.ref (a 66), .int p0, .int p1])).length) Slot.unset).toArray = ls at hl ⊢
  have hl : lv_has ls 6 [(0, .ref (a 66)), (1, .int p0), (2, .int p1)] := hl
  refine lv_iload_n hx hb dX12_keepOn_0 rfl (lv_at hl 1 rfl) ?_
  refine ic_2 hx hb dX12_keepOn_1 ?_
  refine lv_idiv hx hb dX12_keepOn_2 (by decide) ?_
  refine lv_topi (fun y_1 ey_1 => ?_)
  have ty_1 : y_1.toInt = p0.toInt / 2 := xI_div rfl ey_1 (by decide) (by omega)
  refine lv_istore_n (lv' := [(3, .int y_1), (0, .ref (a 66)), (1, .int p0), (2, .int p1)]) hx hb dX12_keepOn_3 rfl hl (lt_b rfl) rfl (fun ls hl => ?_)
  refine lv_aload_n hx hb dX12_keepOn_4 rfl (lv_at hl 1 rfl) ?_
  have b_2 : 0 ≤ (G.1 66 61).toInt ∧ (G.1 66 61).toInt ≤ 60 := bd_66_61 hB_G
  refine S_getI (v := (G.1 66 61)) (C := RX12) (T := TX12) (N := 89) hx hb hg iX12 hown hK hW kd_66 rfl 61 (lt_b rfl) (hg (Cond.fieldLink RX12 475 "SlabWalkModel" "least" "I") m1375) (fun _ h9 => h9) rfl rfl dX12_keepOn_5 ?_
  refine lv_istore (lv' := [(4, .int (G.1 66 61)), (3, .int y_1), (0, .ref (a 66)), (1, .int p0), (2, .int p1)]) hx hb dX12_keepOn_8 hl (lt_b rfl) rfl (fun ls hl => ?_)
  refine loop_N (Inv := fun n H locs ls => ∃ (G_3 : GS) (x_7 : Int32), (n : Int) = 100 - x_7.toInt ∧ (0 ≤ x_7.toInt ∧ x_7.toInt ≤ 100) ∧ Rc (St_n_keepOn_1 p0 p1 y_1 G) ((G.1 66 61), G) (x_7, G_3) ∧ Wd D k A a G_3 H ∧ Bd G_3 ∧ Fr [105] [] G G_3 ∧ Fr [105] [] G G_3 ∧ va_S A s.heap H locs ∧ lv_has ls 6 [(4, .int x_7), (3, .int y_1), (0, .ref (a 66)), (1, .int p0), (2, .int p1)]) (fun n_6 H locs ls ih_5 hI => ?_) (100 - (G.1 66 61).toInt : Int).toNat ⟨G, (G.1 66 61), (Int.toNat_of_nonneg ((by first | (clear ha_p0 ha_p1 ty_1; omega) | omega))), ⟨(by first | (clear ha_p0 ha_p1 ty_1; omega) | omega), (by first | (clear ha_p0 ha_p1 ty_1; omega) | omega)⟩, Rc.rf, hW, hB_G, hF, Fr.rf, hS, lv_sub hl [0, 1, 2, 3, 4] rfl⟩
  obtain ⟨G_3, x_7, hn_10, f_9, hX_8, hW, hB_G_3, hF, hq_4, hS, hl⟩ := hI
  refine lv_iload hx hb dX12_keepOn_10 (lv_at hl 0 rfl) ?_
  refine lv_iload_n hx hb dX12_keepOn_12 rfl (lv_at hl 3 rfl) ?_
  refine ic_2 hx hb dX12_keepOn_13 ?_
  refine lv_irem hx hb dX12_keepOn_14 (by decide) ?_
  refine lv_topi (fun y_11 ey_11 => ?_)
  have ty_11 : y_11.toInt = p0.toInt % 2 := xI_mod rfl ey_11 (by decide) ((by first | (clear ha_p1 b_2 hn_10 f_9; omega) | omega))
  refine ic_1 hx hb dX12_keepOn_15 ?_
  refine W.cut (σ := Int32) (pcJ := 30) (J := fun y H locs ls => ∃ (G_19 : GS), (0 ≤ y.toInt ∧ y.toInt ≤ 99) ∧ Jn_n_keepOn_2 y_11 G G_3 y G_19 ∧ Wd D k A a G_19 H ∧ Bd G_19 ∧ Fr [105] [] G G_19 ∧ Fr [] [] G_3 G_19 ∧ va_S A s.heap H locs ∧ lv_has ls 6 [(4, .int x_7), (3, .int y_1), (0, .ref (a 66)), (1, .int p0), (2, .int p1)]) (stJ := fun y => [.int y, .int x_7]) ?_ (fun hJ_20 => ?_)
  · intro y H locs ls hI
    obtain ⟨w_17, hy⟩ : ∃ q, q = y := ⟨_, rfl⟩
    subst hy
    obtain ⟨G_19, f_23, hX_22, hW, hB_G_19, hF, hq_21, hS, hl⟩ := hI
    refine lv_icmp_gt (tgt := 133) hx hb dX12_keepOn_30 rfl (fun c_24 => ?_) (fun c_24 => ?_)
    · have c_24 : w_17.toInt < x_7.toInt := xI_lt rfl rfl c_24
      exact W.vret hx hb hr (fun t ht _ => ⟨⟨G_19, rfl, (Q_keepOn_mk ⟨hB_G_19, hF, ⟨y_1, ty_1, ⟨x_7, G_3, hX_8, f_9, hB_G_3, hq_4, ⟨y_11, ty_11, ⟨w_17, G_19, hX_22, f_23, hB_G_19, hq_21, ⟨c_24, rfl⟩⟩⟩⟩⟩⟩), wd_t ht hW⟩, hS.F ht⟩) hS.2.2 dX12_keepOn_133
    · have c_24 : x_7.toInt ≤ w_17.toInt := xI_nlt rfl rfl c_24
      refine lv_aload_n hx hb dX12_keepOn_33 rfl (lv_at hl 2 rfl) ?_
      refine S_getR (n := 98) (C := RX12) (T := TX12) (N := 89) hx hb hg iX12 hown hK hW kd_66 rfl 58 (lt_b rfl) (hg (Cond.fieldLink RX12 115 "SlabWalkModel" "lawful" "[Z") m1372) (fun _ h9 => h9) rfl dX12_keepOn_34 ?_
      refine lv_iload_n hx hb dX12_keepOn_37 rfl (lv_at hl 1 rfl) ?_
      refine lv_iload hx hb dX12_keepOn_38 (lv_at hl 0 rfl) ?_
      refine lv_iadd hx hb dX12_keepOn_40 ?_
      refine lv_topi (fun y_25 ey_25 => ?_)
      have ty_25 : y_25.toInt = y_1.toInt + x_7.toInt := xI_add rfl rfl ey_25 ((by first | (clear ha_p1 b_2 hn_10; omega) | omega)) ((by first | (clear ha_p1 b_2 hn_10; omega) | omega))
      refine S_zald hx hb hK hW kd_98 (vin ((by first | (clear ha_p1 b_2 hn_10; omega) | omega)) ((by first | (clear ha_p1 b_2 hn_10; omega) | omega))) dX12_keepOn_41 (fun y_26 ey_26 => ?_)
      have ty_26 := hB_G_19.law ey_26
      refine lv_if_eq (tgt := 127) hx hb dX12_keepOn_42 rfl (fun c_27 => ?_) (fun c_27 => ?_)
      · have c_27 : y_26.toInt = 0 := xI_eq rfl rfl c_27
        obtain ⟨y_28, ey_28⟩ : ∃ q, q = x_7 + 1 := ⟨_, rfl⟩
        have ty_28 : y_28.toInt = x_7.toInt + 1 := xI_add rfl rfl ey_28 ((by first | (clear ha_p1 b_2 hn_10 c_27; omega) | omega)) ((by first | (clear ha_p1 b_2 hn_10 c_27; omega) | omega))
        refine lv_iinc (v := y_28) (lv' := [(4, .int y_28), (3, .int y_1), (0, .ref (a 66)), (1, .int p0), (2, .int p1)]) hx hb dX12_keepOn_127 hl (k := 0) rfl (by rw [ey_28]; rfl) (lt_b rfl) rfl (fun ls hl => ?_)
        refine lv_goto (tgt := 10) hx hb dX12_keepOn_130 rfl ?_
        exact ih_5 (100 - y_28.toInt : Int).toNat ((by first | (clear ha_p1 b_2 c_27; omega) | omega)) _ _ _ ⟨G_19, y_28, (Int.toNat_of_nonneg ((by first | (clear ha_p1 b_2 hn_10 c_27; omega) | omega))), ⟨(by first | (clear ha_p1 b_2 hn_10 c_27; omega) | omega), (by first | (clear ha_p1 b_2 hn_10 c_27; omega) | omega)⟩, (hX_8.st (St_n_keepOn_1_mk ⟨x_7, G_3, y_28, G_19, rfl, rfl, f_9, hB_G_3, ⟨y_11, ty_11, ⟨w_17, G_19, hX_22, f_23, hB_G_19, hq_21, ⟨c_24, ⟨y_25, ty_25, ⟨y_26, ey_26, (Or.inl ⟨c_27, ⟨y_28, ty_28, ⟨rfl, rfl⟩⟩⟩)⟩⟩⟩⟩⟩⟩)), hW, hB_G_19, hF, (Fr.call9 (rs := [105]) (fs := []) (Fr.call9 (rs := [105]) (fs := []) Fr.rf hq_4 rfl rfl) hq_21 rfl rfl), hS, lv_sub hl [0, 1, 2, 3, 4] rfl⟩
      · have c_27 : y_26.toInt ≠ 0 := xI_ne rfl rfl c_27
        refine lv_aload_n hx hb dX12_keepOn_45 rfl (lv_at hl 2 rfl) ?_
        refine lv_iload_n hx hb dX12_keepOn_46 rfl (lv_at hl 1 rfl) ?_
        refine lv_iload hx hb dX12_keepOn_47 (lv_at hl 0 rfl) ?_
        refine lv_iadd hx hb dX12_keepOn_49 ?_
        refine lv_topi (fun y_29 ey_29 => ?_)
        have ty_29 : y_29.toInt = y_1.toInt + x_7.toInt := xI_add rfl rfl ey_29 ((by first | (clear ha_p1 b_2 hn_10 c_27; omega) | omega)) ((by first | (clear ha_p1 b_2 hn_10 c_27; omega) | omega))
        refine lv_iload_n hx hb dX12_keepOn_50 rfl (lv_at hl 4 rfl) ?_
        refine S_calli (va_runV (As := [.int y_29, .int p1]) (rest := []) ⟨hx, hb, hml, hown, hts⟩ (n_isHeld l D k A a z G_19 y_29 p1 ⟨(by first | (clear ha_p1 b_2 hn_10 c_27; omega) | omega), (by first | (clear ha_p1 b_2 hn_10 c_27; omega) | omega)⟩ ⟨(by first | (clear ha_p0 ty_1 b_2 hn_10 f_9 ty_11 f_23 c_24 ty_25 c_27 ty_29; omega) | omega), (by first | (clear ha_p0 ty_1 b_2 hn_10 f_9 ty_11 f_23 c_24 ty_25 c_27 ty_29; omega) | omega)⟩) (cwV 2 hts (gd_V hgd m1931 m1933 m101 m131 m1934) rfl rfl rfl hd_X12_isHeld ⟨Nat.le_of_ble_eq_true rfl, Nat.le_of_ble_eq_true rfl⟩) (pre_W hW hB_G_19 hK hZ hS kd_66 rfl) rfl rfl hl.1 rfl (lv_room (Nat.le_of_ble_eq_true rfl)) dX12_keepOn_51 ⟨Nat.le_of_ble_eq_true rfl, Nat.le_of_ble_eq_true rfl⟩) hS (fun r_30 G_31 H locs hpo hW hS => ?_)
        have hX_34 : Q_isHeld y_29 p1 G_19 r_30 G_31 := hpo
        obtain ⟨hB_G_31, hq_32, f_35, -⟩ := hpo
        have hF := hF.call9 hq_32 rfl rfl
        refine lv_if_ne (tgt := 60) hx hb dX12_keepOn_54 rfl (fun c_36 => ?_) (fun c_36 => ?_)
        · have c_36 : r_30.toInt ≠ 0 := xI_ne rfl rfl c_36
          refine ic_2 hx hb dX12_keepOn_60 ?_
          refine lv_iload_n hx hb dX12_keepOn_61 rfl (lv_at hl 1 rfl) ?_
          refine lv_iload hx hb dX12_keepOn_62 (lv_at hl 0 rfl) ?_
          refine lv_iadd hx hb dX12_keepOn_64 ?_
          refine lv_topi (fun y_37 ey_37 => ?_)
          have ty_37 : y_37.toInt = y_1.toInt + x_7.toInt := xI_add rfl rfl ey_37 ((by first | (clear ha_p1 b_2 hn_10 c_27 f_35 c_36; omega) | omega)) ((by first | (clear ha_p1 b_2 hn_10 c_27 f_35 c_36; omega) | omega))
          refine lv_imul hx hb dX12_keepOn_65 ?_
          refine lv_topi (fun y_38 ey_38 => ?_)
          have ty_38 : y_38.toInt = 2 * y_37.toInt := xI_mul rfl rfl ey_38 ((by first | (clear ha_p1 b_2 hn_10 c_27 f_35 c_36; omega) | omega)) ((by first | (clear ha_p1 b_2 hn_10 c_27 f_35 c_36; omega) | omega))
          refine lv_iload hx hb dX12_keepOn_66 (lv_at hl 0 rfl) ?_
          refine lv_aload_n hx hb dX12_keepOn_68 rfl (lv_at hl 2 rfl) ?_
          have b_39 : 0 ≤ (G.1 66 62).toInt ∧ (G.1 66 62).toInt ≤ 60 := bd_66_62 hB_G
          refine S_getI (v := (G.1 66 62)) (C := RX12) (T := TX12) (N := 89) hx hb hg iX12 hown hK hW kd_66 rfl 62 (lt_b rfl) (hg (Cond.fieldLink RX12 478 "SlabWalkModel" "most" "I") m1376) (fun _ h9 => h9) rfl ((hq_32.i9 66 62 rfl rfl).trans ((hq_21.i9 66 62 rfl rfl).trans (hq_4.i9 66 62 rfl rfl))) dX12_keepOn_69 ?_
          refine W.cut (σ := Int32) (pcJ := 80) (J := fun y H locs ls => ∃ (G_47 : GS), (0 ≤ y.toInt ∧ y.toInt ≤ 1) ∧ Jn_n_keepOn_3 x_7 G G_31 y G_47 ∧ Wd D k A a G_47 H ∧ Bd G_47 ∧ Fr [105] [] G G_47 ∧ Fr [] [] G_31 G_47 ∧ va_S A s.heap H locs ∧ lv_has ls 6 [(4, .int x_7), (3, .int y_1), (0, .ref (a 66)), (1, .int p0), (2, .int p1)]) (stJ := fun y => [.int y, .int y_38]) ?_ (fun hJ_48 => ?_)
          · intro y H locs ls hI
            obtain ⟨w_45, hy⟩ : ∃ q, q = y := ⟨_, rfl⟩
            subst hy
            obtain ⟨G_47, f_51, hX_50, hW, hB_G_47, hF, hq_49, hS, hl⟩ := hI
            refine S_calli (va_runS (As := [.int w_45]) (rest := [.int y_38]) ⟨hx, hb, hml, hown, hts⟩ (n_truth l D k A a z G_47 w_45 ⟨(by first | (clear ha_p0 ha_p1 ty_1 b_2 hn_10 f_9 ty_11 f_23 c_24 ty_25 c_27 ty_29 f_35 c_36 ty_37 ty_38 b_39; omega) | omega), (by first | (clear ha_p0 ha_p1 ty_1 b_2 hn_10 f_9 ty_11 f_23 c_24 ty_25 c_27 ty_29 f_35 c_36 ty_37 ty_38 b_39; omega) | omega)⟩) (va_cwS 1 hts (gd_S hgd m1788 m1789 m131 m1790) rfl rfl rfl hd_X12_truth.2 ⟨Nat.le_of_ble_eq_true rfl, Nat.le_of_ble_eq_true rfl⟩) (pre_S hW hB_G_47 hK hZ hS) rfl rfl hl.1 rfl (lv_room (Nat.le_of_ble_eq_true rfl)) dX12_keepOn_80 ⟨Nat.le_of_ble_eq_true rfl, Nat.le_of_ble_eq_true rfl⟩) hS (fun r_52 G_53 H locs hpo hW hS => ?_)
            have hX_56 : Q_truth w_45 G_47 r_52 G_53 := hpo
            obtain ⟨hB_G_53, hq_54, f_57, hp_55, -⟩ := hpo
            have hF := hF.call9 hq_54 rfl rfl
            refine lv_iadd hx hb dX12_keepOn_83 ?_
            refine lv_topi (fun y_58 ey_58 => ?_)
            have ty_58 : y_58.toInt = y_38.toInt + r_52.toInt := xI_add rfl rfl ey_58 ((by first | (clear ha_p1 b_2 hn_10 c_27 f_35 c_36 b_39; omega) | omega)) ((by first | (clear ha_p1 b_2 hn_10 c_27 f_35 c_36 b_39; omega) | omega))
            refine lv_istore (lv' := [(5, .int y_58), (4, .int x_7), (3, .int y_1), (0, .ref (a 66)), (1, .int p0), (2, .int p1)]) hx hb dX12_keepOn_84 hl (lt_b rfl) rfl (fun ls hl => ?_)
            refine lv_aload_n hx hb dX12_keepOn_86 rfl (lv_at hl 3 rfl) ?_
            refine S_getR (n := 105) (C := RX12) (T := TX12) (N := 89) hx hb hg iX12 hown hK hW kd_66 rfl 71 (lt_b rfl) (hg (Cond.fieldLink RX12 136 "SlabWalkModel" "leaptNext" "[I") m1385) (fun _ h9 => h9) rfl dX12_keepOn_87 ?_
            refine lv_iload hx hb dX12_keepOn_90 (lv_at hl 0 rfl) ?_
            refine lv_aload_n hx hb dX12_keepOn_92 rfl (lv_at hl 3 rfl) ?_
            refine S_getR (n := 105) (C := RX12) (T := TX12) (N := 89) hx hb hg iX12 hown hK hW kd_66 rfl 71 (lt_b rfl) (hg (Cond.fieldLink RX12 136 "SlabWalkModel" "leaptNext" "[I") m1385) (fun _ h9 => h9) rfl dX12_keepOn_93 ?_
            refine lv_iload hx hb dX12_keepOn_96 (lv_at hl 0 rfl) ?_
            refine S_iald hx hb hK hW kd_105 (vin ((by first | (clear ha_p1 b_2 hn_10 c_27 f_35 c_36 b_39; omega) | omega)) ((by first | (clear ha_p1 b_2 hn_10 c_27 f_35 c_36 b_39; omega) | omega))) dX12_keepOn_98 (fun y_59 ey_59 => ?_)
            refine lv_aload_n hx hb dX12_keepOn_99 rfl (lv_at hl 3 rfl) ?_
            refine S_getR (n := 104) (C := RX12) (T := TX12) (N := 89) hx hb hg iX12 hown hK hW kd_66 rfl 70 (lt_b rfl) (hg (Cond.fieldLink RX12 133 "SlabWalkModel" "leapt" "[I") m1384) (fun _ h9 => h9) rfl dX12_keepOn_100 ?_
            refine lv_iload_n hx hb dX12_keepOn_103 rfl (lv_at hl 4 rfl) ?_
            refine S_iald hx hb hK hW kd_104 (vin ((by first | (clear ha_p1 b_2 hn_10 c_27 f_35 c_36 b_39; omega) | omega)) ((by first | (clear ha_p1 b_2 hn_10 c_27 f_35 c_36 b_39; omega) | omega))) dX12_keepOn_104 (fun y_60 ey_60 => ?_)
            refine lv_iload hx hb dX12_keepOn_105 (lv_at hl 1 rfl) ?_
            refine lv_aload_n hx hb dX12_keepOn_107 rfl (lv_at hl 3 rfl) ?_
            refine S_getI (v := (G.1 66 62)) (C := RX12) (T := TX12) (N := 89) hx hb hg iX12 hown hK hW kd_66 rfl 62 (lt_b rfl) (hg (Cond.fieldLink RX12 478 "SlabWalkModel" "most" "I") m1376) (fun _ h9 => h9) rfl ((hq_54.i9 66 62 rfl rfl).trans ((hq_49.i9 66 62 rfl rfl).trans ((hq_32.i9 66 62 rfl rfl).trans ((hq_21.i9 66 62 rfl rfl).trans ((hq_4.i9 66 62 rfl rfl).trans (rfl)))))) dX12_keepOn_108 ?_
            refine lv_icmp_le (tgt := 118) hx hb dX12_keepOn_111 rfl (fun c_61 => ?_) (fun c_61 => ?_)
            · have c_61 : x_7.toInt ≤ (G.1 66 62).toInt := xI_le rfl rfl c_61
              refine ic_0 hx hb dX12_keepOn_118 ?_
              have qc_62 : (0 : Int32).toInt = 0 := rfl
              refine S_calli (va_runS (As := [.int 0]) (rest := [.int y_60, .int y_59, .int y_58, .ref (a 105)]) ⟨hx, hb, hml, hown, hts⟩ (n_truth l D k A a z G_53 0 ⟨by decide, by decide⟩) (va_cwS 1 hts (gd_S hgd m1788 m1789 m131 m1790) rfl rfl rfl hd_X12_truth.2 ⟨Nat.le_of_ble_eq_true rfl, Nat.le_of_ble_eq_true rfl⟩) (pre_S hW hB_G_53 hK hZ hS) rfl rfl hl.1 rfl (lv_room (Nat.le_of_ble_eq_true rfl)) dX12_keepOn_119 ⟨Nat.le_of_ble_eq_true rfl, Nat.le_of_ble_eq_true rfl⟩) hS (fun r_63 G_64 H locs hpo hW hS => ?_)
              have hX_67 : Q_truth 0 G_53 r_63 G_64 := hpo
              obtain ⟨hB_G_64, hq_65, f_68, hp_66, -⟩ := hpo
              have hF := hF.call9 hq_65 rfl rfl
              refine lv_iadd hx hb dX12_keepOn_122 ?_
              refine lv_topi (fun y_69 ey_69 => ?_)
              refine S_calli (va_runS (As := [.int y_59, .int y_69]) (rest := [.int y_58, .ref (a 105)]) ⟨hx, hb, hml, hown, hts⟩ (n_lesser l D k A a z G_64 y_59 y_69 ) (va_cwS 2 hts (gd_S hgd m1863 m1864 m131 m1865) rfl rfl rfl hd_X12_lesser.2 ⟨Nat.le_of_ble_eq_true rfl, Nat.le_of_ble_eq_true rfl⟩) (pre_S hW hB_G_64 hK hZ hS) rfl rfl hl.1 rfl (lv_room (Nat.le_of_ble_eq_true rfl)) dX12_keepOn_123 ⟨Nat.le_of_ble_eq_true rfl, Nat.le_of_ble_eq_true rfl⟩) hS (fun r_70 G_71 H locs hpo hW hS => ?_)
              have hX_74 : Q_lesser y_59 y_69 G_64 r_70 G_71 := hpo
              obtain ⟨hB_G_71, hq_72, hp_73, -⟩ := hpo
              have hF := hF.call9 hq_72 rfl rfl
              refine S_iast hx hb hK hW hS kd_105 (vin ((by first | (clear ha_p1 b_2 hn_10 c_27 f_35 c_36 f_68 hp_66 hp_73; omega) | omega)) ((by first | (clear ha_p1 b_2 hn_10 c_27 f_35 c_36 f_68 hp_66 hp_73; omega) | omega))) dX12_keepOn_126 (fun G_75 H locs eG_75 hW hS => ?_)
              have hB_G_75 : Bd G_75 := hB_G_71.put (lo := (-2147483648)) (hi := 2147483647) eG_75 rfl rfl rfl (tI_rng _).1 (tI_rng _).2 (hB_G_71.2.put eG_75 rfl)
              have hF := hF.put eG_75 (Or.inl (by decide))
              obtain ⟨y_76, ey_76⟩ : ∃ q, q = x_7 + 1 := ⟨_, rfl⟩
              have ty_76 : y_76.toInt = x_7.toInt + 1 := xI_add rfl rfl ey_76 ((by first | (clear ha_p1 b_2 hn_10 c_27 f_35 c_36 f_68 hp_66 hp_73; omega) | omega)) ((by first | (clear ha_p1 b_2 hn_10 c_27 f_35 c_36 f_68 hp_66 hp_73; omega) | omega))
              refine lv_iinc (v := y_76) (lv' := [(4, .int y_76), (5, .int y_58), (3, .int y_1), (0, .ref (a 66)), (1, .int p0), (2, .int p1)]) hx hb dX12_keepOn_127 hl (k := 1) rfl (by rw [ey_76]; rfl) (lt_b rfl) rfl (fun ls hl => ?_)
              refine lv_goto (tgt := 10) hx hb dX12_keepOn_130 rfl ?_
              exact ih_5 (100 - y_76.toInt : Int).toNat ((by first | (clear ha_p1 b_2 c_27 f_35 c_36 f_68 hp_66 hp_73; omega) | omega)) _ _ _ ⟨G_75, y_76, (Int.toNat_of_nonneg ((by first | (clear ha_p1 b_2 hn_10 c_27 f_35 c_36 f_68 hp_66 hp_73; omega) | omega))), ⟨(by first | (clear ha_p1 b_2 hn_10 c_27 f_35 c_36 f_68 hp_66 hp_73; omega) | omega), (by first | (clear ha_p1 b_2 hn_10 c_27 f_35 c_36 f_68 hp_66 hp_73; omega) | omega)⟩, (hX_8.st (St_n_keepOn_1_mk ⟨x_7, G_3, y_76, G_75, rfl, rfl, f_9, hB_G_3, ⟨y_11, ty_11, ⟨w_17, G_19, hX_22, f_23, hB_G_19, hq_21, ⟨c_24, ⟨y_25, ty_25, ⟨y_26, ey_26, (Or.inr ⟨c_27, ⟨y_29, ty_29, ⟨r_30, G_31, hX_34, (Or.inr ⟨c_36, ⟨y_37, ty_37, ⟨y_38, ty_38, ⟨w_45, G_47, hX_50, f_51, hB_G_47, hq_49, ⟨r_52, G_53, hX_56, ⟨y_58, ty_58, ⟨y_59, ey_59, ⟨y_60, ey_60, (Or.inl ⟨c_61, ⟨r_63, G_64, hX_67, ⟨y_69, ey_69, ⟨r_70, G_71, hX_74, ⟨y_76, ty_76, ⟨rfl, (Fr.put (rs := [105]) (fs := []) Fr.rf eG_75 (Or.inl (by decide))), rw_ast eG_75⟩⟩⟩⟩⟩⟩)⟩⟩⟩⟩⟩⟩⟩⟩)⟩⟩⟩)⟩⟩⟩⟩⟩⟩)), hW, hB_G_75, hF, (Fr.put (rs := [105]) (fs := []) (Fr.call9 (rs := [105]) (fs := []) (Fr.call9 (rs := [105]) (fs := []) (Fr.call9 (rs := [105]) (fs := []) (Fr.call9 (rs := [105]) (fs := []) (Fr.call9 (rs := [105]) (fs := []) (Fr.call9 (rs := [105]) (fs := []) (Fr.call9 (rs := [105]) (fs := []) Fr.rf hq_4 rfl rfl) hq_21 rfl rfl) hq_32 rfl rfl) hq_49 rfl rfl) hq_54 rfl rfl) hq_65 rfl rfl) hq_72 rfl rfl) eG_75 (Or.inl (by decide))), hS, lv_sub hl [0, 2, 3, 4, 5] rfl⟩
            · have c_61 : (G.1 66 62).toInt < x_7.toInt := xI_nle rfl rfl c_61
              refine ic_1 hx hb dX12_keepOn_114 ?_
              refine lv_goto (tgt := 119) hx hb dX12_keepOn_115 rfl ?_
              have qc_77 : (1 : Int32).toInt = 1 := rfl
              refine S_calli (va_runS (As := [.int 1]) (rest := [.int y_60, .int y_59, .int y_58, .ref (a 105)]) ⟨hx, hb, hml, hown, hts⟩ (n_truth l D k A a z G_53 1 ⟨by decide, by decide⟩) (va_cwS 1 hts (gd_S hgd m1788 m1789 m131 m1790) rfl rfl rfl hd_X12_truth.2 ⟨Nat.le_of_ble_eq_true rfl, Nat.le_of_ble_eq_true rfl⟩) (pre_S hW hB_G_53 hK hZ hS) rfl rfl hl.1 rfl (lv_room (Nat.le_of_ble_eq_true rfl)) dX12_keepOn_119 ⟨Nat.le_of_ble_eq_true rfl, Nat.le_of_ble_eq_true rfl⟩) hS (fun r_78 G_79 H locs hpo hW hS => ?_)
              have hX_82 : Q_truth 1 G_53 r_78 G_79 := hpo
              obtain ⟨hB_G_79, hq_80, f_83, hp_81, -⟩ := hpo
              have hF := hF.call9 hq_80 rfl rfl
              refine lv_iadd hx hb dX12_keepOn_122 ?_
              refine lv_topi (fun y_84 ey_84 => ?_)
              refine S_calli (va_runS (As := [.int y_59, .int y_84]) (rest := [.int y_58, .ref (a 105)]) ⟨hx, hb, hml, hown, hts⟩ (n_lesser l D k A a z G_79 y_59 y_84 ) (va_cwS 2 hts (gd_S hgd m1863 m1864 m131 m1865) rfl rfl rfl hd_X12_lesser.2 ⟨Nat.le_of_ble_eq_true rfl, Nat.le_of_ble_eq_true rfl⟩) (pre_S hW hB_G_79 hK hZ hS) rfl rfl hl.1 rfl (lv_room (Nat.le_of_ble_eq_true rfl)) dX12_keepOn_123 ⟨Nat.le_of_ble_eq_true rfl, Nat.le_of_ble_eq_true rfl⟩) hS (fun r_85 G_86 H locs hpo hW hS => ?_)
              have hX_89 : Q_lesser y_59 y_84 G_79 r_85 G_86 := hpo
              obtain ⟨hB_G_86, hq_87, hp_88, -⟩ := hpo
              have hF := hF.call9 hq_87 rfl rfl
              refine S_iast hx hb hK hW hS kd_105 (vin ((by first | (clear ha_p1 b_2 hn_10 c_27 f_35 c_36 f_83 hp_81 hp_88; omega) | omega)) ((by first | (clear ha_p1 b_2 hn_10 c_27 f_35 c_36 f_83 hp_81 hp_88; omega) | omega))) dX12_keepOn_126 (fun G_90 H locs eG_90 hW hS => ?_)
              have hB_G_90 : Bd G_90 := hB_G_86.put (lo := (-2147483648)) (hi := 2147483647) eG_90 rfl rfl rfl (tI_rng _).1 (tI_rng _).2 (hB_G_86.2.put eG_90 rfl)
              have hF := hF.put eG_90 (Or.inl (by decide))
              obtain ⟨y_91, ey_91⟩ : ∃ q, q = x_7 + 1 := ⟨_, rfl⟩
              have ty_91 : y_91.toInt = x_7.toInt + 1 := xI_add rfl rfl ey_91 ((by first | (clear ha_p1 b_2 hn_10 c_27 f_35 c_36 f_83 hp_81 hp_88; omega) | omega)) ((by first | (clear ha_p1 b_2 hn_10 c_27 f_35 c_36 f_83 hp_81 hp_88; omega) | omega))
              refine lv_iinc (v := y_91) (lv' := [(4, .int y_91), (5, .int y_58), (3, .int y_1), (0, .ref (a 66)), (1, .int p0), (2, .int p1)]) hx hb dX12_keepOn_127 hl (k := 1) rfl (by rw [ey_91]; rfl) (lt_b rfl) rfl (fun ls hl => ?_)
              refine lv_goto (tgt := 10) hx hb dX12_keepOn_130 rfl ?_
              exact ih_5 (100 - y_91.toInt : Int).toNat ((by first | (clear ha_p1 b_2 c_27 f_35 c_36 f_83 hp_81 hp_88; omega) | omega)) _ _ _ ⟨G_90, y_91, (Int.toNat_of_nonneg ((by first | (clear ha_p1 b_2 hn_10 c_27 f_35 c_36 f_83 hp_81 hp_88; omega) | omega))), ⟨(by first | (clear ha_p1 b_2 hn_10 c_27 f_35 c_36 f_83 hp_81 hp_88; omega) | omega), (by first | (clear ha_p1 b_2 hn_10 c_27 f_35 c_36 f_83 hp_81 hp_88; omega) | omega)⟩, (hX_8.st (St_n_keepOn_1_mk ⟨x_7, G_3, y_91, G_90, rfl, rfl, f_9, hB_G_3, ⟨y_11, ty_11, ⟨w_17, G_19, hX_22, f_23, hB_G_19, hq_21, ⟨c_24, ⟨y_25, ty_25, ⟨y_26, ey_26, (Or.inr ⟨c_27, ⟨y_29, ty_29, ⟨r_30, G_31, hX_34, (Or.inr ⟨c_36, ⟨y_37, ty_37, ⟨y_38, ty_38, ⟨w_45, G_47, hX_50, f_51, hB_G_47, hq_49, ⟨r_52, G_53, hX_56, ⟨y_58, ty_58, ⟨y_59, ey_59, ⟨y_60, ey_60, (Or.inr ⟨c_61, ⟨r_78, G_79, hX_82, ⟨y_84, ey_84, ⟨r_85, G_86, hX_89, ⟨y_91, ty_91, ⟨rfl, (Fr.put (rs := [105]) (fs := []) Fr.rf eG_90 (Or.inl (by decide))), rw_ast eG_90⟩⟩⟩⟩⟩⟩)⟩⟩⟩⟩⟩⟩⟩⟩)⟩⟩⟩)⟩⟩⟩⟩⟩⟩)), hW, hB_G_90, hF, (Fr.put (rs := [105]) (fs := []) (Fr.call9 (rs := [105]) (fs := []) (Fr.call9 (rs := [105]) (fs := []) (Fr.call9 (rs := [105]) (fs := []) (Fr.call9 (rs := [105]) (fs := []) (Fr.call9 (rs := [105]) (fs := []) (Fr.call9 (rs := [105]) (fs := []) (Fr.call9 (rs := [105]) (fs := []) Fr.rf hq_4 rfl rfl) hq_21 rfl rfl) hq_32 rfl rfl) hq_49 rfl rfl) hq_54 rfl rfl) hq_80 rfl rfl) hq_87 rfl rfl) eG_90 (Or.inl (by decide))), hS, lv_sub hl [0, 2, 3, 4, 5] rfl⟩
          refine lv_icmp_le (tgt := 79) hx hb dX12_keepOn_72 rfl (fun c_92 => ?_) (fun c_92 => ?_)
          · have c_92 : x_7.toInt ≤ (G.1 66 62).toInt := xI_le rfl rfl c_92
            refine ic_0 hx hb dX12_keepOn_79 ?_
            have qc_93 : (0 : Int32).toInt = 0 := rfl
            exact hJ_48 0 _ _ _ ⟨G_31, ⟨(by first | (clear ha_p0 ha_p1 ty_1 b_2 hn_10 f_9 ty_11 f_23 c_24 ty_25 c_27 ty_29 f_35 c_36 ty_37 ty_38 b_39 c_92; omega) | omega), (by first | (clear ha_p0 ha_p1 ty_1 b_2 hn_10 f_9 ty_11 f_23 c_24 ty_25 c_27 ty_29 f_35 c_36 ty_37 ty_38 b_39 c_92; omega) | omega)⟩, (Jn_n_keepOn_3_mk (Or.inl ⟨c_92, ⟨rfl, rfl⟩⟩)), hW, hB_G_31, hF, (Fr.rf (rs := []) (fs := [])), hS, lv_sub hl [0, 1, 2, 3, 4] rfl⟩
          · have c_92 : (G.1 66 62).toInt < x_7.toInt := xI_nle rfl rfl c_92
            refine ic_1 hx hb dX12_keepOn_75 ?_
            refine lv_goto (tgt := 80) hx hb dX12_keepOn_76 rfl ?_
            have qc_94 : (1 : Int32).toInt = 1 := rfl
            exact hJ_48 1 _ _ _ ⟨G_31, ⟨(by first | (clear ha_p0 ha_p1 ty_1 b_2 hn_10 f_9 ty_11 f_23 c_24 ty_25 c_27 ty_29 f_35 c_36 ty_37 ty_38 b_39 c_92; omega) | omega), (by first | (clear ha_p0 ha_p1 ty_1 b_2 hn_10 f_9 ty_11 f_23 c_24 ty_25 c_27 ty_29 f_35 c_36 ty_37 ty_38 b_39 c_92; omega) | omega)⟩, (Jn_n_keepOn_3_mk (Or.inr ⟨c_92, ⟨rfl, rfl⟩⟩)), hW, hB_G_31, hF, (Fr.rf (rs := []) (fs := [])), hS, lv_sub hl [0, 1, 2, 3, 4] rfl⟩
        · have c_36 : r_30.toInt = 0 := xI_eq rfl rfl c_36
          refine lv_goto (tgt := 127) hx hb dX12_keepOn_57 rfl ?_
          obtain ⟨y_95, ey_95⟩ : ∃ q, q = x_7 + 1 := ⟨_, rfl⟩
          have ty_95 : y_95.toInt = x_7.toInt + 1 := xI_add rfl rfl ey_95 ((by first | (clear ha_p1 b_2 hn_10 c_27 f_35 c_36; omega) | omega)) ((by first | (clear ha_p1 b_2 hn_10 c_27 f_35 c_36; omega) | omega))
          refine lv_iinc (v := y_95) (lv' := [(4, .int y_95), (3, .int y_1), (0, .ref (a 66)), (1, .int p0), (2, .int p1)]) hx hb dX12_keepOn_127 hl (k := 0) rfl (by rw [ey_95]; rfl) (lt_b rfl) rfl (fun ls hl => ?_)
          refine lv_goto (tgt := 10) hx hb dX12_keepOn_130 rfl ?_
          exact ih_5 (100 - y_95.toInt : Int).toNat ((by first | (clear ha_p1 b_2 c_27 f_35 c_36; omega) | omega)) _ _ _ ⟨G_31, y_95, (Int.toNat_of_nonneg ((by first | (clear ha_p1 b_2 hn_10 c_27 f_35 c_36; omega) | omega))), ⟨(by first | (clear ha_p1 b_2 hn_10 c_27 f_35 c_36; omega) | omega), (by first | (clear ha_p1 b_2 hn_10 c_27 f_35 c_36; omega) | omega)⟩, (hX_8.st (St_n_keepOn_1_mk ⟨x_7, G_3, y_95, G_31, rfl, rfl, f_9, hB_G_3, ⟨y_11, ty_11, ⟨w_17, G_19, hX_22, f_23, hB_G_19, hq_21, ⟨c_24, ⟨y_25, ty_25, ⟨y_26, ey_26, (Or.inr ⟨c_27, ⟨y_29, ty_29, ⟨r_30, G_31, hX_34, (Or.inl ⟨c_36, ⟨y_95, ty_95, ⟨rfl, rfl⟩⟩⟩)⟩⟩⟩)⟩⟩⟩⟩⟩⟩)), hW, hB_G_31, hF, (Fr.call9 (rs := [105]) (fs := []) (Fr.call9 (rs := [105]) (fs := []) (Fr.call9 (rs := [105]) (fs := []) Fr.rf hq_4 rfl rfl) hq_21 rfl rfl) hq_32 rfl rfl), hS, lv_sub hl [0, 1, 2, 3, 4] rfl⟩
  refine lv_icmp_ne (tgt := 26) hx hb dX12_keepOn_16 rfl (fun c_96 => ?_) (fun c_96 => ?_)
  · have c_96 : y_11.toInt ≠ 1 := xI_ne rfl rfl c_96
    refine lv_aload_n hx hb dX12_keepOn_26 rfl (lv_at hl 2 rfl) ?_
    have b_97 : 0 ≤ (G.1 66 63).toInt ∧ (G.1 66 63).toInt ≤ 99 := bd_66_63 hB_G
    refine S_getI (v := (G.1 66 63)) (C := RX12) (T := TX12) (N := 89) hx hb hg iX12 hown hK hW kd_66 rfl 63 (lt_b rfl) (hg (Cond.fieldLink RX12 481 "SlabWalkModel" "leap" "I") m1377) (fun _ h9 => h9) rfl (hq_4.i9 66 63 rfl rfl) dX12_keepOn_27 ?_
    exact hJ_20 (G.1 66 63) _ _ _ ⟨G_3, ⟨(by first | (clear ha_p0 ha_p1 ty_1 b_2 hn_10 f_9 ty_11 c_96; omega) | omega), (by first | (clear ha_p0 ha_p1 ty_1 b_2 hn_10 f_9 ty_11 c_96; omega) | omega)⟩, (Jn_n_keepOn_2_mk (Or.inr ⟨c_96, ⟨rfl, rfl⟩⟩)), hW, hB_G_3, hF, (Fr.rf (rs := []) (fs := [])), hS, lv_sub hl [0, 1, 2, 3, 4] rfl⟩
  · have c_96 : y_11.toInt = 1 := xI_eq rfl rfl c_96
    refine lv_aload_n hx hb dX12_keepOn_19 rfl (lv_at hl 2 rfl) ?_
    have b_98 : 0 ≤ (G.1 66 62).toInt ∧ (G.1 66 62).toInt ≤ 60 := bd_66_62 hB_G
    refine S_getI (v := (G.1 66 62)) (C := RX12) (T := TX12) (N := 89) hx hb hg iX12 hown hK hW kd_66 rfl 62 (lt_b rfl) (hg (Cond.fieldLink RX12 478 "SlabWalkModel" "most" "I") m1376) (fun _ h9 => h9) rfl (hq_4.i9 66 62 rfl rfl) dX12_keepOn_20 ?_
    refine lv_goto (tgt := 30) hx hb dX12_keepOn_23 rfl ?_
    exact hJ_20 (G.1 66 62) _ _ _ ⟨G_3, ⟨(by first | (clear ha_p0 ha_p1 ty_1 b_2 hn_10 f_9 ty_11 c_96; omega) | omega), (by first | (clear ha_p0 ha_p1 ty_1 b_2 hn_10 f_9 ty_11 c_96; omega) | omega)⟩, (Jn_n_keepOn_2_mk (Or.inl ⟨c_96, ⟨rfl, rfl⟩⟩)), hW, hB_G_3, hF, (Fr.rf (rs := []) (fs := [])), hS, lv_sub hl [0, 1, 2, 3, 4] rfl⟩

set_option maxHeartbeats 4000000 in
set_option maxRecDepth 100000 in
theorem n_isEven (l : Launch) (D : va_G) (k : KT) (A : Nat → Prop) (a : Nat → Nat) (z : SK) (G : GS) (p0 : Int32) (p1 : Int32) (ha_p0 : 0 ≤ p0.toInt ∧ p0.toInt ≤ 60) (ha_p1 : 0 ≤ p1.toInt ∧ p1.toInt ≤ 60) : Met l yX12_isEven (WS yX12_isEven cX12_isEven 6 (some .boolean)) ({ frames := 2, cells := 0, slots := 0, locals := 42 }) (va_Pc [.ref (a 66), .int p0, .int p1] (cW D k A a z G)) (va_Qi (fun (r : Int32) (G1 : GS) => Q_isEven p0 p1 G r G1) (fun (G1 : GS) t => Wd D k A a G1 t.heap) A) 0 0 A := by
  refine Met.ofW (cc := cX12_isEven) (maxL := 6) (ret := (some .boolean)) (by decide) rfl ?_
  intro p e s m args below meth c s₁ B hml hv
  obtain ⟨rfl, hW, hB_G, hK, hZ⟩ := hv
  have hx := B.exec
  have hb := B.bytes
  have hr := B.returns
  have hts := atoms_spec (ws := WS yX12_isEven cX12_isEven 6 (some .boolean)) B.pre
  have hgd : ∀ w ∈ gd, w ∈ WS yX12_isEven cX12_isEven 6 (some .boolean) := fun w h => List.mem_cons_of_mem _ h
  have hg : ∀ w ∈ gd, w.before _ s = true := fun w h => hts w (hgd w h)
  have hown : s.vm.findClass RX12 = some m.cls := findClass_of_methodNamed B.named
  have hS : va_S A s.heap s.heap [] := va_S.rf
  have hF : Fr [103] [] G G := Fr.rf
  have hl := lv_entry ([.ref (a 66), .int p0, .int p1]) (n := 6) (Nat.le_of_ble_eq_true rfl)
  rw [lg_entry_eq]
  generalize (lg_sl ([.ref (a 66), .int p0, .int p1]) ++ List.replicate (6 - (lg_sl ([.ref (a 66), .int p0, .int p1])).length) Slot.unset).toArray = ls at hl ⊢
  have hl : lv_has ls 6 [(0, .ref (a 66)), (1, .int p0), (2, .int p1)] := hl
  refine ic_0 hx hb dX12_isEven_0 ?_
  refine lv_istore_n (lv' := [(3, .int 0), (0, .ref (a 66)), (1, .int p0), (2, .int p1)]) hx hb dX12_isEven_1 rfl hl (lt_b rfl) rfl (fun ls hl => ?_)
  refine lv_sipush (v := 399) hx hb dX12_isEven_2 (by decide) ?_
  refine lv_istore (lv' := [(4, .int 399), (3, .int 0), (0, .ref (a 66)), (1, .int p0), (2, .int p1)]) hx hb dX12_isEven_5 hl (lt_b rfl) rfl (fun ls hl => ?_)
  have qc_8 : (0 : Int32).toInt = 0 := rfl
  have qc_9 : (399 : Int32).toInt = 399 := rfl
  refine loop_N (Inv := fun n H locs ls => ∃ (G_1 : GS) (x_5 : Int32) (x_6 : Int32), (n : Int) = x_5.toInt - (-1) ∧ ((-1) ≤ x_5.toInt ∧ x_5.toInt ≤ 399) ∧ (0 ≤ x_6.toInt ∧ x_6.toInt ≤ 1) ∧ Rc (St_n_isEven_1 p0 p1 G) (399, 0, G) (x_5, x_6, G_1) ∧ Wd D k A a G_1 H ∧ Bd G_1 ∧ Fr [103] [] G G_1 ∧ Fr [103] [] G G_1 ∧ va_S A s.heap H locs ∧ lv_has ls 6 [(4, .int x_5), (3, .int x_6), (0, .ref (a 66)), (1, .int p0), (2, .int p1)]) (fun n_4 H locs ls ih_3 hI => ?_) (399 - (-1) : Int).toNat ⟨G, 399, 0, (Int.toNat_of_nonneg (by omega)), ⟨by omega, by omega⟩, ⟨by omega, by omega⟩, Rc.rf, hW, hB_G, hF, Fr.rf, hS, lv_sub hl [0, 1, 2, 3, 4] rfl⟩
  obtain ⟨G_1, x_5, x_6, hn_12, f_10, f_11, hX_7, hW, hB_G_1, hF, hq_2, hS, hl⟩ := hI
  refine lv_iload hx hb dX12_isEven_7 (lv_at hl 0 rfl) ?_
  refine lv_if_lt (tgt := 169) hx hb dX12_isEven_9 rfl (fun c_13 => ?_) (fun c_13 => ?_)
  · have c_13 : x_5.toInt < 0 := xI_lt rfl rfl c_13
    refine lv_iload_n hx hb dX12_isEven_169 rfl (lv_at hl 1 rfl) ?_
    exact W.zret (v := x_6) hx hb hr (nar_z ((by first | (clear ha_p0 ha_p1 hn_12 f_10 c_13; omega) | omega)) ((by first | (clear ha_p0 ha_p1 hn_12 f_10 c_13; omega) | omega))) (fun t ht _ => ⟨⟨x_6, G_1, rfl, (Q_isEven_mk ⟨hB_G_1, hF, ⟨(by first | (clear ha_p0 ha_p1 hn_12 f_10 c_13; omega) | omega), (by first | (clear ha_p0 ha_p1 hn_12 f_10 c_13; omega) | omega)⟩, ⟨x_5, x_6, G_1, hX_7, f_10, f_11, hB_G_1, hq_2, ⟨c_13, ⟨rfl, rfl⟩⟩⟩⟩), wd_t ht hW⟩, hS.F ht⟩) hS.2.2 dX12_isEven_170
  · have c_13 : 0 ≤ x_5.toInt := xI_nlt rfl rfl c_13
    refine lv_aload_n hx hb dX12_isEven_12 rfl (lv_at hl 2 rfl) ?_
    refine S_getR (n := 103) (C := RX12) (T := TX12) (N := 89) hx hb hg iX12 hown hK hW kd_66 rfl 69 (lt_b rfl) (hg (Cond.fieldLink RX12 130 "SlabWalkModel" "comes" "[Z") m1383) (fun _ h9 => h9) rfl dX12_isEven_13 ?_
    refine lv_iload hx hb dX12_isEven_16 (lv_at hl 0 rfl) ?_
    refine lv_aload_n hx hb dX12_isEven_18 rfl (lv_at hl 2 rfl) ?_
    refine S_getR (n := 98) (C := RX12) (T := TX12) (N := 89) hx hb hg iX12 hown hK hW kd_66 rfl 58 (lt_b rfl) (hg (Cond.fieldLink RX12 115 "SlabWalkModel" "lawful" "[Z") m1372) (fun _ h9 => h9) rfl dX12_isEven_19 ?_
    refine lv_iload hx hb dX12_isEven_22 (lv_at hl 0 rfl) ?_
    refine S_zald hx hb hK hW kd_98 (vin ((by first | (clear ha_p0 ha_p1 hn_12 f_11; omega) | omega)) ((by first | (clear ha_p0 ha_p1 hn_12 f_11; omega) | omega))) dX12_isEven_24 (fun y_14 ey_14 => ?_)
    have ty_14 := hB_G_1.law ey_14
    refine W.cut (σ := Unit) (pcJ := 41) (J := fun y H locs ls => ∃ (G_22 : GS), Jn_n_isEven_2 x_5 y_14 G_1 G_22 ∧ Wd D k A a G_22 H ∧ Bd G_22 ∧ Fr [103] [] G G_22 ∧ Fr [] [] G_1 G_22 ∧ va_S A s.heap H locs ∧ lv_has ls 6 [(4, .int x_5), (3, .int x_6), (0, .ref (a 66)), (1, .int p0), (2, .int p1)]) (stJ := fun _ => [.int x_5, .ref (a 103)]) ?_ (fun hJ_23 => ?_)
    · intro y H locs ls hI
      obtain ⟨G_22, hX_25, hW, hB_G_22, hF, hq_24, hS, hl⟩ := hI
      refine ic_0 hx hb dX12_isEven_41 ?_
      refine S_zast hx hb hK hW hS kd_103 (vin ((by first | (clear ha_p0 ha_p1 hn_12 f_11; omega) | omega)) ((by first | (clear ha_p0 ha_p1 hn_12 f_11; omega) | omega))) dX12_isEven_42 (fun G_26 H locs eG_26 hW hS => ?_)
      have hB_G_26 : Bd G_26 := hB_G_22.put (lo := 0) (hi := 1) eG_26 rfl rfl rfl nz_bool.1 nz_bool.2 (hB_G_22.2.put eG_26 rfl)
      have hF := hF.put eG_26 (Or.inl (by decide))
      refine lv_iload_n hx hb dX12_isEven_43 rfl (lv_at hl 3 rfl) ?_
      refine lv_istore (lv' := [(5, .int p0), (4, .int x_5), (3, .int x_6), (0, .ref (a 66)), (1, .int p0), (2, .int p1)]) hx hb dX12_isEven_44 hl (lt_b rfl) rfl (fun ls hl => ?_)
      refine loop_N (Inv := fun n H locs ls => ∃ (G_27 : GS) (x_31 : Int32), (n : Int) = 61 - x_31.toInt ∧ (0 ≤ x_31.toInt ∧ x_31.toInt ≤ 61) ∧ Rc (St_n_isEven_3 p1 x_5) (p0, G_26) (x_31, G_27) ∧ Wd D k A a G_27 H ∧ Bd G_27 ∧ Fr [103] [] G G_27 ∧ Fr [103] [] G_26 G_27 ∧ va_S A s.heap H locs ∧ lv_has ls 6 [(5, .int x_31), (4, .int x_5), (3, .int x_6), (0, .ref (a 66)), (1, .int p0), (2, .int p1)]) (fun n_30 H locs ls ih_29 hI => ?_) (61 - p0.toInt : Int).toNat ⟨G_26, p0, (Int.toNat_of_nonneg ((by first | (clear ha_p1 hn_12 f_10 f_11 c_13; omega) | omega))), ⟨(by first | (clear ha_p1 hn_12 f_10 f_11 c_13; omega) | omega), (by first | (clear ha_p1 hn_12 f_10 f_11 c_13; omega) | omega)⟩, Rc.rf, hW, hB_G_26, hF, Fr.rf, hS, lv_sub hl [0, 1, 2, 3, 4, 5] rfl⟩
      obtain ⟨G_27, x_31, hn_34, f_33, hX_32, hW, hB_G_27, hF, hq_28, hS, hl⟩ := hI
      refine lv_iload hx hb dX12_isEven_46 (lv_at hl 0 rfl) ?_
      refine lv_iload_n hx hb dX12_isEven_48 rfl (lv_at hl 5 rfl) ?_
      refine W.cut (σ := Unit) (pcJ := 125) (J := fun y H locs ls => ∃ (G_40 : GS), Jn_n_isEven_4 p1 x_5 x_31 G_27 G_40 ∧ Wd D k A a G_40 H ∧ Bd G_40 ∧ Fr [103] [] G G_40 ∧ Fr [] [] G_27 G_40 ∧ va_S A s.heap H locs ∧ lv_has ls 6 [(4, .int x_5), (3, .int x_6), (0, .ref (a 66)), (1, .int p0), (2, .int p1)]) (stJ := fun _ => []) ?_ (fun hJ_41 => ?_)
      · intro y H locs ls hI
        obtain ⟨G_40, hX_43, hW, hB_G_40, hF, hq_42, hS, hl⟩ := hI
        refine lv_iload_n hx hb dX12_isEven_125 rfl (lv_at hl 1 rfl) ?_
        refine lv_if_ne (tgt := 157) hx hb dX12_isEven_126 rfl (fun c_44 => ?_) (fun c_44 => ?_)
        · have c_44 : x_6.toInt ≠ 0 := xI_ne rfl rfl c_44
          refine ic_1 hx hb dX12_isEven_157 ?_
          refine lv_goto (tgt := 162) hx hb dX12_isEven_158 rfl ?_
          refine lv_istore_n (lv' := [(3, .int 1), (4, .int x_5), (0, .ref (a 66)), (1, .int p0), (2, .int p1)]) hx hb dX12_isEven_162 rfl hl (lt_b rfl) rfl (fun ls hl => ?_)
          obtain ⟨y_45, ey_45⟩ : ∃ q, q = x_5 + (-1) := ⟨_, rfl⟩
          have ty_45 : y_45.toInt = x_5.toInt + (-1) := xI_add rfl rfl ey_45 ((by first | (clear ha_p0 ha_p1 hn_12 f_11 hn_34 f_33 c_44; omega) | omega)) ((by first | (clear ha_p0 ha_p1 hn_12 f_11 hn_34 f_33 c_44; omega) | omega))
          refine lv_iinc (v := y_45) (lv' := [(4, .int y_45), (3, .int 1), (0, .ref (a 66)), (1, .int p0), (2, .int p1)]) hx hb dX12_isEven_163 hl (k := 1) rfl (by rw [ey_45]; rfl) (lt_b rfl) rfl (fun ls hl => ?_)
          refine lv_goto (tgt := 7) hx hb dX12_isEven_166 rfl ?_
          have qc_46 : (1 : Int32).toInt = 1 := rfl
          exact ih_3 (y_45.toInt - (-1) : Int).toNat ((by first | (clear ha_p0 ha_p1 f_11 hn_34 f_33 c_44; omega) | omega)) _ _ _ ⟨G_40, y_45, 1, (Int.toNat_of_nonneg ((by first | (clear ha_p0 ha_p1 hn_12 f_11 hn_34 f_33 c_44; omega) | omega))), ⟨(by first | (clear ha_p0 ha_p1 hn_12 f_11 hn_34 f_33 c_44; omega) | omega), (by first | (clear ha_p0 ha_p1 hn_12 f_11 hn_34 f_33 c_44; omega) | omega)⟩, ⟨(by first | (clear ha_p0 ha_p1 hn_12 f_10 f_11 c_13 hn_34 f_33 c_44 ty_45; omega) | omega), (by first | (clear ha_p0 ha_p1 hn_12 f_10 f_11 c_13 hn_34 f_33 c_44 ty_45; omega) | omega)⟩, (hX_7.st (St_n_isEven_1_mk ⟨x_5, x_6, G_1, y_45, 1, G_40, rfl, rfl, f_10, f_11, hB_G_1, ⟨c_13, ⟨y_14, ey_14, (Or.inr ⟨G_22, hX_25, hB_G_22, hq_24, ⟨G_26, hB_G_26, (Fr.put (rs := [103]) (fs := []) Fr.rf eG_26 (Or.inl (by decide))), rw_ast eG_26, ⟨x_31, G_27, hX_32, f_33, hB_G_27, hq_28, ⟨G_40, hX_43, hB_G_40, hq_42, (Or.inr ⟨c_44, ⟨y_45, ty_45, ⟨rfl, rfl, rfl⟩⟩⟩)⟩⟩⟩⟩)⟩⟩⟩)), hW, hB_G_40, hF, (Fr.call9 (rs := [103]) (fs := []) (Fr.call9 (rs := [103]) (fs := []) (Fr.put (rs := [103]) (fs := []) (Fr.call9 (rs := [103]) (fs := []) (Fr.call9 (rs := [103]) (fs := []) Fr.rf hq_2 rfl rfl) hq_24 rfl rfl) eG_26 (Or.inl (by decide))) hq_28 rfl rfl) hq_42 rfl rfl), hS, lv_sub hl [0, 1, 2, 3, 4] rfl⟩
        · have c_44 : x_6.toInt = 0 := xI_eq rfl rfl c_44
          refine lv_iload hx hb dX12_isEven_129 (lv_at hl 0 rfl) ?_
          refine lv_aload_n hx hb dX12_isEven_131 rfl (lv_at hl 2 rfl) ?_
          have b_47 : 0 ≤ (G.1 66 62).toInt ∧ (G.1 66 62).toInt ≤ 60 := bd_66_62 hB_G
          refine S_getI (v := (G.1 66 62)) (C := RX12) (T := TX12) (N := 89) hx hb hg iX12 hown hK hW kd_66 rfl 62 (lt_b rfl) (hg (Cond.fieldLink RX12 478 "SlabWalkModel" "most" "I") m1376) (fun _ h9 => h9) rfl ((hq_42.i9 66 62 rfl rfl).trans ((hq_28.i9 66 62 rfl rfl).trans ((gp_ne eG_26 (fun q => absurd q.1 (Nat.ne_of_beq_eq_false rfl))).trans ((hq_24.i9 66 62 rfl rfl).trans (hq_2.i9 66 62 rfl rfl))))) dX12_isEven_132 ?_
          refine lv_icmp_ge (tgt := 161) hx hb dX12_isEven_135 rfl (fun c_48 => ?_) (fun c_48 => ?_)
          · have c_48 : (G.1 66 62).toInt ≤ x_5.toInt := xI_le rfl rfl c_48
            refine ic_0 hx hb dX12_isEven_161 ?_
            refine lv_istore_n (lv' := [(3, .int 0), (4, .int x_5), (0, .ref (a 66)), (1, .int p0), (2, .int p1)]) hx hb dX12_isEven_162 rfl hl (lt_b rfl) rfl (fun ls hl => ?_)
            obtain ⟨y_49, ey_49⟩ : ∃ q, q = x_5 + (-1) := ⟨_, rfl⟩
            have ty_49 : y_49.toInt = x_5.toInt + (-1) := xI_add rfl rfl ey_49 ((by first | (clear ha_p0 ha_p1 hn_12 f_11 hn_34 f_33 c_44; omega) | omega)) ((by first | (clear ha_p0 ha_p1 hn_12 f_11 hn_34 f_33 c_44; omega) | omega))
            refine lv_iinc (v := y_49) (lv' := [(4, .int y_49), (3, .int 0), (0, .ref (a 66)), (1, .int p0), (2, .int p1)]) hx hb dX12_isEven_163 hl (k := 1) rfl (by rw [ey_49]; rfl) (lt_b rfl) rfl (fun ls hl => ?_)
            refine lv_goto (tgt := 7) hx hb dX12_isEven_166 rfl ?_
            have qc_50 : (0 : Int32).toInt = 0 := rfl
            exact ih_3 (y_49.toInt - (-1) : Int).toNat ((by first | (clear ha_p0 ha_p1 f_11 hn_34 f_33 c_44; omega) | omega)) _ _ _ ⟨G_40, y_49, 0, (Int.toNat_of_nonneg ((by first | (clear ha_p0 ha_p1 hn_12 f_11 hn_34 f_33 c_44; omega) | omega))), ⟨(by first | (clear ha_p0 ha_p1 hn_12 f_11 hn_34 f_33 c_44; omega) | omega), (by first | (clear ha_p0 ha_p1 hn_12 f_11 hn_34 f_33 c_44; omega) | omega)⟩, ⟨(by first | (clear ha_p0 ha_p1 hn_12 f_10 f_11 c_13 hn_34 f_33 c_44 b_47 c_48 ty_49; omega) | omega), (by first | (clear ha_p0 ha_p1 hn_12 f_10 f_11 c_13 hn_34 f_33 c_44 b_47 c_48 ty_49; omega) | omega)⟩, (hX_7.st (St_n_isEven_1_mk ⟨x_5, x_6, G_1, y_49, 0, G_40, rfl, rfl, f_10, f_11, hB_G_1, ⟨c_13, ⟨y_14, ey_14, (Or.inr ⟨G_22, hX_25, hB_G_22, hq_24, ⟨G_26, hB_G_26, (Fr.put (rs := [103]) (fs := []) Fr.rf eG_26 (Or.inl (by decide))), rw_ast eG_26, ⟨x_31, G_27, hX_32, f_33, hB_G_27, hq_28, ⟨G_40, hX_43, hB_G_40, hq_42, (Or.inl ⟨c_44, (Or.inl ⟨c_48, ⟨y_49, ty_49, ⟨rfl, rfl, rfl⟩⟩⟩)⟩)⟩⟩⟩⟩)⟩⟩⟩)), hW, hB_G_40, hF, (Fr.call9 (rs := [103]) (fs := []) (Fr.call9 (rs := [103]) (fs := []) (Fr.put (rs := [103]) (fs := []) (Fr.call9 (rs := [103]) (fs := []) (Fr.call9 (rs := [103]) (fs := []) Fr.rf hq_2 rfl rfl) hq_24 rfl rfl) eG_26 (Or.inl (by decide))) hq_28 rfl rfl) hq_42 rfl rfl), hS, lv_sub hl [0, 1, 2, 3, 4] rfl⟩
          · have c_48 : x_5.toInt < (G.1 66 62).toInt := xI_nle rfl rfl c_48
            refine lv_aload_n hx hb dX12_isEven_138 rfl (lv_at hl 2 rfl) ?_
            refine S_getR (n := 103) (C := RX12) (T := TX12) (N := 89) hx hb hg iX12 hown hK hW kd_66 rfl 69 (lt_b rfl) (hg (Cond.fieldLink RX12 130 "SlabWalkModel" "comes" "[Z") m1383) (fun _ h9 => h9) rfl dX12_isEven_139 ?_
            refine lv_iload hx hb dX12_isEven_142 (lv_at hl 0 rfl) ?_
            refine S_zald hx hb hK hW kd_103 (vin ((by first | (clear ha_p0 ha_p1 hn_12 f_11 hn_34 f_33 c_44; omega) | omega)) ((by first | (clear ha_p0 ha_p1 hn_12 f_11 hn_34 f_33 c_44; omega) | omega))) dX12_isEven_144 (fun y_51 ey_51 => ?_)
            have ty_51 : 0 ≤ y_51.toInt ∧ y_51.toInt ≤ 1 := bv_103 hB_G_40 ey_51
            refine lv_if_eq (tgt := 161) hx hb dX12_isEven_145 rfl (fun c_52 => ?_) (fun c_52 => ?_)
            · have c_52 : y_51.toInt = 0 := xI_eq rfl rfl c_52
              refine ic_0 hx hb dX12_isEven_161 ?_
              refine lv_istore_n (lv' := [(3, .int 0), (4, .int x_5), (0, .ref (a 66)), (1, .int p0), (2, .int p1)]) hx hb dX12_isEven_162 rfl hl (lt_b rfl) rfl (fun ls hl => ?_)
              obtain ⟨y_53, ey_53⟩ : ∃ q, q = x_5 + (-1) := ⟨_, rfl⟩
              have ty_53 : y_53.toInt = x_5.toInt + (-1) := xI_add rfl rfl ey_53 ((by first | (clear ha_p0 ha_p1 hn_12 f_11 hn_34 f_33 c_44 ty_51 c_52; omega) | omega)) ((by first | (clear ha_p0 ha_p1 hn_12 f_11 hn_34 f_33 c_44 ty_51 c_52; omega) | omega))
              refine lv_iinc (v := y_53) (lv' := [(4, .int y_53), (3, .int 0), (0, .ref (a 66)), (1, .int p0), (2, .int p1)]) hx hb dX12_isEven_163 hl (k := 1) rfl (by rw [ey_53]; rfl) (lt_b rfl) rfl (fun ls hl => ?_)
              refine lv_goto (tgt := 7) hx hb dX12_isEven_166 rfl ?_
              have qc_54 : (0 : Int32).toInt = 0 := rfl
              exact ih_3 (y_53.toInt - (-1) : Int).toNat ((by first | (clear ha_p0 ha_p1 f_11 hn_34 f_33 c_44 ty_51 c_52; omega) | omega)) _ _ _ ⟨G_40, y_53, 0, (Int.toNat_of_nonneg ((by first | (clear ha_p0 ha_p1 hn_12 f_11 hn_34 f_33 c_44 ty_51 c_52; omega) | omega))), ⟨(by first | (clear ha_p0 ha_p1 hn_12 f_11 hn_34 f_33 c_44 ty_51 c_52; omega) | omega), (by first | (clear ha_p0 ha_p1 hn_12 f_11 hn_34 f_33 c_44 ty_51 c_52; omega) | omega)⟩, ⟨(by first | (clear ha_p0 ha_p1 hn_12 f_10 f_11 c_13 hn_34 f_33 c_44 b_47 c_48 ty_51 c_52 ty_53; omega) | omega), (by first | (clear ha_p0 ha_p1 hn_12 f_10 f_11 c_13 hn_34 f_33 c_44 b_47 c_48 ty_51 c_52 ty_53; omega) | omega)⟩, (hX_7.st (St_n_isEven_1_mk ⟨x_5, x_6, G_1, y_53, 0, G_40, rfl, rfl, f_10, f_11, hB_G_1, ⟨c_13, ⟨y_14, ey_14, (Or.inr ⟨G_22, hX_25, hB_G_22, hq_24, ⟨G_26, hB_G_26, (Fr.put (rs := [103]) (fs := []) Fr.rf eG_26 (Or.inl (by decide))), rw_ast eG_26, ⟨x_31, G_27, hX_32, f_33, hB_G_27, hq_28, ⟨G_40, hX_43, hB_G_40, hq_42, (Or.inl ⟨c_44, (Or.inr ⟨c_48, ⟨y_51, ey_51, (Or.inl ⟨c_52, ⟨y_53, ty_53, ⟨rfl, rfl, rfl⟩⟩⟩)⟩⟩)⟩)⟩⟩⟩⟩)⟩⟩⟩)), hW, hB_G_40, hF, (Fr.call9 (rs := [103]) (fs := []) (Fr.call9 (rs := [103]) (fs := []) (Fr.put (rs := [103]) (fs := []) (Fr.call9 (rs := [103]) (fs := []) (Fr.call9 (rs := [103]) (fs := []) Fr.rf hq_2 rfl rfl) hq_24 rfl rfl) eG_26 (Or.inl (by decide))) hq_28 rfl rfl) hq_42 rfl rfl), hS, lv_sub hl [0, 1, 2, 3, 4] rfl⟩
            · have c_52 : y_51.toInt ≠ 0 := xI_ne rfl rfl c_52
              refine lv_aload_n hx hb dX12_isEven_148 rfl (lv_at hl 2 rfl) ?_
              refine lv_iload hx hb dX12_isEven_149 (lv_at hl 0 rfl) ?_
              have b_55 : 0 ≤ (G.1 66 59).toInt ∧ (G.1 66 59).toInt ≤ 400 := bd_66_59 hB_G
              have g_56 : (G_40.1 66 59).toInt = (G.1 66 59).toInt := (congrArg Int32.toInt (show G_40.1 66 59 = (G.1 66 59) from ((hq_42.i9 66 59 rfl rfl).trans ((hq_28.i9 66 59 rfl rfl).trans ((gp_ne eG_26 (fun q => absurd q.1 (Nat.ne_of_beq_eq_false rfl))).trans ((hq_24.i9 66 59 rfl rfl).trans (hq_2.i9 66 59 rfl rfl)))))))
              have b_57 : 0 ≤ (G.1 66 60).toInt ∧ (G.1 66 60).toInt ≤ 12 := bd_66_60 hB_G
              have g_58 : (G_40.1 66 60).toInt = (G.1 66 60).toInt := (congrArg Int32.toInt (show G_40.1 66 60 = (G.1 66 60) from ((hq_42.i9 66 60 rfl rfl).trans ((hq_28.i9 66 60 rfl rfl).trans ((gp_ne eG_26 (fun q => absurd q.1 (Nat.ne_of_beq_eq_false rfl))).trans ((hq_24.i9 66 60 rfl rfl).trans (hq_2.i9 66 60 rfl rfl)))))))
              have g_59 : (G_40.1 66 62).toInt = (G.1 66 62).toInt := (congrArg Int32.toInt (show G_40.1 66 62 = (G.1 66 62) from ((hq_42.i9 66 62 rfl rfl).trans ((hq_28.i9 66 62 rfl rfl).trans ((gp_ne eG_26 (fun q => absurd q.1 (Nat.ne_of_beq_eq_false rfl))).trans ((hq_24.i9 66 62 rfl rfl).trans ((hq_2.i9 66 62 rfl rfl).trans (rfl))))))))
              refine S_calli (va_runV (As := [.int x_5]) (rest := []) ⟨hx, hb, hml, hown, hts⟩ (n_isEnd l D k A a z G_40 x_5 ⟨(by first | (clear ha_p0 ha_p1 hn_12 f_11 hn_34 f_33 c_44 ty_51 c_52 b_55 g_56 b_57 g_58; omega) | omega), (by first | (clear ha_p0 ha_p1 hn_12 f_11 hn_34 f_33 c_44 ty_51 c_52 b_55 g_56 b_57 g_58; omega) | omega)⟩) (cwV 1 hts (gd_V hgd m1854 m1856 m95 m131 m1857) rfl rfl rfl hd_X12_isEnd ⟨Nat.le_of_ble_eq_true rfl, Nat.le_of_ble_eq_true rfl⟩) (pre_W hW hB_G_40 hK hZ hS kd_66 rfl) rfl rfl hl.1 rfl (lv_room (Nat.le_of_ble_eq_true rfl)) dX12_isEven_151 ⟨Nat.le_of_ble_eq_true rfl, Nat.le_of_ble_eq_true rfl⟩) hS (fun r_60 G_61 H locs hpo hW hS => ?_)
              have hX_64 : Q_isEnd x_5 G_40 r_60 G_61 := hpo
              obtain ⟨hB_G_61, hq_62, f_65, ⟨d_1, d_2⟩, -⟩ := hpo
              have d_3 := d_2 c_13
              have hF := hF.call9 hq_62 rfl rfl
              refine lv_if_ne (tgt := 161) hx hb dX12_isEven_154 rfl (fun c_66 => ?_) (fun c_66 => ?_)
              · have c_66 : r_60.toInt ≠ 0 := xI_ne rfl rfl c_66
                refine ic_0 hx hb dX12_isEven_161 ?_
                refine lv_istore_n (lv' := [(3, .int 0), (4, .int x_5), (0, .ref (a 66)), (1, .int p0), (2, .int p1)]) hx hb dX12_isEven_162 rfl hl (lt_b rfl) rfl (fun ls hl => ?_)
                obtain ⟨y_67, ey_67⟩ : ∃ q, q = x_5 + (-1) := ⟨_, rfl⟩
                have ty_67 : y_67.toInt = x_5.toInt + (-1) := xI_add rfl rfl ey_67 ((by first | (clear ha_p0 ha_p1 hn_12 f_11 hn_34 f_33 c_44 ty_51 c_52 d_1 d_2; omega) | omega)) ((by first | (clear ha_p0 ha_p1 hn_12 f_11 hn_34 f_33 c_44 ty_51 c_52 d_1 d_2; omega) | omega))
                refine lv_iinc (v := y_67) (lv' := [(4, .int y_67), (3, .int 0), (0, .ref (a 66)), (1, .int p0), (2, .int p1)]) hx hb dX12_isEven_163 hl (k := 1) rfl (by rw [ey_67]; rfl) (lt_b rfl) rfl (fun ls hl => ?_)
                refine lv_goto (tgt := 7) hx hb dX12_isEven_166 rfl ?_
                have qc_68 : (0 : Int32).toInt = 0 := rfl
                exact ih_3 (y_67.toInt - (-1) : Int).toNat ((by first | (clear ha_p0 ha_p1 f_11 hn_34 f_33 c_44 ty_51 c_52 d_1 d_2; omega) | omega)) _ _ _ ⟨G_61, y_67, 0, (Int.toNat_of_nonneg ((by first | (clear ha_p0 ha_p1 hn_12 f_11 hn_34 f_33 c_44 ty_51 c_52 d_1 d_2; omega) | omega))), ⟨(by first | (clear ha_p0 ha_p1 hn_12 f_11 hn_34 f_33 c_44 ty_51 c_52 d_1 d_2; omega) | omega), (by first | (clear ha_p0 ha_p1 hn_12 f_11 hn_34 f_33 c_44 ty_51 c_52 d_1 d_2; omega) | omega)⟩, ⟨(by first | (clear ha_p0 ha_p1 hn_12 f_10 f_11 c_13 hn_34 f_33 c_44 b_47 c_48 ty_51 c_52 b_55 g_56 b_57 g_58 g_59 f_65 d_1 d_2 d_3 c_66 ty_67; omega) | omega), (by first | (clear ha_p0 ha_p1 hn_12 f_10 f_11 c_13 hn_34 f_33 c_44 b_47 c_48 ty_51 c_52 b_55 g_56 b_57 g_58 g_59 f_65 d_1 d_2 d_3 c_66 ty_67; omega) | omega)⟩, (hX_7.st (St_n_isEven_1_mk ⟨x_5, x_6, G_1, y_67, 0, G_61, rfl, rfl, f_10, f_11, hB_G_1, ⟨c_13, ⟨y_14, ey_14, (Or.inr ⟨G_22, hX_25, hB_G_22, hq_24, ⟨G_26, hB_G_26, (Fr.put (rs := [103]) (fs := []) Fr.rf eG_26 (Or.inl (by decide))), rw_ast eG_26, ⟨x_31, G_27, hX_32, f_33, hB_G_27, hq_28, ⟨G_40, hX_43, hB_G_40, hq_42, (Or.inl ⟨c_44, (Or.inr ⟨c_48, ⟨y_51, ey_51, (Or.inr ⟨c_52, ⟨r_60, G_61, hX_64, (Or.inr ⟨c_66, ⟨y_67, ty_67, ⟨rfl, rfl, rfl⟩⟩⟩)⟩⟩)⟩⟩)⟩)⟩⟩⟩⟩)⟩⟩⟩)), hW, hB_G_61, hF, (Fr.call9 (rs := [103]) (fs := []) (Fr.call9 (rs := [103]) (fs := []) (Fr.call9 (rs := [103]) (fs := []) (Fr.put (rs := [103]) (fs := []) (Fr.call9 (rs := [103]) (fs := []) (Fr.call9 (rs := [103]) (fs := []) Fr.rf hq_2 rfl rfl) hq_24 rfl rfl) eG_26 (Or.inl (by decide))) hq_28 rfl rfl) hq_42 rfl rfl) hq_62 rfl rfl), hS, lv_sub hl [0, 1, 2, 3, 4] rfl⟩
              · have c_66 : r_60.toInt = 0 := xI_eq rfl rfl c_66
                have d_4 := d_1 c_66
                refine ic_1 hx hb dX12_isEven_157 ?_
                refine lv_goto (tgt := 162) hx hb dX12_isEven_158 rfl ?_
                refine lv_istore_n (lv' := [(3, .int 1), (4, .int x_5), (0, .ref (a 66)), (1, .int p0), (2, .int p1)]) hx hb dX12_isEven_162 rfl hl (lt_b rfl) rfl (fun ls hl => ?_)
                obtain ⟨y_69, ey_69⟩ : ∃ q, q = x_5 + (-1) := ⟨_, rfl⟩
                have ty_69 : y_69.toInt = x_5.toInt + (-1) := xI_add rfl rfl ey_69 ((by first | (clear ha_p0 ha_p1 hn_12 f_11 hn_34 f_33 c_44 ty_51 c_52 d_1 d_2; omega) | omega)) ((by first | (clear ha_p0 ha_p1 hn_12 f_11 hn_34 f_33 c_44 ty_51 c_52 d_1 d_2; omega) | omega))
                refine lv_iinc (v := y_69) (lv' := [(4, .int y_69), (3, .int 1), (0, .ref (a 66)), (1, .int p0), (2, .int p1)]) hx hb dX12_isEven_163 hl (k := 1) rfl (by rw [ey_69]; rfl) (lt_b rfl) rfl (fun ls hl => ?_)
                refine lv_goto (tgt := 7) hx hb dX12_isEven_166 rfl ?_
                have qc_70 : (1 : Int32).toInt = 1 := rfl
                exact ih_3 (y_69.toInt - (-1) : Int).toNat ((by first | (clear ha_p0 ha_p1 f_11 hn_34 f_33 c_44 ty_51 c_52 d_1 d_2; omega) | omega)) _ _ _ ⟨G_61, y_69, 1, (Int.toNat_of_nonneg ((by first | (clear ha_p0 ha_p1 hn_12 f_11 hn_34 f_33 c_44 ty_51 c_52 d_1 d_2; omega) | omega))), ⟨(by first | (clear ha_p0 ha_p1 hn_12 f_11 hn_34 f_33 c_44 ty_51 c_52 d_1 d_2; omega) | omega), (by first | (clear ha_p0 ha_p1 hn_12 f_11 hn_34 f_33 c_44 ty_51 c_52 d_1 d_2; omega) | omega)⟩, ⟨(by first | (clear ha_p0 ha_p1 hn_12 f_10 f_11 c_13 hn_34 f_33 c_44 b_47 c_48 ty_51 c_52 b_55 g_56 b_57 g_58 g_59 f_65 d_1 d_2 d_3 c_66 d_4 ty_69; omega) | omega), (by first | (clear ha_p0 ha_p1 hn_12 f_10 f_11 c_13 hn_34 f_33 c_44 b_47 c_48 ty_51 c_52 b_55 g_56 b_57 g_58 g_59 f_65 d_1 d_2 d_3 c_66 d_4 ty_69; omega) | omega)⟩, (hX_7.st (St_n_isEven_1_mk ⟨x_5, x_6, G_1, y_69, 1, G_61, rfl, rfl, f_10, f_11, hB_G_1, ⟨c_13, ⟨y_14, ey_14, (Or.inr ⟨G_22, hX_25, hB_G_22, hq_24, ⟨G_26, hB_G_26, (Fr.put (rs := [103]) (fs := []) Fr.rf eG_26 (Or.inl (by decide))), rw_ast eG_26, ⟨x_31, G_27, hX_32, f_33, hB_G_27, hq_28, ⟨G_40, hX_43, hB_G_40, hq_42, (Or.inl ⟨c_44, (Or.inr ⟨c_48, ⟨y_51, ey_51, (Or.inr ⟨c_52, ⟨r_60, G_61, hX_64, (Or.inl ⟨c_66, ⟨y_69, ty_69, ⟨rfl, rfl, rfl⟩⟩⟩)⟩⟩)⟩⟩)⟩)⟩⟩⟩⟩)⟩⟩⟩)), hW, hB_G_61, hF, (Fr.call9 (rs := [103]) (fs := []) (Fr.call9 (rs := [103]) (fs := []) (Fr.call9 (rs := [103]) (fs := []) (Fr.put (rs := [103]) (fs := []) (Fr.call9 (rs := [103]) (fs := []) (Fr.call9 (rs := [103]) (fs := []) Fr.rf hq_2 rfl rfl) hq_24 rfl rfl) eG_26 (Or.inl (by decide))) hq_28 rfl rfl) hq_42 rfl rfl) hq_62 rfl rfl), hS, lv_sub hl [0, 1, 2, 3, 4] rfl⟩
      refine lv_icmp_gt (tgt := 125) hx hb dX12_isEven_49 rfl (fun c_71 => ?_) (fun c_71 => ?_)
      · have c_71 : p1.toInt < x_31.toInt := xI_lt rfl rfl c_71
        exact hJ_41 () _ _ _ ⟨G_27, (Jn_n_isEven_4_mk (Or.inl ⟨c_71, rfl⟩)), hW, hB_G_27, hF, (Fr.rf (rs := []) (fs := [])), hS, lv_sub hl [1, 2, 3, 4, 5] rfl⟩
      · have c_71 : x_31.toInt ≤ p1.toInt := xI_nlt rfl rfl c_71
        refine lv_aload_n hx hb dX12_isEven_52 rfl (lv_at hl 3 rfl) ?_
        refine S_getR (n := 98) (C := RX12) (T := TX12) (N := 89) hx hb hg iX12 hown hK hW kd_66 rfl 58 (lt_b rfl) (hg (Cond.fieldLink RX12 115 "SlabWalkModel" "lawful" "[Z") m1372) (fun _ h9 => h9) rfl dX12_isEven_53 ?_
        refine lv_iload hx hb dX12_isEven_56 (lv_at hl 1 rfl) ?_
        refine S_zald hx hb hK hW kd_98 (vin ((by first | (clear ha_p0 ha_p1 hn_12 f_11 hn_34 f_33 c_71; omega) | omega)) ((by first | (clear ha_p0 ha_p1 hn_12 f_11 hn_34 f_33 c_71; omega) | omega))) dX12_isEven_58 (fun y_72 ey_72 => ?_)
        have ty_72 := hB_G_27.law ey_72
        refine lv_if_eq (tgt := 125) hx hb dX12_isEven_59 rfl (fun c_73 => ?_) (fun c_73 => ?_)
        · have c_73 : y_72.toInt = 0 := xI_eq rfl rfl c_73
          exact hJ_41 () _ _ _ ⟨G_27, (Jn_n_isEven_4_mk (Or.inr ⟨c_71, ⟨y_72, ey_72, (Or.inl ⟨c_73, rfl⟩)⟩⟩)), hW, hB_G_27, hF, (Fr.rf (rs := []) (fs := [])), hS, lv_sub hl [1, 2, 3, 4, 5] rfl⟩
        · have c_73 : y_72.toInt ≠ 0 := xI_ne rfl rfl c_73
          refine lv_aload_n hx hb dX12_isEven_62 rfl (lv_at hl 3 rfl) ?_
          refine lv_iload hx hb dX12_isEven_63 (lv_at hl 1 rfl) ?_
          have b_74 : 0 ≤ (G.1 66 59).toInt ∧ (G.1 66 59).toInt ≤ 400 := bd_66_59 hB_G
          have g_75 : (G_27.1 66 59).toInt = (G.1 66 59).toInt := (congrArg Int32.toInt (show G_27.1 66 59 = (G.1 66 59) from ((hq_28.i9 66 59 rfl rfl).trans ((gp_ne eG_26 (fun q => absurd q.1 (Nat.ne_of_beq_eq_false rfl))).trans ((hq_24.i9 66 59 rfl rfl).trans (hq_2.i9 66 59 rfl rfl))))))
          have b_76 : 0 ≤ (G.1 66 60).toInt ∧ (G.1 66 60).toInt ≤ 12 := bd_66_60 hB_G
          have g_77 : (G_27.1 66 60).toInt = (G.1 66 60).toInt := (congrArg Int32.toInt (show G_27.1 66 60 = (G.1 66 60) from ((hq_28.i9 66 60 rfl rfl).trans ((gp_ne eG_26 (fun q => absurd q.1 (Nat.ne_of_beq_eq_false rfl))).trans ((hq_24.i9 66 60 rfl rfl).trans (hq_2.i9 66 60 rfl rfl))))))
          have b_78 : 0 ≤ (G.1 66 62).toInt ∧ (G.1 66 62).toInt ≤ 60 := bd_66_62 hB_G
          have g_79 : (G_27.1 66 62).toInt = (G.1 66 62).toInt := (congrArg Int32.toInt (show G_27.1 66 62 = (G.1 66 62) from ((hq_28.i9 66 62 rfl rfl).trans ((gp_ne eG_26 (fun q => absurd q.1 (Nat.ne_of_beq_eq_false rfl))).trans ((hq_24.i9 66 62 rfl rfl).trans (hq_2.i9 66 62 rfl rfl))))))
          refine S_calli (va_runV (As := [.int x_5]) (rest := []) ⟨hx, hb, hml, hown, hts⟩ (n_isEnd l D k A a z G_27 x_5 ⟨(by first | (clear ha_p0 ha_p1 hn_12 f_11 hn_34 f_33 c_71 c_73 b_74 g_75 b_76 g_77 b_78 g_79; omega) | omega), (by first | (clear ha_p0 ha_p1 hn_12 f_11 hn_34 f_33 c_71 c_73 b_74 g_75 b_76 g_77 b_78 g_79; omega) | omega)⟩) (cwV 1 hts (gd_V hgd m1854 m1856 m95 m131 m1857) rfl rfl rfl hd_X12_isEnd ⟨Nat.le_of_ble_eq_true rfl, Nat.le_of_ble_eq_true rfl⟩) (pre_W hW hB_G_27 hK hZ hS kd_66 rfl) rfl rfl hl.1 rfl (lv_room (Nat.le_of_ble_eq_true rfl)) dX12_isEven_65 ⟨Nat.le_of_ble_eq_true rfl, Nat.le_of_ble_eq_true rfl⟩) hS (fun r_80 G_81 H locs hpo hW hS => ?_)
          have hX_84 : Q_isEnd x_5 G_27 r_80 G_81 := hpo
          obtain ⟨hB_G_81, hq_82, f_85, ⟨d_5, d_6⟩, -⟩ := hpo
          have d_7 := d_6 c_13
          have hF := hF.call9 hq_82 rfl rfl
          refine lv_if_ne (tgt := 125) hx hb dX12_isEven_68 rfl (fun c_86 => ?_) (fun c_86 => ?_)
          · have c_86 : r_80.toInt ≠ 0 := xI_ne rfl rfl c_86
            exact hJ_41 () _ _ _ ⟨G_81, (Jn_n_isEven_4_mk (Or.inr ⟨c_71, ⟨y_72, ey_72, (Or.inr ⟨c_73, ⟨r_80, G_81, hX_84, (Or.inr ⟨c_86, rfl⟩)⟩⟩)⟩⟩)), hW, hB_G_81, hF, (Fr.call9 (rs := []) (fs := []) Fr.rf hq_82 rfl rfl), hS, lv_sub hl [1, 2, 3, 4, 5] rfl⟩
          · have c_86 : r_80.toInt = 0 := xI_eq rfl rfl c_86
            have d_8 := d_5 c_86
            refine lv_aload_n hx hb dX12_isEven_71 rfl (lv_at hl 3 rfl) ?_
            refine S_getR (n := 103) (C := RX12) (T := TX12) (N := 89) hx hb hg iX12 hown hK hW kd_66 rfl 69 (lt_b rfl) (hg (Cond.fieldLink RX12 130 "SlabWalkModel" "comes" "[Z") m1383) (fun _ h9 => h9) rfl dX12_isEven_72 ?_
            refine lv_iload hx hb dX12_isEven_75 (lv_at hl 1 rfl) ?_
            refine S_zald hx hb hK hW kd_103 (vin ((by first | (clear ha_p0 ha_p1 hn_12 f_11 hn_34 f_33 c_71 c_73 d_5 d_6; omega) | omega)) ((by first | (clear ha_p0 ha_p1 hn_12 f_11 hn_34 f_33 c_71 c_73 d_5 d_6; omega) | omega))) dX12_isEven_77 (fun y_87 ey_87 => ?_)
            have ty_87 : 0 ≤ y_87.toInt ∧ y_87.toInt ≤ 1 := bv_103 hB_G_81 ey_87
            refine lv_if_ne (tgt := 125) hx hb dX12_isEven_78 rfl (fun c_88 => ?_) (fun c_88 => ?_)
            · have c_88 : y_87.toInt ≠ 0 := xI_ne rfl rfl c_88
              exact hJ_41 () _ _ _ ⟨G_81, (Jn_n_isEven_4_mk (Or.inr ⟨c_71, ⟨y_72, ey_72, (Or.inr ⟨c_73, ⟨r_80, G_81, hX_84, (Or.inl ⟨c_86, ⟨y_87, ey_87, ⟨c_88, rfl⟩⟩⟩)⟩⟩)⟩⟩)), hW, hB_G_81, hF, (Fr.call9 (rs := []) (fs := []) Fr.rf hq_82 rfl rfl), hS, lv_sub hl [1, 2, 3, 4, 5] rfl⟩
            · have c_88 : y_87.toInt = 0 := xI_eq rfl rfl c_88
              refine lv_aload_n hx hb dX12_isEven_81 rfl (lv_at hl 3 rfl) ?_
              refine S_getR (n := 103) (C := RX12) (T := TX12) (N := 89) hx hb hg iX12 hown hK hW kd_66 rfl 69 (lt_b rfl) (hg (Cond.fieldLink RX12 130 "SlabWalkModel" "comes" "[Z") m1383) (fun _ h9 => h9) rfl dX12_isEven_82 ?_
              refine lv_iload hx hb dX12_isEven_85 (lv_at hl 1 rfl) ?_
              refine lv_aload_n hx hb dX12_isEven_87 rfl (lv_at hl 3 rfl) ?_
              refine S_getR (n := 98) (C := RX12) (T := TX12) (N := 89) hx hb hg iX12 hown hK hW kd_66 rfl 58 (lt_b rfl) (hg (Cond.fieldLink RX12 115 "SlabWalkModel" "lawful" "[Z") m1372) (fun _ h9 => h9) rfl dX12_isEven_88 ?_
              refine lv_iload hx hb dX12_isEven_91 (lv_at hl 1 rfl) ?_
              refine lv_iload hx hb dX12_isEven_93 (lv_at hl 0 rfl) ?_
              refine lv_iadd hx hb dX12_isEven_95 ?_
              refine lv_topi (fun y_89 ey_89 => ?_)
              have ty_89 : y_89.toInt = x_5.toInt + x_31.toInt := xI_add rfl rfl ey_89 ((by first | (clear ha_p0 hn_12 f_11 hn_34 c_73 d_5 d_6 ty_87 c_88; omega) | omega)) ((by first | (clear ha_p0 hn_12 f_11 hn_34 c_73 d_5 d_6 ty_87 c_88; omega) | omega))
              refine S_zald hx hb hK hW kd_98 (vin ((by first | (clear ha_p0 hn_12 f_11 hn_34 c_73 d_5 d_6 ty_87 c_88; omega) | omega)) ((by first | (clear ha_p0 hn_12 f_11 hn_34 c_73 d_5 d_6 ty_87 c_88; omega) | omega))) dX12_isEven_96 (fun y_90 ey_90 => ?_)
              have ty_90 := hB_G_81.law ey_90
              refine lv_if_eq (tgt := 117) hx hb dX12_isEven_97 rfl (fun c_91 => ?_) (fun c_91 => ?_)
              · have c_91 : y_90.toInt = 0 := xI_eq rfl rfl c_91
                refine ic_0 hx hb dX12_isEven_117 ?_
                refine S_zast hx hb hK hW hS kd_103 (vin ((by first | (clear ha_p0 hn_12 f_11 hn_34 c_73 d_5 d_6 ty_87 c_88 c_91; omega) | omega)) ((by first | (clear ha_p0 hn_12 f_11 hn_34 c_73 d_5 d_6 ty_87 c_88 c_91; omega) | omega))) dX12_isEven_118 (fun G_92 H locs eG_92 hW hS => ?_)
                have hB_G_92 : Bd G_92 := hB_G_81.put (lo := 0) (hi := 1) eG_92 rfl rfl rfl nz_bool.1 nz_bool.2 (hB_G_81.2.put eG_92 rfl)
                have hF := hF.put eG_92 (Or.inl (by decide))
                obtain ⟨y_93, ey_93⟩ : ∃ q, q = x_31 + 1 := ⟨_, rfl⟩
                have ty_93 : y_93.toInt = x_31.toInt + 1 := xI_add rfl rfl ey_93 ((by first | (clear ha_p0 hn_12 f_11 hn_34 c_73 d_5 d_6 ty_87 c_88 c_91; omega) | omega)) ((by first | (clear ha_p0 hn_12 f_11 hn_34 c_73 d_5 d_6 ty_87 c_88 c_91; omega) | omega))
                refine lv_iinc (v := y_93) (lv' := [(5, .int y_93), (4, .int x_5), (3, .int x_6), (0, .ref (a 66)), (1, .int p0), (2, .int p1)]) hx hb dX12_isEven_119 hl (k := 0) rfl (by rw [ey_93]; rfl) (lt_b rfl) rfl (fun ls hl => ?_)
                refine lv_goto (tgt := 46) hx hb dX12_isEven_122 rfl ?_
                exact ih_29 (61 - y_93.toInt : Int).toNat ((by first | (clear ha_p0 f_11 c_73 d_5 d_6 ty_87 c_88 c_91; omega) | omega)) _ _ _ ⟨G_92, y_93, (Int.toNat_of_nonneg ((by first | (clear ha_p0 hn_12 f_11 hn_34 c_73 d_5 d_6 ty_87 c_88 c_91; omega) | omega))), ⟨(by first | (clear ha_p0 hn_12 f_11 hn_34 c_73 d_5 d_6 ty_87 c_88 c_91; omega) | omega), (by first | (clear ha_p0 hn_12 f_11 hn_34 c_73 d_5 d_6 ty_87 c_88 c_91; omega) | omega)⟩, (hX_32.st (St_n_isEven_3_mk ⟨x_31, G_27, y_93, G_92, rfl, rfl, f_33, hB_G_27, ⟨c_71, ⟨y_72, ey_72, ⟨c_73, ⟨r_80, G_81, hX_84, ⟨c_86, ⟨y_87, ey_87, ⟨c_88, ⟨y_89, ty_89, ⟨y_90, ey_90, (Or.inl ⟨c_91, ⟨y_93, ty_93, ⟨rfl, (Fr.put (rs := [103]) (fs := []) Fr.rf eG_92 (Or.inl (by decide))), rw_ast eG_92⟩⟩⟩)⟩⟩⟩⟩⟩⟩⟩⟩⟩⟩)), hW, hB_G_92, hF, (Fr.put (rs := [103]) (fs := []) (Fr.call9 (rs := [103]) (fs := []) (Fr.call9 (rs := [103]) (fs := []) Fr.rf hq_28 rfl rfl) hq_82 rfl rfl) eG_92 (Or.inl (by decide))), hS, lv_sub hl [0, 1, 2, 3, 4, 5] rfl⟩
              · have c_91 : y_90.toInt ≠ 0 := xI_ne rfl rfl c_91
                refine lv_aload_n hx hb dX12_isEven_100 rfl (lv_at hl 3 rfl) ?_
                refine S_getR (n := 103) (C := RX12) (T := TX12) (N := 89) hx hb hg iX12 hown hK hW kd_66 rfl 69 (lt_b rfl) (hg (Cond.fieldLink RX12 130 "SlabWalkModel" "comes" "[Z") m1383) (fun _ h9 => h9) rfl dX12_isEven_101 ?_
                refine lv_iload hx hb dX12_isEven_104 (lv_at hl 1 rfl) ?_
                refine lv_iload hx hb dX12_isEven_106 (lv_at hl 0 rfl) ?_
                refine lv_iadd hx hb dX12_isEven_108 ?_
                refine lv_topi (fun y_94 ey_94 => ?_)
                have ty_94 : y_94.toInt = x_5.toInt + x_31.toInt := xI_add rfl rfl ey_94 ((by first | (clear ha_p0 hn_12 f_11 hn_34 c_73 d_5 d_6 ty_87 c_88 c_91; omega) | omega)) ((by first | (clear ha_p0 hn_12 f_11 hn_34 c_73 d_5 d_6 ty_87 c_88 c_91; omega) | omega))
                refine S_zald hx hb hK hW kd_103 (vin ((by first | (clear ha_p0 hn_12 f_11 hn_34 c_73 d_5 d_6 ty_87 c_88 c_91; omega) | omega)) ((by first | (clear ha_p0 hn_12 f_11 hn_34 c_73 d_5 d_6 ty_87 c_88 c_91; omega) | omega))) dX12_isEven_109 (fun y_95 ey_95 => ?_)
                have ty_95 : 0 ≤ y_95.toInt ∧ y_95.toInt ≤ 1 := bv_103 hB_G_81 ey_95
                refine lv_if_eq (tgt := 117) hx hb dX12_isEven_110 rfl (fun c_96 => ?_) (fun c_96 => ?_)
                · have c_96 : y_95.toInt = 0 := xI_eq rfl rfl c_96
                  refine ic_0 hx hb dX12_isEven_117 ?_
                  refine S_zast hx hb hK hW hS kd_103 (vin ((by first | (clear ha_p0 hn_12 f_11 hn_34 c_73 d_5 d_6 ty_87 c_88 c_91 ty_95 c_96; omega) | omega)) ((by first | (clear ha_p0 hn_12 f_11 hn_34 c_73 d_5 d_6 ty_87 c_88 c_91 ty_95 c_96; omega) | omega))) dX12_isEven_118 (fun G_97 H locs eG_97 hW hS => ?_)
                  have hB_G_97 : Bd G_97 := hB_G_81.put (lo := 0) (hi := 1) eG_97 rfl rfl rfl nz_bool.1 nz_bool.2 (hB_G_81.2.put eG_97 rfl)
                  have hF := hF.put eG_97 (Or.inl (by decide))
                  obtain ⟨y_98, ey_98⟩ : ∃ q, q = x_31 + 1 := ⟨_, rfl⟩
                  have ty_98 : y_98.toInt = x_31.toInt + 1 := xI_add rfl rfl ey_98 ((by first | (clear ha_p0 hn_12 f_11 hn_34 c_73 d_5 d_6 ty_87 c_88 c_91 ty_95 c_96; omega) | omega)) ((by first | (clear ha_p0 hn_12 f_11 hn_34 c_73 d_5 d_6 ty_87 c_88 c_91 ty_95 c_96; omega) | omega))
                  refine lv_iinc (v := y_98) (lv' := [(5, .int y_98), (4, .int x_5), (3, .int x_6), (0, .ref (a 66)), (1, .int p0), (2, .int p1)]) hx hb dX12_isEven_119 hl (k := 0) rfl (by rw [ey_98]; rfl) (lt_b rfl) rfl (fun ls hl => ?_)
                  refine lv_goto (tgt := 46) hx hb dX12_isEven_122 rfl ?_
                  exact ih_29 (61 - y_98.toInt : Int).toNat ((by first | (clear ha_p0 f_11 c_73 d_5 d_6 ty_87 c_88 c_91 ty_95 c_96; omega) | omega)) _ _ _ ⟨G_97, y_98, (Int.toNat_of_nonneg ((by first | (clear ha_p0 hn_12 f_11 hn_34 c_73 d_5 d_6 ty_87 c_88 c_91 ty_95 c_96; omega) | omega))), ⟨(by first | (clear ha_p0 hn_12 f_11 hn_34 c_73 d_5 d_6 ty_87 c_88 c_91 ty_95 c_96; omega) | omega), (by first | (clear ha_p0 hn_12 f_11 hn_34 c_73 d_5 d_6 ty_87 c_88 c_91 ty_95 c_96; omega) | omega)⟩, (hX_32.st (St_n_isEven_3_mk ⟨x_31, G_27, y_98, G_97, rfl, rfl, f_33, hB_G_27, ⟨c_71, ⟨y_72, ey_72, ⟨c_73, ⟨r_80, G_81, hX_84, ⟨c_86, ⟨y_87, ey_87, ⟨c_88, ⟨y_89, ty_89, ⟨y_90, ey_90, (Or.inr ⟨c_91, ⟨y_94, ty_94, ⟨y_95, ey_95, (Or.inl ⟨c_96, ⟨y_98, ty_98, ⟨rfl, (Fr.put (rs := [103]) (fs := []) Fr.rf eG_97 (Or.inl (by decide))), rw_ast eG_97⟩⟩⟩)⟩⟩⟩)⟩⟩⟩⟩⟩⟩⟩⟩⟩⟩)), hW, hB_G_97, hF, (Fr.put (rs := [103]) (fs := []) (Fr.call9 (rs := [103]) (fs := []) (Fr.call9 (rs := [103]) (fs := []) Fr.rf hq_28 rfl rfl) hq_82 rfl rfl) eG_97 (Or.inl (by decide))), hS, lv_sub hl [0, 1, 2, 3, 4, 5] rfl⟩
                · have c_96 : y_95.toInt ≠ 0 := xI_ne rfl rfl c_96
                  refine ic_1 hx hb dX12_isEven_113 ?_
                  refine lv_goto (tgt := 118) hx hb dX12_isEven_114 rfl ?_
                  refine S_zast hx hb hK hW hS kd_103 (vin ((by first | (clear ha_p0 hn_12 f_11 hn_34 c_73 d_5 d_6 ty_87 c_88 c_91 ty_95 c_96; omega) | omega)) ((by first | (clear ha_p0 hn_12 f_11 hn_34 c_73 d_5 d_6 ty_87 c_88 c_91 ty_95 c_96; omega) | omega))) dX12_isEven_118 (fun G_99 H locs eG_99 hW hS => ?_)
                  have hB_G_99 : Bd G_99 := hB_G_81.put (lo := 0) (hi := 1) eG_99 rfl rfl rfl nz_bool.1 nz_bool.2 (hB_G_81.2.put eG_99 rfl)
                  have hF := hF.put eG_99 (Or.inl (by decide))
                  obtain ⟨y_100, ey_100⟩ : ∃ q, q = x_31 + 1 := ⟨_, rfl⟩
                  have ty_100 : y_100.toInt = x_31.toInt + 1 := xI_add rfl rfl ey_100 ((by first | (clear ha_p0 hn_12 f_11 hn_34 c_73 d_5 d_6 ty_87 c_88 c_91 ty_95 c_96; omega) | omega)) ((by first | (clear ha_p0 hn_12 f_11 hn_34 c_73 d_5 d_6 ty_87 c_88 c_91 ty_95 c_96; omega) | omega))
                  refine lv_iinc (v := y_100) (lv' := [(5, .int y_100), (4, .int x_5), (3, .int x_6), (0, .ref (a 66)), (1, .int p0), (2, .int p1)]) hx hb dX12_isEven_119 hl (k := 0) rfl (by rw [ey_100]; rfl) (lt_b rfl) rfl (fun ls hl => ?_)
                  refine lv_goto (tgt := 46) hx hb dX12_isEven_122 rfl ?_
                  exact ih_29 (61 - y_100.toInt : Int).toNat ((by first | (clear ha_p0 f_11 c_73 d_5 d_6 ty_87 c_88 c_91 ty_95 c_96; omega) | omega)) _ _ _ ⟨G_99, y_100, (Int.toNat_of_nonneg ((by first | (clear ha_p0 hn_12 f_11 hn_34 c_73 d_5 d_6 ty_87 c_88 c_91 ty_95 c_96; omega) | omega))), ⟨(by first | (clear ha_p0 hn_12 f_11 hn_34 c_73 d_5 d_6 ty_87 c_88 c_91 ty_95 c_96; omega) | omega), (by first | (clear ha_p0 hn_12 f_11 hn_34 c_73 d_5 d_6 ty_87 c_88 c_91 ty_95 c_96; omega) | omega)⟩, (hX_32.st (St_n_isEven_3_mk ⟨x_31, G_27, y_100, G_99, rfl, rfl, f_33, hB_G_27, ⟨c_71, ⟨y_72, ey_72, ⟨c_73, ⟨r_80, G_81, hX_84, ⟨c_86, ⟨y_87, ey_87, ⟨c_88, ⟨y_89, ty_89, ⟨y_90, ey_90, (Or.inr ⟨c_91, ⟨y_94, ty_94, ⟨y_95, ey_95, (Or.inr ⟨c_96, ⟨y_100, ty_100, ⟨rfl, (Fr.put (rs := [103]) (fs := []) Fr.rf eG_99 (Or.inl (by decide))), rw_ast eG_99⟩⟩⟩)⟩⟩⟩)⟩⟩⟩⟩⟩⟩⟩⟩⟩⟩)), hW, hB_G_99, hF, (Fr.put (rs := [103]) (fs := []) (Fr.call9 (rs := [103]) (fs := []) (Fr.call9 (rs := [103]) (fs := []) Fr.rf hq_28 rfl rfl) hq_82 rfl rfl) eG_99 (Or.inl (by decide))), hS, lv_sub hl [0, 1, 2, 3, 4, 5] rfl⟩
    refine lv_if_eq (tgt := 41) hx hb dX12_isEven_25 rfl (fun c_101 => ?_) (fun c_101 => ?_)
    · have c_101 : y_14.toInt = 0 := xI_eq rfl rfl c_101
      exact hJ_23 () _ _ _ ⟨G_1, (Jn_n_isEven_2_mk (Or.inl ⟨c_101, rfl⟩)), hW, hB_G_1, hF, (Fr.rf (rs := []) (fs := [])), hS, lv_sub hl [0, 1, 2, 3, 4] rfl⟩
    · have c_101 : y_14.toInt ≠ 0 := xI_ne rfl rfl c_101
      refine lv_aload_n hx hb dX12_isEven_28 rfl (lv_at hl 2 rfl) ?_
      refine lv_iload hx hb dX12_isEven_29 (lv_at hl 0 rfl) ?_
      have b_102 : 0 ≤ (G.1 66 59).toInt ∧ (G.1 66 59).toInt ≤ 400 := bd_66_59 hB_G
      have g_103 : (G_1.1 66 59).toInt = (G.1 66 59).toInt := (congrArg Int32.toInt (show G_1.1 66 59 = (G.1 66 59) from (hq_2.i9 66 59 rfl rfl)))
      have b_104 : 0 ≤ (G.1 66 60).toInt ∧ (G.1 66 60).toInt ≤ 12 := bd_66_60 hB_G
      have g_105 : (G_1.1 66 60).toInt = (G.1 66 60).toInt := (congrArg Int32.toInt (show G_1.1 66 60 = (G.1 66 60) from (hq_2.i9 66 60 rfl rfl)))
      have b_106 : 0 ≤ (G.1 66 62).toInt ∧ (G.1 66 62).toInt ≤ 60 := bd_66_62 hB_G
      have g_107 : (G_1.1 66 62).toInt = (G.1 66 62).toInt := (congrArg Int32.toInt (show G_1.1 66 62 = (G.1 66 62) from (hq_2.i9 66 62 rfl rfl)))
      refine S_calli (va_runV (As := [.int x_5]) (rest := [.int x_5, .ref (a 103)]) ⟨hx, hb, hml, hown, hts⟩ (n_isEnd l D k A a z G_1 x_5 ⟨(by first | (clear ha_p0 ha_p1 hn_12 f_11 c_101 b_102 g_103 b_104 g_105 b_106 g_107; omega) | omega), (by first | (clear ha_p0 ha_p1 hn_12 f_11 c_101 b_102 g_103 b_104 g_105 b_106 g_107; omega) | omega)⟩) (cwV 1 hts (gd_V hgd m1854 m1856 m95 m131 m1857) rfl rfl rfl hd_X12_isEnd ⟨Nat.le_of_ble_eq_true rfl, Nat.le_of_ble_eq_true rfl⟩) (pre_W hW hB_G_1 hK hZ hS kd_66 rfl) rfl rfl hl.1 rfl (lv_room (Nat.le_of_ble_eq_true rfl)) dX12_isEven_31 ⟨Nat.le_of_ble_eq_true rfl, Nat.le_of_ble_eq_true rfl⟩) hS (fun r_108 G_109 H locs hpo hW hS => ?_)
      have hX_112 : Q_isEnd x_5 G_1 r_108 G_109 := hpo
      obtain ⟨hB_G_109, hq_110, f_113, ⟨d_9, d_10⟩, -⟩ := hpo
      have d_11 := d_10 c_13
      have hF := hF.call9 hq_110 rfl rfl
      refine lv_if_eq (tgt := 41) hx hb dX12_isEven_34 rfl (fun c_114 => ?_) (fun c_114 => ?_)
      · have c_114 : r_108.toInt = 0 := xI_eq rfl rfl c_114
        have d_12 := d_9 c_114
        exact hJ_23 () _ _ _ ⟨G_109, (Jn_n_isEven_2_mk (Or.inr ⟨c_101, ⟨r_108, G_109, hX_112, ⟨c_114, rfl⟩⟩⟩)), hW, hB_G_109, hF, (Fr.call9 (rs := []) (fs := []) Fr.rf hq_110 rfl rfl), hS, lv_sub hl [0, 1, 2, 3, 4] rfl⟩
      · have c_114 : r_108.toInt ≠ 0 := xI_ne rfl rfl c_114
        refine ic_1 hx hb dX12_isEven_37 ?_
        refine lv_goto (tgt := 42) hx hb dX12_isEven_38 rfl ?_
        refine S_zast hx hb hK hW hS kd_103 (vin ((by first | (clear ha_p0 ha_p1 hn_12 f_11 c_101 d_9 d_10; omega) | omega)) ((by first | (clear ha_p0 ha_p1 hn_12 f_11 c_101 d_9 d_10; omega) | omega))) dX12_isEven_42 (fun G_115 H locs eG_115 hW hS => ?_)
        have hB_G_115 : Bd G_115 := hB_G_109.put (lo := 0) (hi := 1) eG_115 rfl rfl rfl nz_bool.1 nz_bool.2 (hB_G_109.2.put eG_115 rfl)
        have hF := hF.put eG_115 (Or.inl (by decide))
        refine lv_iload_n hx hb dX12_isEven_43 rfl (lv_at hl 3 rfl) ?_
        refine lv_istore (lv' := [(5, .int p0), (4, .int x_5), (3, .int x_6), (0, .ref (a 66)), (1, .int p0), (2, .int p1)]) hx hb dX12_isEven_44 hl (lt_b rfl) rfl (fun ls hl => ?_)
        refine loop_N (Inv := fun n H locs ls => ∃ (G_116 : GS) (x_120 : Int32), (n : Int) = 61 - x_120.toInt ∧ (0 ≤ x_120.toInt ∧ x_120.toInt ≤ 61) ∧ Rc (St_n_isEven_5 p1 x_5) (p0, G_115) (x_120, G_116) ∧ Wd D k A a G_116 H ∧ Bd G_116 ∧ Fr [103] [] G G_116 ∧ Fr [103] [] G_115 G_116 ∧ va_S A s.heap H locs ∧ lv_has ls 6 [(5, .int x_120), (4, .int x_5), (3, .int x_6), (0, .ref (a 66)), (1, .int p0), (2, .int p1)]) (fun n_119 H locs ls ih_118 hI => ?_) (61 - p0.toInt : Int).toNat ⟨G_115, p0, (Int.toNat_of_nonneg ((by first | (clear ha_p1 hn_12 f_10 f_11 c_13 c_101 b_102 g_103 b_104 g_105 b_106 g_107 f_113 d_9 d_10 d_11 c_114; omega) | omega))), ⟨(by first | (clear ha_p1 hn_12 f_10 f_11 c_13 c_101 b_102 g_103 b_104 g_105 b_106 g_107 f_113 d_9 d_10 d_11 c_114; omega) | omega), (by first | (clear ha_p1 hn_12 f_10 f_11 c_13 c_101 b_102 g_103 b_104 g_105 b_106 g_107 f_113 d_9 d_10 d_11 c_114; omega) | omega)⟩, Rc.rf, hW, hB_G_115, hF, Fr.rf, hS, lv_sub hl [0, 1, 2, 3, 4, 5] rfl⟩
        obtain ⟨G_116, x_120, hn_123, f_122, hX_121, hW, hB_G_116, hF, hq_117, hS, hl⟩ := hI
        refine lv_iload hx hb dX12_isEven_46 (lv_at hl 0 rfl) ?_
        refine lv_iload_n hx hb dX12_isEven_48 rfl (lv_at hl 5 rfl) ?_
        refine W.cut (σ := Unit) (pcJ := 125) (J := fun y H locs ls => ∃ (G_129 : GS), Jn_n_isEven_6 p1 x_5 x_120 G_116 G_129 ∧ Wd D k A a G_129 H ∧ Bd G_129 ∧ Fr [103] [] G G_129 ∧ Fr [] [] G_116 G_129 ∧ va_S A s.heap H locs ∧ lv_has ls 6 [(4, .int x_5), (3, .int x_6), (0, .ref (a 66)), (1, .int p0), (2, .int p1)]) (stJ := fun _ => []) ?_ (fun hJ_130 => ?_)
        · intro y H locs ls hI
          obtain ⟨G_129, hX_132, hW, hB_G_129, hF, hq_131, hS, hl⟩ := hI
          refine lv_iload_n hx hb dX12_isEven_125 rfl (lv_at hl 1 rfl) ?_
          refine lv_if_ne (tgt := 157) hx hb dX12_isEven_126 rfl (fun c_133 => ?_) (fun c_133 => ?_)
          · have c_133 : x_6.toInt ≠ 0 := xI_ne rfl rfl c_133
            refine ic_1 hx hb dX12_isEven_157 ?_
            refine lv_goto (tgt := 162) hx hb dX12_isEven_158 rfl ?_
            refine lv_istore_n (lv' := [(3, .int 1), (4, .int x_5), (0, .ref (a 66)), (1, .int p0), (2, .int p1)]) hx hb dX12_isEven_162 rfl hl (lt_b rfl) rfl (fun ls hl => ?_)
            obtain ⟨y_134, ey_134⟩ : ∃ q, q = x_5 + (-1) := ⟨_, rfl⟩
            have ty_134 : y_134.toInt = x_5.toInt + (-1) := xI_add rfl rfl ey_134 ((by first | (clear ha_p0 ha_p1 hn_12 f_11 c_101 d_9 d_10 hn_123 f_122 c_133; omega) | omega)) ((by first | (clear ha_p0 ha_p1 hn_12 f_11 c_101 d_9 d_10 hn_123 f_122 c_133; omega) | omega))
            refine lv_iinc (v := y_134) (lv' := [(4, .int y_134), (3, .int 1), (0, .ref (a 66)), (1, .int p0), (2, .int p1)]) hx hb dX12_isEven_163 hl (k := 1) rfl (by rw [ey_134]; rfl) (lt_b rfl) rfl (fun ls hl => ?_)
            refine lv_goto (tgt := 7) hx hb dX12_isEven_166 rfl ?_
            have qc_135 : (1 : Int32).toInt = 1 := rfl
            exact ih_3 (y_134.toInt - (-1) : Int).toNat ((by first | (clear ha_p0 ha_p1 f_11 c_101 d_9 d_10 hn_123 f_122 c_133; omega) | omega)) _ _ _ ⟨G_129, y_134, 1, (Int.toNat_of_nonneg ((by first | (clear ha_p0 ha_p1 hn_12 f_11 c_101 d_9 d_10 hn_123 f_122 c_133; omega) | omega))), ⟨(by first | (clear ha_p0 ha_p1 hn_12 f_11 c_101 d_9 d_10 hn_123 f_122 c_133; omega) | omega), (by first | (clear ha_p0 ha_p1 hn_12 f_11 c_101 d_9 d_10 hn_123 f_122 c_133; omega) | omega)⟩, ⟨(by first | (clear ha_p0 ha_p1 hn_12 f_10 f_11 c_13 c_101 b_102 g_103 b_104 g_105 b_106 g_107 f_113 d_9 d_10 d_11 c_114 hn_123 f_122 c_133 ty_134; omega) | omega), (by first | (clear ha_p0 ha_p1 hn_12 f_10 f_11 c_13 c_101 b_102 g_103 b_104 g_105 b_106 g_107 f_113 d_9 d_10 d_11 c_114 hn_123 f_122 c_133 ty_134; omega) | omega)⟩, (hX_7.st (St_n_isEven_1_mk ⟨x_5, x_6, G_1, y_134, 1, G_129, rfl, rfl, f_10, f_11, hB_G_1, ⟨c_13, ⟨y_14, ey_14, (Or.inl ⟨c_101, ⟨r_108, G_109, hX_112, ⟨c_114, ⟨G_115, hB_G_115, (Fr.put (rs := [103]) (fs := []) Fr.rf eG_115 (Or.inl (by decide))), rw_ast eG_115, ⟨x_120, G_116, hX_121, f_122, hB_G_116, hq_117, ⟨G_129, hX_132, hB_G_129, hq_131, (Or.inr ⟨c_133, ⟨y_134, ty_134, ⟨rfl, rfl, rfl⟩⟩⟩)⟩⟩⟩⟩⟩⟩)⟩⟩⟩)), hW, hB_G_129, hF, (Fr.call9 (rs := [103]) (fs := []) (Fr.call9 (rs := [103]) (fs := []) (Fr.put (rs := [103]) (fs := []) (Fr.call9 (rs := [103]) (fs := []) (Fr.call9 (rs := [103]) (fs := []) Fr.rf hq_2 rfl rfl) hq_110 rfl rfl) eG_115 (Or.inl (by decide))) hq_117 rfl rfl) hq_131 rfl rfl), hS, lv_sub hl [0, 1, 2, 3, 4] rfl⟩
          · have c_133 : x_6.toInt = 0 := xI_eq rfl rfl c_133
            refine lv_iload hx hb dX12_isEven_129 (lv_at hl 0 rfl) ?_
            refine lv_aload_n hx hb dX12_isEven_131 rfl (lv_at hl 2 rfl) ?_
            refine S_getI (v := (G.1 66 62)) (C := RX12) (T := TX12) (N := 89) hx hb hg iX12 hown hK hW kd_66 rfl 62 (lt_b rfl) (hg (Cond.fieldLink RX12 478 "SlabWalkModel" "most" "I") m1376) (fun _ h9 => h9) rfl ((hq_131.i9 66 62 rfl rfl).trans ((hq_117.i9 66 62 rfl rfl).trans ((gp_ne eG_115 (fun q => absurd q.1 (Nat.ne_of_beq_eq_false rfl))).trans ((hq_110.i9 66 62 rfl rfl).trans ((hq_2.i9 66 62 rfl rfl).trans (rfl)))))) dX12_isEven_132 ?_
            refine lv_icmp_ge (tgt := 161) hx hb dX12_isEven_135 rfl (fun c_136 => ?_) (fun c_136 => ?_)
            · have c_136 : (G.1 66 62).toInt ≤ x_5.toInt := xI_le rfl rfl c_136
              refine ic_0 hx hb dX12_isEven_161 ?_
              refine lv_istore_n (lv' := [(3, .int 0), (4, .int x_5), (0, .ref (a 66)), (1, .int p0), (2, .int p1)]) hx hb dX12_isEven_162 rfl hl (lt_b rfl) rfl (fun ls hl => ?_)
              obtain ⟨y_137, ey_137⟩ : ∃ q, q = x_5 + (-1) := ⟨_, rfl⟩
              have ty_137 : y_137.toInt = x_5.toInt + (-1) := xI_add rfl rfl ey_137 ((by first | (clear ha_p0 ha_p1 hn_12 f_11 c_101 d_9 d_10 hn_123 f_122 c_133; omega) | omega)) ((by first | (clear ha_p0 ha_p1 hn_12 f_11 c_101 d_9 d_10 hn_123 f_122 c_133; omega) | omega))
              refine lv_iinc (v := y_137) (lv' := [(4, .int y_137), (3, .int 0), (0, .ref (a 66)), (1, .int p0), (2, .int p1)]) hx hb dX12_isEven_163 hl (k := 1) rfl (by rw [ey_137]; rfl) (lt_b rfl) rfl (fun ls hl => ?_)
              refine lv_goto (tgt := 7) hx hb dX12_isEven_166 rfl ?_
              have qc_138 : (0 : Int32).toInt = 0 := rfl
              exact ih_3 (y_137.toInt - (-1) : Int).toNat ((by first | (clear ha_p0 ha_p1 f_11 c_101 d_9 d_10 hn_123 f_122 c_133; omega) | omega)) _ _ _ ⟨G_129, y_137, 0, (Int.toNat_of_nonneg ((by first | (clear ha_p0 ha_p1 hn_12 f_11 c_101 d_9 d_10 hn_123 f_122 c_133; omega) | omega))), ⟨(by first | (clear ha_p0 ha_p1 hn_12 f_11 c_101 d_9 d_10 hn_123 f_122 c_133; omega) | omega), (by first | (clear ha_p0 ha_p1 hn_12 f_11 c_101 d_9 d_10 hn_123 f_122 c_133; omega) | omega)⟩, ⟨(by first | (clear ha_p0 ha_p1 hn_12 f_10 f_11 c_13 c_101 b_102 g_103 b_104 g_105 b_106 g_107 f_113 d_9 d_10 d_11 c_114 hn_123 f_122 c_133 c_136 ty_137; omega) | omega), (by first | (clear ha_p0 ha_p1 hn_12 f_10 f_11 c_13 c_101 b_102 g_103 b_104 g_105 b_106 g_107 f_113 d_9 d_10 d_11 c_114 hn_123 f_122 c_133 c_136 ty_137; omega) | omega)⟩, (hX_7.st (St_n_isEven_1_mk ⟨x_5, x_6, G_1, y_137, 0, G_129, rfl, rfl, f_10, f_11, hB_G_1, ⟨c_13, ⟨y_14, ey_14, (Or.inl ⟨c_101, ⟨r_108, G_109, hX_112, ⟨c_114, ⟨G_115, hB_G_115, (Fr.put (rs := [103]) (fs := []) Fr.rf eG_115 (Or.inl (by decide))), rw_ast eG_115, ⟨x_120, G_116, hX_121, f_122, hB_G_116, hq_117, ⟨G_129, hX_132, hB_G_129, hq_131, (Or.inl ⟨c_133, (Or.inl ⟨c_136, ⟨y_137, ty_137, ⟨rfl, rfl, rfl⟩⟩⟩)⟩)⟩⟩⟩⟩⟩⟩)⟩⟩⟩)), hW, hB_G_129, hF, (Fr.call9 (rs := [103]) (fs := []) (Fr.call9 (rs := [103]) (fs := []) (Fr.put (rs := [103]) (fs := []) (Fr.call9 (rs := [103]) (fs := []) (Fr.call9 (rs := [103]) (fs := []) Fr.rf hq_2 rfl rfl) hq_110 rfl rfl) eG_115 (Or.inl (by decide))) hq_117 rfl rfl) hq_131 rfl rfl), hS, lv_sub hl [0, 1, 2, 3, 4] rfl⟩
            · have c_136 : x_5.toInt < (G.1 66 62).toInt := xI_nle rfl rfl c_136
              refine lv_aload_n hx hb dX12_isEven_138 rfl (lv_at hl 2 rfl) ?_
              refine S_getR (n := 103) (C := RX12) (T := TX12) (N := 89) hx hb hg iX12 hown hK hW kd_66 rfl 69 (lt_b rfl) (hg (Cond.fieldLink RX12 130 "SlabWalkModel" "comes" "[Z") m1383) (fun _ h9 => h9) rfl dX12_isEven_139 ?_
              refine lv_iload hx hb dX12_isEven_142 (lv_at hl 0 rfl) ?_
              refine S_zald hx hb hK hW kd_103 (vin ((by first | (clear ha_p0 ha_p1 hn_12 f_11 c_101 d_9 d_10 hn_123 f_122 c_133; omega) | omega)) ((by first | (clear ha_p0 ha_p1 hn_12 f_11 c_101 d_9 d_10 hn_123 f_122 c_133; omega) | omega))) dX12_isEven_144 (fun y_139 ey_139 => ?_)
              have ty_139 : 0 ≤ y_139.toInt ∧ y_139.toInt ≤ 1 := bv_103 hB_G_129 ey_139
              refine lv_if_eq (tgt := 161) hx hb dX12_isEven_145 rfl (fun c_140 => ?_) (fun c_140 => ?_)
              · have c_140 : y_139.toInt = 0 := xI_eq rfl rfl c_140
                refine ic_0 hx hb dX12_isEven_161 ?_
                refine lv_istore_n (lv' := [(3, .int 0), (4, .int x_5), (0, .ref (a 66)), (1, .int p0), (2, .int p1)]) hx hb dX12_isEven_162 rfl hl (lt_b rfl) rfl (fun ls hl => ?_)
                obtain ⟨y_141, ey_141⟩ : ∃ q, q = x_5 + (-1) := ⟨_, rfl⟩
                have ty_141 : y_141.toInt = x_5.toInt + (-1) := xI_add rfl rfl ey_141 ((by first | (clear ha_p0 ha_p1 hn_12 f_11 c_101 d_9 d_10 hn_123 f_122 c_133 ty_139 c_140; omega) | omega)) ((by first | (clear ha_p0 ha_p1 hn_12 f_11 c_101 d_9 d_10 hn_123 f_122 c_133 ty_139 c_140; omega) | omega))
                refine lv_iinc (v := y_141) (lv' := [(4, .int y_141), (3, .int 0), (0, .ref (a 66)), (1, .int p0), (2, .int p1)]) hx hb dX12_isEven_163 hl (k := 1) rfl (by rw [ey_141]; rfl) (lt_b rfl) rfl (fun ls hl => ?_)
                refine lv_goto (tgt := 7) hx hb dX12_isEven_166 rfl ?_
                have qc_142 : (0 : Int32).toInt = 0 := rfl
                exact ih_3 (y_141.toInt - (-1) : Int).toNat ((by first | (clear ha_p0 ha_p1 f_11 c_101 d_9 d_10 hn_123 f_122 c_133 ty_139 c_140; omega) | omega)) _ _ _ ⟨G_129, y_141, 0, (Int.toNat_of_nonneg ((by first | (clear ha_p0 ha_p1 hn_12 f_11 c_101 d_9 d_10 hn_123 f_122 c_133 ty_139 c_140; omega) | omega))), ⟨(by first | (clear ha_p0 ha_p1 hn_12 f_11 c_101 d_9 d_10 hn_123 f_122 c_133 ty_139 c_140; omega) | omega), (by first | (clear ha_p0 ha_p1 hn_12 f_11 c_101 d_9 d_10 hn_123 f_122 c_133 ty_139 c_140; omega) | omega)⟩, ⟨(by first | (clear ha_p0 ha_p1 hn_12 f_10 f_11 c_13 c_101 b_102 g_103 b_104 g_105 b_106 g_107 f_113 d_9 d_10 d_11 c_114 hn_123 f_122 c_133 c_136 ty_139 c_140 ty_141; omega) | omega), (by first | (clear ha_p0 ha_p1 hn_12 f_10 f_11 c_13 c_101 b_102 g_103 b_104 g_105 b_106 g_107 f_113 d_9 d_10 d_11 c_114 hn_123 f_122 c_133 c_136 ty_139 c_140 ty_141; omega) | omega)⟩, (hX_7.st (St_n_isEven_1_mk ⟨x_5, x_6, G_1, y_141, 0, G_129, rfl, rfl, f_10, f_11, hB_G_1, ⟨c_13, ⟨y_14, ey_14, (Or.inl ⟨c_101, ⟨r_108, G_109, hX_112, ⟨c_114, ⟨G_115, hB_G_115, (Fr.put (rs := [103]) (fs := []) Fr.rf eG_115 (Or.inl (by decide))), rw_ast eG_115, ⟨x_120, G_116, hX_121, f_122, hB_G_116, hq_117, ⟨G_129, hX_132, hB_G_129, hq_131, (Or.inl ⟨c_133, (Or.inr ⟨c_136, ⟨y_139, ey_139, (Or.inl ⟨c_140, ⟨y_141, ty_141, ⟨rfl, rfl, rfl⟩⟩⟩)⟩⟩)⟩)⟩⟩⟩⟩⟩⟩)⟩⟩⟩)), hW, hB_G_129, hF, (Fr.call9 (rs := [103]) (fs := []) (Fr.call9 (rs := [103]) (fs := []) (Fr.put (rs := [103]) (fs := []) (Fr.call9 (rs := [103]) (fs := []) (Fr.call9 (rs := [103]) (fs := []) Fr.rf hq_2 rfl rfl) hq_110 rfl rfl) eG_115 (Or.inl (by decide))) hq_117 rfl rfl) hq_131 rfl rfl), hS, lv_sub hl [0, 1, 2, 3, 4] rfl⟩
              · have c_140 : y_139.toInt ≠ 0 := xI_ne rfl rfl c_140
                refine lv_aload_n hx hb dX12_isEven_148 rfl (lv_at hl 2 rfl) ?_
                refine lv_iload hx hb dX12_isEven_149 (lv_at hl 0 rfl) ?_
                have g_143 : (G_129.1 66 59).toInt = (G.1 66 59).toInt := (congrArg Int32.toInt (show G_129.1 66 59 = (G.1 66 59) from ((hq_131.i9 66 59 rfl rfl).trans ((hq_117.i9 66 59 rfl rfl).trans ((gp_ne eG_115 (fun q => absurd q.1 (Nat.ne_of_beq_eq_false rfl))).trans ((hq_110.i9 66 59 rfl rfl).trans ((hq_2.i9 66 59 rfl rfl).trans (rfl))))))))
                have g_144 : (G_129.1 66 60).toInt = (G.1 66 60).toInt := (congrArg Int32.toInt (show G_129.1 66 60 = (G.1 66 60) from ((hq_131.i9 66 60 rfl rfl).trans ((hq_117.i9 66 60 rfl rfl).trans ((gp_ne eG_115 (fun q => absurd q.1 (Nat.ne_of_beq_eq_false rfl))).trans ((hq_110.i9 66 60 rfl rfl).trans ((hq_2.i9 66 60 rfl rfl).trans (rfl))))))))
                have g_145 : (G_129.1 66 62).toInt = (G.1 66 62).toInt := (congrArg Int32.toInt (show G_129.1 66 62 = (G.1 66 62) from ((hq_131.i9 66 62 rfl rfl).trans ((hq_117.i9 66 62 rfl rfl).trans ((gp_ne eG_115 (fun q => absurd q.1 (Nat.ne_of_beq_eq_false rfl))).trans ((hq_110.i9 66 62 rfl rfl).trans ((hq_2.i9 66 62 rfl rfl).trans (rfl))))))))
                refine S_calli (va_runV (As := [.int x_5]) (rest := []) ⟨hx, hb, hml, hown, hts⟩ (n_isEnd l D k A a z G_129 x_5 ⟨(by first | (clear ha_p0 ha_p1 hn_12 f_11 c_101 d_9 d_10 hn_123 f_122 c_133 ty_139 c_140; omega) | omega), (by first | (clear ha_p0 ha_p1 hn_12 f_11 c_101 d_9 d_10 hn_123 f_122 c_133 ty_139 c_140; omega) | omega)⟩) (cwV 1 hts (gd_V hgd m1854 m1856 m95 m131 m1857) rfl rfl rfl hd_X12_isEnd ⟨Nat.le_of_ble_eq_true rfl, Nat.le_of_ble_eq_true rfl⟩) (pre_W hW hB_G_129 hK hZ hS kd_66 rfl) rfl rfl hl.1 rfl (lv_room (Nat.le_of_ble_eq_true rfl)) dX12_isEven_151 ⟨Nat.le_of_ble_eq_true rfl, Nat.le_of_ble_eq_true rfl⟩) hS (fun r_146 G_147 H locs hpo hW hS => ?_)
                have hX_150 : Q_isEnd x_5 G_129 r_146 G_147 := hpo
                obtain ⟨hB_G_147, hq_148, f_151, ⟨d_13, d_14⟩, -⟩ := hpo
                have d_15 := d_14 c_13
                have hF := hF.call9 hq_148 rfl rfl
                refine lv_if_ne (tgt := 161) hx hb dX12_isEven_154 rfl (fun c_152 => ?_) (fun c_152 => ?_)
                · have c_152 : r_146.toInt ≠ 0 := xI_ne rfl rfl c_152
                  refine ic_0 hx hb dX12_isEven_161 ?_
                  refine lv_istore_n (lv' := [(3, .int 0), (4, .int x_5), (0, .ref (a 66)), (1, .int p0), (2, .int p1)]) hx hb dX12_isEven_162 rfl hl (lt_b rfl) rfl (fun ls hl => ?_)
                  obtain ⟨y_153, ey_153⟩ : ∃ q, q = x_5 + (-1) := ⟨_, rfl⟩
                  have ty_153 : y_153.toInt = x_5.toInt + (-1) := xI_add rfl rfl ey_153 ((by first | (clear ha_p0 ha_p1 hn_12 f_11 c_101 d_9 d_10 hn_123 f_122 c_133 ty_139 c_140 d_13 d_14; omega) | omega)) ((by first | (clear ha_p0 ha_p1 hn_12 f_11 c_101 d_9 d_10 hn_123 f_122 c_133 ty_139 c_140 d_13 d_14; omega) | omega))
                  refine lv_iinc (v := y_153) (lv' := [(4, .int y_153), (3, .int 0), (0, .ref (a 66)), (1, .int p0), (2, .int p1)]) hx hb dX12_isEven_163 hl (k := 1) rfl (by rw [ey_153]; rfl) (lt_b rfl) rfl (fun ls hl => ?_)
                  refine lv_goto (tgt := 7) hx hb dX12_isEven_166 rfl ?_
                  have qc_154 : (0 : Int32).toInt = 0 := rfl
                  exact ih_3 (y_153.toInt - (-1) : Int).toNat ((by first | (clear ha_p0 ha_p1 f_11 c_101 d_9 d_10 hn_123 f_122 c_133 ty_139 c_140 d_13 d_14; omega) | omega)) _ _ _ ⟨G_147, y_153, 0, (Int.toNat_of_nonneg ((by first | (clear ha_p0 ha_p1 hn_12 f_11 c_101 d_9 d_10 hn_123 f_122 c_133 ty_139 c_140 d_13 d_14; omega) | omega))), ⟨(by first | (clear ha_p0 ha_p1 hn_12 f_11 c_101 d_9 d_10 hn_123 f_122 c_133 ty_139 c_140 d_13 d_14; omega) | omega), (by first | (clear ha_p0 ha_p1 hn_12 f_11 c_101 d_9 d_10 hn_123 f_122 c_133 ty_139 c_140 d_13 d_14; omega) | omega)⟩, ⟨(by first | (clear ha_p0 ha_p1 hn_12 f_10 f_11 c_13 c_101 b_102 g_103 b_104 g_105 b_106 g_107 f_113 d_9 d_10 d_11 c_114 hn_123 f_122 c_133 c_136 ty_139 c_140 g_143 g_144 g_145 f_151 d_13 d_14 d_15 c_152 ty_153; omega) | omega), (by first | (clear ha_p0 ha_p1 hn_12 f_10 f_11 c_13 c_101 b_102 g_103 b_104 g_105 b_106 g_107 f_113 d_9 d_10 d_11 c_114 hn_123 f_122 c_133 c_136 ty_139 c_140 g_143 g_144 g_145 f_151 d_13 d_14 d_15 c_152 ty_153; omega) | omega)⟩, (hX_7.st (St_n_isEven_1_mk ⟨x_5, x_6, G_1, y_153, 0, G_147, rfl, rfl, f_10, f_11, hB_G_1, ⟨c_13, ⟨y_14, ey_14, (Or.inl ⟨c_101, ⟨r_108, G_109, hX_112, ⟨c_114, ⟨G_115, hB_G_115, (Fr.put (rs := [103]) (fs := []) Fr.rf eG_115 (Or.inl (by decide))), rw_ast eG_115, ⟨x_120, G_116, hX_121, f_122, hB_G_116, hq_117, ⟨G_129, hX_132, hB_G_129, hq_131, (Or.inl ⟨c_133, (Or.inr ⟨c_136, ⟨y_139, ey_139, (Or.inr ⟨c_140, ⟨r_146, G_147, hX_150, (Or.inr ⟨c_152, ⟨y_153, ty_153, ⟨rfl, rfl, rfl⟩⟩⟩)⟩⟩)⟩⟩)⟩)⟩⟩⟩⟩⟩⟩)⟩⟩⟩)), hW, hB_G_147, hF, (Fr.call9 (rs := [103]) (fs := []) (Fr.call9 (rs := [103]) (fs := []) (Fr.call9 (rs := [103]) (fs := []) (Fr.put (rs := [103]) (fs := []) (Fr.call9 (rs := [103]) (fs := []) (Fr.call9 (rs := [103]) (fs := []) Fr.rf hq_2 rfl rfl) hq_110 rfl rfl) eG_115 (Or.inl (by decide))) hq_117 rfl rfl) hq_131 rfl rfl) hq_148 rfl rfl), hS, lv_sub hl [0, 1, 2, 3, 4] rfl⟩
                · have c_152 : r_146.toInt = 0 := xI_eq rfl rfl c_152
                  have d_16 := d_13 c_152
                  refine ic_1 hx hb dX12_isEven_157 ?_
                  refine lv_goto (tgt := 162) hx hb dX12_isEven_158 rfl ?_
                  refine lv_istore_n (lv' := [(3, .int 1), (4, .int x_5), (0, .ref (a 66)), (1, .int p0), (2, .int p1)]) hx hb dX12_isEven_162 rfl hl (lt_b rfl) rfl (fun ls hl => ?_)
                  obtain ⟨y_155, ey_155⟩ : ∃ q, q = x_5 + (-1) := ⟨_, rfl⟩
                  have ty_155 : y_155.toInt = x_5.toInt + (-1) := xI_add rfl rfl ey_155 ((by first | (clear ha_p0 ha_p1 hn_12 f_11 c_101 d_9 d_10 hn_123 f_122 c_133 ty_139 c_140 d_13 d_14; omega) | omega)) ((by first | (clear ha_p0 ha_p1 hn_12 f_11 c_101 d_9 d_10 hn_123 f_122 c_133 ty_139 c_140 d_13 d_14; omega) | omega))
                  refine lv_iinc (v := y_155) (lv' := [(4, .int y_155), (3, .int 1), (0, .ref (a 66)), (1, .int p0), (2, .int p1)]) hx hb dX12_isEven_163 hl (k := 1) rfl (by rw [ey_155]; rfl) (lt_b rfl) rfl (fun ls hl => ?_)
                  refine lv_goto (tgt := 7) hx hb dX12_isEven_166 rfl ?_
                  have qc_156 : (1 : Int32).toInt = 1 := rfl
                  exact ih_3 (y_155.toInt - (-1) : Int).toNat ((by first | (clear ha_p0 ha_p1 f_11 c_101 d_9 d_10 hn_123 f_122 c_133 ty_139 c_140 d_13 d_14; omega) | omega)) _ _ _ ⟨G_147, y_155, 1, (Int.toNat_of_nonneg ((by first | (clear ha_p0 ha_p1 hn_12 f_11 c_101 d_9 d_10 hn_123 f_122 c_133 ty_139 c_140 d_13 d_14; omega) | omega))), ⟨(by first | (clear ha_p0 ha_p1 hn_12 f_11 c_101 d_9 d_10 hn_123 f_122 c_133 ty_139 c_140 d_13 d_14; omega) | omega), (by first | (clear ha_p0 ha_p1 hn_12 f_11 c_101 d_9 d_10 hn_123 f_122 c_133 ty_139 c_140 d_13 d_14; omega) | omega)⟩, ⟨(by first | (clear ha_p0 ha_p1 hn_12 f_10 f_11 c_13 c_101 b_102 g_103 b_104 g_105 b_106 g_107 f_113 d_9 d_10 d_11 c_114 hn_123 f_122 c_133 c_136 ty_139 c_140 g_143 g_144 g_145 f_151 d_13 d_14 d_15 c_152 d_16 ty_155; omega) | omega), (by first | (clear ha_p0 ha_p1 hn_12 f_10 f_11 c_13 c_101 b_102 g_103 b_104 g_105 b_106 g_107 f_113 d_9 d_10 d_11 c_114 hn_123 f_122 c_133 c_136 ty_139 c_140 g_143 g_144 g_145 f_151 d_13 d_14 d_15 c_152 d_16 ty_155; omega) | omega)⟩, (hX_7.st (St_n_isEven_1_mk ⟨x_5, x_6, G_1, y_155, 1, G_147, rfl, rfl, f_10, f_11, hB_G_1, ⟨c_13, ⟨y_14, ey_14, (Or.inl ⟨c_101, ⟨r_108, G_109, hX_112, ⟨c_114, ⟨G_115, hB_G_115, (Fr.put (rs := [103]) (fs := []) Fr.rf eG_115 (Or.inl (by decide))), rw_ast eG_115, ⟨x_120, G_116, hX_121, f_122, hB_G_116, hq_117, ⟨G_129, hX_132, hB_G_129, hq_131, (Or.inl ⟨c_133, (Or.inr ⟨c_136, ⟨y_139, ey_139, (Or.inr ⟨c_140, ⟨r_146, G_147, hX_150, (Or.inl ⟨c_152, ⟨y_155, ty_155, ⟨rfl, rfl, rfl⟩⟩⟩)⟩⟩)⟩⟩)⟩)⟩⟩⟩⟩⟩⟩)⟩⟩⟩)), hW, hB_G_147, hF, (Fr.call9 (rs := [103]) (fs := []) (Fr.call9 (rs := [103]) (fs := []) (Fr.call9 (rs := [103]) (fs := []) (Fr.put (rs := [103]) (fs := []) (Fr.call9 (rs := [103]) (fs := []) (Fr.call9 (rs := [103]) (fs := []) Fr.rf hq_2 rfl rfl) hq_110 rfl rfl) eG_115 (Or.inl (by decide))) hq_117 rfl rfl) hq_131 rfl rfl) hq_148 rfl rfl), hS, lv_sub hl [0, 1, 2, 3, 4] rfl⟩
        refine lv_icmp_gt (tgt := 125) hx hb dX12_isEven_49 rfl (fun c_157 => ?_) (fun c_157 => ?_)
        · have c_157 : p1.toInt < x_120.toInt := xI_lt rfl rfl c_157
          exact hJ_130 () _ _ _ ⟨G_116, (Jn_n_isEven_6_mk (Or.inl ⟨c_157, rfl⟩)), hW, hB_G_116, hF, (Fr.rf (rs := []) (fs := [])), hS, lv_sub hl [1, 2, 3, 4, 5] rfl⟩
        · have c_157 : x_120.toInt ≤ p1.toInt := xI_nlt rfl rfl c_157
          refine lv_aload_n hx hb dX12_isEven_52 rfl (lv_at hl 3 rfl) ?_
          refine S_getR (n := 98) (C := RX12) (T := TX12) (N := 89) hx hb hg iX12 hown hK hW kd_66 rfl 58 (lt_b rfl) (hg (Cond.fieldLink RX12 115 "SlabWalkModel" "lawful" "[Z") m1372) (fun _ h9 => h9) rfl dX12_isEven_53 ?_
          refine lv_iload hx hb dX12_isEven_56 (lv_at hl 1 rfl) ?_
          refine S_zald hx hb hK hW kd_98 (vin ((by first | (clear ha_p0 ha_p1 hn_12 f_11 c_101 d_9 d_10 hn_123 f_122 c_157; omega) | omega)) ((by first | (clear ha_p0 ha_p1 hn_12 f_11 c_101 d_9 d_10 hn_123 f_122 c_157; omega) | omega))) dX12_isEven_58 (fun y_158 ey_158 => ?_)
          have ty_158 := hB_G_116.law ey_158
          refine lv_if_eq (tgt := 125) hx hb dX12_isEven_59 rfl (fun c_159 => ?_) (fun c_159 => ?_)
          · have c_159 : y_158.toInt = 0 := xI_eq rfl rfl c_159
            exact hJ_130 () _ _ _ ⟨G_116, (Jn_n_isEven_6_mk (Or.inr ⟨c_157, ⟨y_158, ey_158, (Or.inl ⟨c_159, rfl⟩)⟩⟩)), hW, hB_G_116, hF, (Fr.rf (rs := []) (fs := [])), hS, lv_sub hl [1, 2, 3, 4, 5] rfl⟩
          · have c_159 : y_158.toInt ≠ 0 := xI_ne rfl rfl c_159
            refine lv_aload_n hx hb dX12_isEven_62 rfl (lv_at hl 3 rfl) ?_
            refine lv_iload hx hb dX12_isEven_63 (lv_at hl 1 rfl) ?_
            have g_160 : (G_116.1 66 59).toInt = (G.1 66 59).toInt := (congrArg Int32.toInt (show G_116.1 66 59 = (G.1 66 59) from ((hq_117.i9 66 59 rfl rfl).trans ((gp_ne eG_115 (fun q => absurd q.1 (Nat.ne_of_beq_eq_false rfl))).trans ((hq_110.i9 66 59 rfl rfl).trans ((hq_2.i9 66 59 rfl rfl).trans (rfl)))))))
            have g_161 : (G_116.1 66 60).toInt = (G.1 66 60).toInt := (congrArg Int32.toInt (show G_116.1 66 60 = (G.1 66 60) from ((hq_117.i9 66 60 rfl rfl).trans ((gp_ne eG_115 (fun q => absurd q.1 (Nat.ne_of_beq_eq_false rfl))).trans ((hq_110.i9 66 60 rfl rfl).trans ((hq_2.i9 66 60 rfl rfl).trans (rfl)))))))
            have g_162 : (G_116.1 66 62).toInt = (G.1 66 62).toInt := (congrArg Int32.toInt (show G_116.1 66 62 = (G.1 66 62) from ((hq_117.i9 66 62 rfl rfl).trans ((gp_ne eG_115 (fun q => absurd q.1 (Nat.ne_of_beq_eq_false rfl))).trans ((hq_110.i9 66 62 rfl rfl).trans ((hq_2.i9 66 62 rfl rfl).trans (rfl)))))))
            refine S_calli (va_runV (As := [.int x_5]) (rest := []) ⟨hx, hb, hml, hown, hts⟩ (n_isEnd l D k A a z G_116 x_5 ⟨(by first | (clear ha_p0 ha_p1 hn_12 f_11 c_101 d_9 d_10 hn_123 f_122 c_157 c_159; omega) | omega), (by first | (clear ha_p0 ha_p1 hn_12 f_11 c_101 d_9 d_10 hn_123 f_122 c_157 c_159; omega) | omega)⟩) (cwV 1 hts (gd_V hgd m1854 m1856 m95 m131 m1857) rfl rfl rfl hd_X12_isEnd ⟨Nat.le_of_ble_eq_true rfl, Nat.le_of_ble_eq_true rfl⟩) (pre_W hW hB_G_116 hK hZ hS kd_66 rfl) rfl rfl hl.1 rfl (lv_room (Nat.le_of_ble_eq_true rfl)) dX12_isEven_65 ⟨Nat.le_of_ble_eq_true rfl, Nat.le_of_ble_eq_true rfl⟩) hS (fun r_163 G_164 H locs hpo hW hS => ?_)
            have hX_167 : Q_isEnd x_5 G_116 r_163 G_164 := hpo
            obtain ⟨hB_G_164, hq_165, f_168, ⟨d_17, d_18⟩, -⟩ := hpo
            have d_19 := d_18 c_13
            have hF := hF.call9 hq_165 rfl rfl
            refine lv_if_ne (tgt := 125) hx hb dX12_isEven_68 rfl (fun c_169 => ?_) (fun c_169 => ?_)
            · have c_169 : r_163.toInt ≠ 0 := xI_ne rfl rfl c_169
              exact hJ_130 () _ _ _ ⟨G_164, (Jn_n_isEven_6_mk (Or.inr ⟨c_157, ⟨y_158, ey_158, (Or.inr ⟨c_159, ⟨r_163, G_164, hX_167, (Or.inr ⟨c_169, rfl⟩)⟩⟩)⟩⟩)), hW, hB_G_164, hF, (Fr.call9 (rs := []) (fs := []) Fr.rf hq_165 rfl rfl), hS, lv_sub hl [1, 2, 3, 4, 5] rfl⟩
            · have c_169 : r_163.toInt = 0 := xI_eq rfl rfl c_169
              have d_20 := d_17 c_169
              refine lv_aload_n hx hb dX12_isEven_71 rfl (lv_at hl 3 rfl) ?_
              refine S_getR (n := 103) (C := RX12) (T := TX12) (N := 89) hx hb hg iX12 hown hK hW kd_66 rfl 69 (lt_b rfl) (hg (Cond.fieldLink RX12 130 "SlabWalkModel" "comes" "[Z") m1383) (fun _ h9 => h9) rfl dX12_isEven_72 ?_
              refine lv_iload hx hb dX12_isEven_75 (lv_at hl 1 rfl) ?_
              refine S_zald hx hb hK hW kd_103 (vin ((by first | (clear ha_p0 ha_p1 hn_12 f_11 c_101 d_9 d_10 hn_123 f_122 c_157 c_159 d_17 d_18; omega) | omega)) ((by first | (clear ha_p0 ha_p1 hn_12 f_11 c_101 d_9 d_10 hn_123 f_122 c_157 c_159 d_17 d_18; omega) | omega))) dX12_isEven_77 (fun y_170 ey_170 => ?_)
              have ty_170 : 0 ≤ y_170.toInt ∧ y_170.toInt ≤ 1 := bv_103 hB_G_164 ey_170
              refine lv_if_ne (tgt := 125) hx hb dX12_isEven_78 rfl (fun c_171 => ?_) (fun c_171 => ?_)
              · have c_171 : y_170.toInt ≠ 0 := xI_ne rfl rfl c_171
                exact hJ_130 () _ _ _ ⟨G_164, (Jn_n_isEven_6_mk (Or.inr ⟨c_157, ⟨y_158, ey_158, (Or.inr ⟨c_159, ⟨r_163, G_164, hX_167, (Or.inl ⟨c_169, ⟨y_170, ey_170, ⟨c_171, rfl⟩⟩⟩)⟩⟩)⟩⟩)), hW, hB_G_164, hF, (Fr.call9 (rs := []) (fs := []) Fr.rf hq_165 rfl rfl), hS, lv_sub hl [1, 2, 3, 4, 5] rfl⟩
              · have c_171 : y_170.toInt = 0 := xI_eq rfl rfl c_171
                refine lv_aload_n hx hb dX12_isEven_81 rfl (lv_at hl 3 rfl) ?_
                refine S_getR (n := 103) (C := RX12) (T := TX12) (N := 89) hx hb hg iX12 hown hK hW kd_66 rfl 69 (lt_b rfl) (hg (Cond.fieldLink RX12 130 "SlabWalkModel" "comes" "[Z") m1383) (fun _ h9 => h9) rfl dX12_isEven_82 ?_
                refine lv_iload hx hb dX12_isEven_85 (lv_at hl 1 rfl) ?_
                refine lv_aload_n hx hb dX12_isEven_87 rfl (lv_at hl 3 rfl) ?_
                refine S_getR (n := 98) (C := RX12) (T := TX12) (N := 89) hx hb hg iX12 hown hK hW kd_66 rfl 58 (lt_b rfl) (hg (Cond.fieldLink RX12 115 "SlabWalkModel" "lawful" "[Z") m1372) (fun _ h9 => h9) rfl dX12_isEven_88 ?_
                refine lv_iload hx hb dX12_isEven_91 (lv_at hl 1 rfl) ?_
                refine lv_iload hx hb dX12_isEven_93 (lv_at hl 0 rfl) ?_
                refine lv_iadd hx hb dX12_isEven_95 ?_
                refine lv_topi (fun y_172 ey_172 => ?_)
                have ty_172 : y_172.toInt = x_5.toInt + x_120.toInt := xI_add rfl rfl ey_172 ((by first | (clear ha_p0 hn_12 f_11 c_101 d_9 d_10 hn_123 c_159 d_17 d_18 ty_170 c_171; omega) | omega)) ((by first | (clear ha_p0 hn_12 f_11 c_101 d_9 d_10 hn_123 c_159 d_17 d_18 ty_170 c_171; omega) | omega))
                refine S_zald hx hb hK hW kd_98 (vin ((by first | (clear ha_p0 hn_12 f_11 c_101 d_9 d_10 hn_123 c_159 d_17 d_18 ty_170 c_171; omega) | omega)) ((by first | (clear ha_p0 hn_12 f_11 c_101 d_9 d_10 hn_123 c_159 d_17 d_18 ty_170 c_171; omega) | omega))) dX12_isEven_96 (fun y_173 ey_173 => ?_)
                have ty_173 := hB_G_164.law ey_173
                refine lv_if_eq (tgt := 117) hx hb dX12_isEven_97 rfl (fun c_174 => ?_) (fun c_174 => ?_)
                · have c_174 : y_173.toInt = 0 := xI_eq rfl rfl c_174
                  refine ic_0 hx hb dX12_isEven_117 ?_
                  refine S_zast hx hb hK hW hS kd_103 (vin ((by first | (clear ha_p0 hn_12 f_11 c_101 d_9 d_10 hn_123 c_159 d_17 d_18 ty_170 c_171 c_174; omega) | omega)) ((by first | (clear ha_p0 hn_12 f_11 c_101 d_9 d_10 hn_123 c_159 d_17 d_18 ty_170 c_171 c_174; omega) | omega))) dX12_isEven_118 (fun G_175 H locs eG_175 hW hS => ?_)
                  have hB_G_175 : Bd G_175 := hB_G_164.put (lo := 0) (hi := 1) eG_175 rfl rfl rfl nz_bool.1 nz_bool.2 (hB_G_164.2.put eG_175 rfl)
                  have hF := hF.put eG_175 (Or.inl (by decide))
                  obtain ⟨y_176, ey_176⟩ : ∃ q, q = x_120 + 1 := ⟨_, rfl⟩
                  have ty_176 : y_176.toInt = x_120.toInt + 1 := xI_add rfl rfl ey_176 ((by first | (clear ha_p0 hn_12 f_11 c_101 d_9 d_10 hn_123 c_159 d_17 d_18 ty_170 c_171 c_174; omega) | omega)) ((by first | (clear ha_p0 hn_12 f_11 c_101 d_9 d_10 hn_123 c_159 d_17 d_18 ty_170 c_171 c_174; omega) | omega))
                  refine lv_iinc (v := y_176) (lv' := [(5, .int y_176), (4, .int x_5), (3, .int x_6), (0, .ref (a 66)), (1, .int p0), (2, .int p1)]) hx hb dX12_isEven_119 hl (k := 0) rfl (by rw [ey_176]; rfl) (lt_b rfl) rfl (fun ls hl => ?_)
                  refine lv_goto (tgt := 46) hx hb dX12_isEven_122 rfl ?_
                  exact ih_118 (61 - y_176.toInt : Int).toNat ((by first | (clear ha_p0 f_11 c_101 d_9 d_10 c_159 d_17 d_18 ty_170 c_171 c_174; omega) | omega)) _ _ _ ⟨G_175, y_176, (Int.toNat_of_nonneg ((by first | (clear ha_p0 hn_12 f_11 c_101 d_9 d_10 hn_123 c_159 d_17 d_18 ty_170 c_171 c_174; omega) | omega))), ⟨(by first | (clear ha_p0 hn_12 f_11 c_101 d_9 d_10 hn_123 c_159 d_17 d_18 ty_170 c_171 c_174; omega) | omega), (by first | (clear ha_p0 hn_12 f_11 c_101 d_9 d_10 hn_123 c_159 d_17 d_18 ty_170 c_171 c_174; omega) | omega)⟩, (hX_121.st (St_n_isEven_5_mk ⟨x_120, G_116, y_176, G_175, rfl, rfl, f_122, hB_G_116, ⟨c_157, ⟨y_158, ey_158, ⟨c_159, ⟨r_163, G_164, hX_167, ⟨c_169, ⟨y_170, ey_170, ⟨c_171, ⟨y_172, ty_172, ⟨y_173, ey_173, (Or.inl ⟨c_174, ⟨y_176, ty_176, ⟨rfl, (Fr.put (rs := [103]) (fs := []) Fr.rf eG_175 (Or.inl (by decide))), rw_ast eG_175⟩⟩⟩)⟩⟩⟩⟩⟩⟩⟩⟩⟩⟩)), hW, hB_G_175, hF, (Fr.put (rs := [103]) (fs := []) (Fr.call9 (rs := [103]) (fs := []) (Fr.call9 (rs := [103]) (fs := []) Fr.rf hq_117 rfl rfl) hq_165 rfl rfl) eG_175 (Or.inl (by decide))), hS, lv_sub hl [0, 1, 2, 3, 4, 5] rfl⟩
                · have c_174 : y_173.toInt ≠ 0 := xI_ne rfl rfl c_174
                  refine lv_aload_n hx hb dX12_isEven_100 rfl (lv_at hl 3 rfl) ?_
                  refine S_getR (n := 103) (C := RX12) (T := TX12) (N := 89) hx hb hg iX12 hown hK hW kd_66 rfl 69 (lt_b rfl) (hg (Cond.fieldLink RX12 130 "SlabWalkModel" "comes" "[Z") m1383) (fun _ h9 => h9) rfl dX12_isEven_101 ?_
                  refine lv_iload hx hb dX12_isEven_104 (lv_at hl 1 rfl) ?_
                  refine lv_iload hx hb dX12_isEven_106 (lv_at hl 0 rfl) ?_
                  refine lv_iadd hx hb dX12_isEven_108 ?_
                  refine lv_topi (fun y_177 ey_177 => ?_)
                  have ty_177 : y_177.toInt = x_5.toInt + x_120.toInt := xI_add rfl rfl ey_177 ((by first | (clear ha_p0 hn_12 f_11 c_101 d_9 d_10 hn_123 c_159 d_17 d_18 ty_170 c_171 c_174; omega) | omega)) ((by first | (clear ha_p0 hn_12 f_11 c_101 d_9 d_10 hn_123 c_159 d_17 d_18 ty_170 c_171 c_174; omega) | omega))
                  refine S_zald hx hb hK hW kd_103 (vin ((by first | (clear ha_p0 hn_12 f_11 c_101 d_9 d_10 hn_123 c_159 d_17 d_18 ty_170 c_171 c_174; omega) | omega)) ((by first | (clear ha_p0 hn_12 f_11 c_101 d_9 d_10 hn_123 c_159 d_17 d_18 ty_170 c_171 c_174; omega) | omega))) dX12_isEven_109 (fun y_178 ey_178 => ?_)
                  have ty_178 : 0 ≤ y_178.toInt ∧ y_178.toInt ≤ 1 := bv_103 hB_G_164 ey_178
                  refine lv_if_eq (tgt := 117) hx hb dX12_isEven_110 rfl (fun c_179 => ?_) (fun c_179 => ?_)
                  · have c_179 : y_178.toInt = 0 := xI_eq rfl rfl c_179
                    refine ic_0 hx hb dX12_isEven_117 ?_
                    refine S_zast hx hb hK hW hS kd_103 (vin ((by first | (clear ha_p0 hn_12 f_11 c_101 d_9 d_10 hn_123 c_159 d_17 d_18 ty_170 c_171 c_174 ty_178 c_179; omega) | omega)) ((by first | (clear ha_p0 hn_12 f_11 c_101 d_9 d_10 hn_123 c_159 d_17 d_18 ty_170 c_171 c_174 ty_178 c_179; omega) | omega))) dX12_isEven_118 (fun G_180 H locs eG_180 hW hS => ?_)
                    have hB_G_180 : Bd G_180 := hB_G_164.put (lo := 0) (hi := 1) eG_180 rfl rfl rfl nz_bool.1 nz_bool.2 (hB_G_164.2.put eG_180 rfl)
                    have hF := hF.put eG_180 (Or.inl (by decide))
                    obtain ⟨y_181, ey_181⟩ : ∃ q, q = x_120 + 1 := ⟨_, rfl⟩
                    have ty_181 : y_181.toInt = x_120.toInt + 1 := xI_add rfl rfl ey_181 ((by first | (clear ha_p0 hn_12 f_11 c_101 d_9 d_10 hn_123 c_159 d_17 d_18 ty_170 c_171 c_174 ty_178 c_179; omega) | omega)) ((by first | (clear ha_p0 hn_12 f_11 c_101 d_9 d_10 hn_123 c_159 d_17 d_18 ty_170 c_171 c_174 ty_178 c_179; omega) | omega))
                    refine lv_iinc (v := y_181) (lv' := [(5, .int y_181), (4, .int x_5), (3, .int x_6), (0, .ref (a 66)), (1, .int p0), (2, .int p1)]) hx hb dX12_isEven_119 hl (k := 0) rfl (by rw [ey_181]; rfl) (lt_b rfl) rfl (fun ls hl => ?_)
                    refine lv_goto (tgt := 46) hx hb dX12_isEven_122 rfl ?_
                    exact ih_118 (61 - y_181.toInt : Int).toNat ((by first | (clear ha_p0 f_11 c_101 d_9 d_10 c_159 d_17 d_18 ty_170 c_171 c_174 ty_178 c_179; omega) | omega)) _ _ _ ⟨G_180, y_181, (Int.toNat_of_nonneg ((by first | (clear ha_p0 hn_12 f_11 c_101 d_9 d_10 hn_123 c_159 d_17 d_18 ty_170 c_171 c_174 ty_178 c_179; omega) | omega))), ⟨(by first | (clear ha_p0 hn_12 f_11 c_101 d_9 d_10 hn_123 c_159 d_17 d_18 ty_170 c_171 c_174 ty_178 c_179; omega) | omega), (by first | (clear ha_p0 hn_12 f_11 c_101 d_9 d_10 hn_123 c_159 d_17 d_18 ty_170 c_171 c_174 ty_178 c_179; omega) | omega)⟩, (hX_121.st (St_n_isEven_5_mk ⟨x_120, G_116, y_181, G_180, rfl, rfl, f_122, hB_G_116, ⟨c_157, ⟨y_158, ey_158, ⟨c_159, ⟨r_163, G_164, hX_167, ⟨c_169, ⟨y_170, ey_170, ⟨c_171, ⟨y_172, ty_172, ⟨y_173, ey_173, (Or.inr ⟨c_174, ⟨y_177, ty_177, ⟨y_178, ey_178, (Or.inl ⟨c_179, ⟨y_181, ty_181, ⟨rfl, (Fr.put (rs := [103]) (fs := []) Fr.rf eG_180 (Or.inl (by decide))), rw_ast eG_180⟩⟩⟩)⟩⟩⟩)⟩⟩⟩⟩⟩⟩⟩⟩⟩⟩)), hW, hB_G_180, hF, (Fr.put (rs := [103]) (fs := []) (Fr.call9 (rs := [103]) (fs := []) (Fr.call9 (rs := [103]) (fs := []) Fr.rf hq_117 rfl rfl) hq_165 rfl rfl) eG_180 (Or.inl (by decide))), hS, lv_sub hl [0, 1, 2, 3, 4, 5] rfl⟩
                  · have c_179 : y_178.toInt ≠ 0 := xI_ne rfl rfl c_179
                    refine ic_1 hx hb dX12_isEven_113 ?_
                    refine lv_goto (tgt := 118) hx hb dX12_isEven_114 rfl ?_
                    refine S_zast hx hb hK hW hS kd_103 (vin ((by first | (clear ha_p0 hn_12 f_11 c_101 d_9 d_10 hn_123 c_159 d_17 d_18 ty_170 c_171 c_174 ty_178 c_179; omega) | omega)) ((by first | (clear ha_p0 hn_12 f_11 c_101 d_9 d_10 hn_123 c_159 d_17 d_18 ty_170 c_171 c_174 ty_178 c_179; omega) | omega))) dX12_isEven_118 (fun G_182 H locs eG_182 hW hS => ?_)
                    have hB_G_182 : Bd G_182 := hB_G_164.put (lo := 0) (hi := 1) eG_182 rfl rfl rfl nz_bool.1 nz_bool.2 (hB_G_164.2.put eG_182 rfl)
                    have hF := hF.put eG_182 (Or.inl (by decide))
                    obtain ⟨y_183, ey_183⟩ : ∃ q, q = x_120 + 1 := ⟨_, rfl⟩
                    have ty_183 : y_183.toInt = x_120.toInt + 1 := xI_add rfl rfl ey_183 ((by first | (clear ha_p0 hn_12 f_11 c_101 d_9 d_10 hn_123 c_159 d_17 d_18 ty_170 c_171 c_174 ty_178 c_179; omega) | omega)) ((by first | (clear ha_p0 hn_12 f_11 c_101 d_9 d_10 hn_123 c_159 d_17 d_18 ty_170 c_171 c_174 ty_178 c_179; omega) | omega))
                    refine lv_iinc (v := y_183) (lv' := [(5, .int y_183), (4, .int x_5), (3, .int x_6), (0, .ref (a 66)), (1, .int p0), (2, .int p1)]) hx hb dX12_isEven_119 hl (k := 0) rfl (by rw [ey_183]; rfl) (lt_b rfl) rfl (fun ls hl => ?_)
                    refine lv_goto (tgt := 46) hx hb dX12_isEven_122 rfl ?_
                    exact ih_118 (61 - y_183.toInt : Int).toNat ((by first | (clear ha_p0 f_11 c_101 d_9 d_10 c_159 d_17 d_18 ty_170 c_171 c_174 ty_178 c_179; omega) | omega)) _ _ _ ⟨G_182, y_183, (Int.toNat_of_nonneg ((by first | (clear ha_p0 hn_12 f_11 c_101 d_9 d_10 hn_123 c_159 d_17 d_18 ty_170 c_171 c_174 ty_178 c_179; omega) | omega))), ⟨(by first | (clear ha_p0 hn_12 f_11 c_101 d_9 d_10 hn_123 c_159 d_17 d_18 ty_170 c_171 c_174 ty_178 c_179; omega) | omega), (by first | (clear ha_p0 hn_12 f_11 c_101 d_9 d_10 hn_123 c_159 d_17 d_18 ty_170 c_171 c_174 ty_178 c_179; omega) | omega)⟩, (hX_121.st (St_n_isEven_5_mk ⟨x_120, G_116, y_183, G_182, rfl, rfl, f_122, hB_G_116, ⟨c_157, ⟨y_158, ey_158, ⟨c_159, ⟨r_163, G_164, hX_167, ⟨c_169, ⟨y_170, ey_170, ⟨c_171, ⟨y_172, ty_172, ⟨y_173, ey_173, (Or.inr ⟨c_174, ⟨y_177, ty_177, ⟨y_178, ey_178, (Or.inr ⟨c_179, ⟨y_183, ty_183, ⟨rfl, (Fr.put (rs := [103]) (fs := []) Fr.rf eG_182 (Or.inl (by decide))), rw_ast eG_182⟩⟩⟩)⟩⟩⟩)⟩⟩⟩⟩⟩⟩⟩⟩⟩⟩)), hW, hB_G_182, hF, (Fr.put (rs := [103]) (fs := []) (Fr.call9 (rs := [103]) (fs := []) (Fr.call9 (rs := [103]) (fs := []) Fr.rf hq_117 rfl rfl) hq_165 rfl rfl) eG_182 (Or.inl (by decide))), hS, lv_sub hl [0, 1, 2, 3, 4, 5] rfl⟩
