theorem m3 : Cond.selects RX9 yX9_isLetter yX9_isLetter ∈ gd := gds_1 3 rfl
theorem m4 : Cond.selects RX9 yX9_cutWord yX9_cutWord ∈ gd := gds_1 4 rfl
theorem m5 : Cond.selects RX9 yX9_kindOfWord yX9_kindOfWord ∈ gd := gds_1 5 rfl
theorem m6 : Cond.selects RX9 yX9_isDigit yX9_isDigit ∈ gd := gds_1 6 rfl
theorem m7 : Cond.selects RX9 yX9_cutNumber yX9_cutNumber ∈ gd := gds_1 7 rfl
theorem m120 : Cond.initialized RX9 ∈ gd := gdc_1_0 4 rfl gw_initialized
theorem m260 : Cond.fieldLink RX9 28 "SlabWalk$Tokens" "at" "I" ∈ gd := gdc_1_9 0 rfl gw_fieldLink
theorem m266 : Cond.fieldLink RX9 85 "SlabWalk$Tokens" "number" "I" ∈ gd := gdc_1_9 6 rfl gw_fieldLink
theorem m269 : Cond.fieldLink RX9 68 "SlabWalk$Tokens" "word" "J" ∈ gd := gdc_1_9 9 rfl gw_fieldLink
theorem m635 : Cond.methodLink RX9 19 Lib.Math.min.name ∈ gd := gdc_3_2 7 rfl gw_methodLink
theorem m638 : Cond.methodLink RX9 34 yX9_advance ∈ gd := gdc_3_2 10 rfl gw_methodLink
theorem m639 : Cond.instanceMethod yX9_advance ∈ gd := gdc_3_2 11 rfl gw_instanceMethod
theorem m640 : Cond.selects RX9 yX9_advance yX9_advance ∈ gd := gdc_3_2 12 rfl gw_selects
theorem m641 : Cond.code yX9_advance cX9_advance 2 (some .boolean) ∈ gd := gdc_3_2 13 rfl gw_code
theorem m642 : Cond.methodLink RX9 48 yX9_isLetter ∈ gd := gdc_3_2 14 rfl gw_methodLink
theorem m644 : Cond.instanceMethod yX9_isLetter ∈ gd := gdc_3_3 0 rfl gw_instanceMethod
theorem m645 : Cond.code yX9_isLetter cX9_isLetter 2 (some .boolean) ∈ gd := gdc_3_3 1 rfl gw_code
theorem m646 : Cond.methodLink RX9 51 yX9_cutWord ∈ gd := gdc_3_3 2 rfl gw_methodLink
theorem m648 : Cond.instanceMethod yX9_cutWord ∈ gd := gdc_3_3 4 rfl gw_instanceMethod
theorem m649 : Cond.code yX9_cutWord cX9_cutWord 1 none ∈ gd := gdc_3_3 5 rfl gw_code
theorem m650 : Cond.methodLink RX9 72 yX9_kindOfWord ∈ gd := gdc_3_3 6 rfl gw_methodLink
theorem m652 : Cond.instanceMethod yX9_kindOfWord ∈ gd := gdc_3_3 8 rfl gw_instanceMethod
theorem m653 : Cond.code yX9_kindOfWord cX9_kindOfWord 3 (some .int) ∈ gd := gdc_3_3 9 rfl gw_code
theorem m655 : Cond.methodLink RX9 78 yJ0_length_8abf5 ∈ gd := gdc_3_3 11 rfl gw_methodLink
theorem m665 : Cond.methodLink RX9 81 yJ0_charAt_5068e ∈ gd := gdc_3_4 5 rfl gw_methodLink
theorem m666 : Cond.instanceMethod yJ0_charAt_5068e ∈ gd := gdc_3_4 6 rfl gw_instanceMethod
theorem m667 : Cond.selects "java/lang/String" yJ0_charAt_5068e yJ0_charAt_5068e ∈ gd := gdc_3_4 7 rfl gw_selects
theorem m668 : Cond.code yJ0_charAt_5068e cJ0_charAt_5068e 2 (some .char) ∈ gd := gdc_3_4 8 rfl gw_code
theorem m703 : Cond.methodLink RX9 54 yX9_isDigit ∈ gd := gdc_3_6 11 rfl gw_methodLink
theorem m705 : Cond.instanceMethod yX9_isDigit ∈ gd := gdc_3_6 13 rfl gw_instanceMethod
theorem m706 : Cond.code yX9_isDigit cX9_isDigit 2 (some .boolean) ∈ gd := gdc_3_6 14 rfl gw_code
theorem m707 : Cond.methodLink RX9 57 yX9_cutNumber ∈ gd := gdc_3_6 15 rfl gw_methodLink
theorem m709 : Cond.instanceMethod yX9_cutNumber ∈ gd := gdc_3_7 1 rfl gw_instanceMethod
theorem m710 : Cond.code yX9_cutNumber cX9_cutNumber 1 none ∈ gd := gdc_3_7 2 rfl gw_code
theorem m712 : Cond.methodLink RX9 62 yJ0_indexOf_0f7a4 ∈ gd := gdc_3_7 4 rfl gw_methodLink
theorem m713 : Cond.instanceMethod yJ0_indexOf_0f7a4 ∈ gd := gdc_3_7 5 rfl gw_instanceMethod
theorem m714 : Cond.selects "java/lang/String" yJ0_indexOf_0f7a4 yJ0_indexOf_0f7a4 ∈ gd := gdc_3_7 6 rfl gw_selects
theorem m715 : Cond.code yJ0_indexOf_0f7a4 cJ0_indexOf_0f7a4 2 (some .int) ∈ gd := gdc_3_7 7 rfl gw_code
theorem m779 : Cond.instanceMethod yX9_refuse ∈ gd := gdc_3_11 7 rfl gw_instanceMethod
theorem m780 : Cond.selects RX9 yX9_refuse yX9_refuse ∈ gd := gdc_3_11 8 rfl gw_selects
theorem m781 : Cond.code yX9_refuse cX9_refuse 2 (some .boolean) ∈ gd := gdc_3_11 9 rfl gw_code
theorem m790 : Cond.methodLink RX9 44 yX9_refuse ∈ gd := gdc_3_12 2 rfl gw_methodLink
def rbX9_advance_0 : List (Nat × List Nat) := [(0, [42]), (1, [180, 0, 28]), (4, [42]), (5, [180, 0, 25]), (8, [162, 0, 44]), (11, [42]), (12, [180, 0, 15]), (15, [42]), (16, [180, 0, 28]), (19, [51]), (20, [16, 32]), (22, [159, 0, 17]), (25, [42]), (26, [180, 0, 15]), (29, [42]), (30, [180, 0, 28]), (33, [51]), (34, [16, 10]), (36, [160, 0, 16]), (39, [42]), (40, [89]), (41, [180, 0, 28]), (44, [4]), (45, [96])]
theorem rcX9_advance_0 : dgo (lb cX9_advance) 0 rbX9_advance_0 = true := by decide +kernel
theorem dX9_advance_0 : decode cX9_advance 0 = .ok (.aload_n 0, 1) := dk_42 (dw rcX9_advance_0 0 rfl)
theorem dX9_advance_1 : decode cX9_advance 1 = .ok (.getfield 28, 3) := dk_180 (dw rcX9_advance_0 1 rfl) rfl
theorem dX9_advance_4 : decode cX9_advance 4 = .ok (.aload_n 0, 1) := dk_42 (dw rcX9_advance_0 2 rfl)
theorem dX9_advance_5 : decode cX9_advance 5 = .ok (.getfield 25, 3) := dk_180 (dw rcX9_advance_0 3 rfl) rfl
theorem dX9_advance_8 : decode cX9_advance 8 = .ok (.if_icmp .ge 44, 3) := dk_162 (dw rcX9_advance_0 4 rfl) rfl
theorem dX9_advance_11 : decode cX9_advance 11 = .ok (.aload_n 0, 1) := dk_42 (dw rcX9_advance_0 5 rfl)
theorem dX9_advance_12 : decode cX9_advance 12 = .ok (.getfield 15, 3) := dk_180 (dw rcX9_advance_0 6 rfl) rfl
theorem dX9_advance_15 : decode cX9_advance 15 = .ok (.aload_n 0, 1) := dk_42 (dw rcX9_advance_0 7 rfl)
theorem dX9_advance_16 : decode cX9_advance 16 = .ok (.getfield 28, 3) := dk_180 (dw rcX9_advance_0 8 rfl) rfl
theorem dX9_advance_19 : decode cX9_advance 19 = .ok (.baload, 1) := dk_51 (dw rcX9_advance_0 9 rfl)
theorem dX9_advance_20 : decode cX9_advance 20 = .ok (.bipush 32, 2) := dk_16 (dw rcX9_advance_0 10 rfl) rfl
theorem dX9_advance_22 : decode cX9_advance 22 = .ok (.if_icmp .eq 17, 3) := dk_159 (dw rcX9_advance_0 11 rfl) rfl
theorem dX9_advance_25 : decode cX9_advance 25 = .ok (.aload_n 0, 1) := dk_42 (dw rcX9_advance_0 12 rfl)
theorem dX9_advance_26 : decode cX9_advance 26 = .ok (.getfield 15, 3) := dk_180 (dw rcX9_advance_0 13 rfl) rfl
theorem dX9_advance_29 : decode cX9_advance 29 = .ok (.aload_n 0, 1) := dk_42 (dw rcX9_advance_0 14 rfl)
theorem dX9_advance_30 : decode cX9_advance 30 = .ok (.getfield 28, 3) := dk_180 (dw rcX9_advance_0 15 rfl) rfl
theorem dX9_advance_33 : decode cX9_advance 33 = .ok (.baload, 1) := dk_51 (dw rcX9_advance_0 16 rfl)
theorem dX9_advance_34 : decode cX9_advance 34 = .ok (.bipush 10, 2) := dk_16 (dw rcX9_advance_0 17 rfl) rfl
theorem dX9_advance_36 : decode cX9_advance 36 = .ok (.if_icmp .ne 16, 3) := dk_160 (dw rcX9_advance_0 18 rfl) rfl
theorem dX9_advance_39 : decode cX9_advance 39 = .ok (.aload_n 0, 1) := dk_42 (dw rcX9_advance_0 19 rfl)
theorem dX9_advance_40 : decode cX9_advance 40 = .ok (.dup, 1) := dk_89 (dw rcX9_advance_0 20 rfl)
theorem dX9_advance_41 : decode cX9_advance 41 = .ok (.getfield 28, 3) := dk_180 (dw rcX9_advance_0 21 rfl) rfl
theorem dX9_advance_44 : decode cX9_advance 44 = .ok (.iconst 1, 1) := dk_4 (dw rcX9_advance_0 22 rfl)
theorem dX9_advance_45 : decode cX9_advance 45 = .ok (.iadd, 1) := dk_96 (dw rcX9_advance_0 23 rfl)
def rbX9_advance_46 : List (Nat × List Nat) := [(46, [181, 0, 28]), (49, [167, 255, 207]), (52, [42]), (53, [42]), (54, [180, 0, 28]), (57, [181, 0, 41]), (60, [42]), (61, [180, 0, 28]), (64, [42]), (65, [180, 0, 25]), (68, [161, 0, 13]), (71, [42]), (72, [17, 0, 203]), (75, [181, 0, 38]), (78, [167, 0, 81]), (81, [42]), (82, [42]), (83, [180, 0, 28]), (86, [182, 0, 48]), (89, [153, 0, 10]), (92, [42]), (93, [182, 0, 51]), (96, [167, 0, 63]), (99, [42])]
theorem rcX9_advance_46 : dgo (lb cX9_advance) 0 rbX9_advance_46 = true := by decide +kernel
theorem dX9_advance_46 : decode cX9_advance 46 = .ok (.putfield 28, 3) := dk_181 (dw rcX9_advance_46 0 rfl) rfl
theorem dX9_advance_49 : decode cX9_advance 49 = .ok (.goto (-49), 3) := dk_167 (dw rcX9_advance_46 1 rfl) rfl
theorem dX9_advance_52 : decode cX9_advance 52 = .ok (.aload_n 0, 1) := dk_42 (dw rcX9_advance_46 2 rfl)
theorem dX9_advance_53 : decode cX9_advance 53 = .ok (.aload_n 0, 1) := dk_42 (dw rcX9_advance_46 3 rfl)
theorem dX9_advance_54 : decode cX9_advance 54 = .ok (.getfield 28, 3) := dk_180 (dw rcX9_advance_46 4 rfl) rfl
theorem dX9_advance_57 : decode cX9_advance 57 = .ok (.putfield 41, 3) := dk_181 (dw rcX9_advance_46 5 rfl) rfl
theorem dX9_advance_60 : decode cX9_advance 60 = .ok (.aload_n 0, 1) := dk_42 (dw rcX9_advance_46 6 rfl)
theorem dX9_advance_61 : decode cX9_advance 61 = .ok (.getfield 28, 3) := dk_180 (dw rcX9_advance_46 7 rfl) rfl
theorem dX9_advance_64 : decode cX9_advance 64 = .ok (.aload_n 0, 1) := dk_42 (dw rcX9_advance_46 8 rfl)
theorem dX9_advance_65 : decode cX9_advance 65 = .ok (.getfield 25, 3) := dk_180 (dw rcX9_advance_46 9 rfl) rfl
theorem dX9_advance_68 : decode cX9_advance 68 = .ok (.if_icmp .lt 13, 3) := dk_161 (dw rcX9_advance_46 10 rfl) rfl
theorem dX9_advance_71 : decode cX9_advance 71 = .ok (.aload_n 0, 1) := dk_42 (dw rcX9_advance_46 11 rfl)
theorem dX9_advance_72 : decode cX9_advance 72 = .ok (.sipush 203, 3) := dk_17 (dw rcX9_advance_46 12 rfl) rfl
theorem dX9_advance_75 : decode cX9_advance 75 = .ok (.putfield 38, 3) := dk_181 (dw rcX9_advance_46 13 rfl) rfl
theorem dX9_advance_78 : decode cX9_advance 78 = .ok (.goto 81, 3) := dk_167 (dw rcX9_advance_46 14 rfl) rfl
theorem dX9_advance_81 : decode cX9_advance 81 = .ok (.aload_n 0, 1) := dk_42 (dw rcX9_advance_46 15 rfl)
theorem dX9_advance_82 : decode cX9_advance 82 = .ok (.aload_n 0, 1) := dk_42 (dw rcX9_advance_46 16 rfl)
theorem dX9_advance_83 : decode cX9_advance 83 = .ok (.getfield 28, 3) := dk_180 (dw rcX9_advance_46 17 rfl) rfl
theorem dX9_advance_86 : decode cX9_advance 86 = .ok (.invokevirtual 48, 3) := dk_182 (dw rcX9_advance_46 18 rfl) rfl
theorem dX9_advance_89 : decode cX9_advance 89 = .ok (.ifCond .eq 10, 3) := dk_153 (dw rcX9_advance_46 19 rfl) rfl
theorem dX9_advance_92 : decode cX9_advance 92 = .ok (.aload_n 0, 1) := dk_42 (dw rcX9_advance_46 20 rfl)
theorem dX9_advance_93 : decode cX9_advance 93 = .ok (.invokevirtual 51, 3) := dk_182 (dw rcX9_advance_46 21 rfl) rfl
theorem dX9_advance_96 : decode cX9_advance 96 = .ok (.goto 63, 3) := dk_167 (dw rcX9_advance_46 22 rfl) rfl
theorem dX9_advance_99 : decode cX9_advance 99 = .ok (.aload_n 0, 1) := dk_42 (dw rcX9_advance_46 23 rfl)
def rbX9_advance_100 : List (Nat × List Nat) := [(100, [42]), (101, [180, 0, 28]), (104, [182, 0, 54]), (107, [153, 0, 10]), (110, [42]), (111, [182, 0, 57]), (114, [167, 0, 45]), (117, [42]), (118, [180, 0, 15]), (121, [42]), (122, [89]), (123, [180, 0, 28]), (126, [90]), (127, [4]), (128, [96]), (129, [181, 0, 28]), (132, [51]), (133, [17, 0, 255]), (136, [126]), (137, [60]), (138, [42]), (139, [18, 60]), (141, [27]), (142, [146])]
theorem rcX9_advance_100 : dgo (lb cX9_advance) 0 rbX9_advance_100 = true := by decide +kernel
theorem dX9_advance_100 : decode cX9_advance 100 = .ok (.aload_n 0, 1) := dk_42 (dw rcX9_advance_100 0 rfl)
theorem dX9_advance_101 : decode cX9_advance 101 = .ok (.getfield 28, 3) := dk_180 (dw rcX9_advance_100 1 rfl) rfl
theorem dX9_advance_104 : decode cX9_advance 104 = .ok (.invokevirtual 54, 3) := dk_182 (dw rcX9_advance_100 2 rfl) rfl
theorem dX9_advance_107 : decode cX9_advance 107 = .ok (.ifCond .eq 10, 3) := dk_153 (dw rcX9_advance_100 3 rfl) rfl
theorem dX9_advance_110 : decode cX9_advance 110 = .ok (.aload_n 0, 1) := dk_42 (dw rcX9_advance_100 4 rfl)
theorem dX9_advance_111 : decode cX9_advance 111 = .ok (.invokevirtual 57, 3) := dk_182 (dw rcX9_advance_100 5 rfl) rfl
theorem dX9_advance_114 : decode cX9_advance 114 = .ok (.goto 45, 3) := dk_167 (dw rcX9_advance_100 6 rfl) rfl
theorem dX9_advance_117 : decode cX9_advance 117 = .ok (.aload_n 0, 1) := dk_42 (dw rcX9_advance_100 7 rfl)
theorem dX9_advance_118 : decode cX9_advance 118 = .ok (.getfield 15, 3) := dk_180 (dw rcX9_advance_100 8 rfl) rfl
theorem dX9_advance_121 : decode cX9_advance 121 = .ok (.aload_n 0, 1) := dk_42 (dw rcX9_advance_100 9 rfl)
theorem dX9_advance_122 : decode cX9_advance 122 = .ok (.dup, 1) := dk_89 (dw rcX9_advance_100 10 rfl)
theorem dX9_advance_123 : decode cX9_advance 123 = .ok (.getfield 28, 3) := dk_180 (dw rcX9_advance_100 11 rfl) rfl
theorem dX9_advance_126 : decode cX9_advance 126 = .ok (.dup_x1, 1) := dk_90 (dw rcX9_advance_100 12 rfl)
theorem dX9_advance_127 : decode cX9_advance 127 = .ok (.iconst 1, 1) := dk_4 (dw rcX9_advance_100 13 rfl)
theorem dX9_advance_128 : decode cX9_advance 128 = .ok (.iadd, 1) := dk_96 (dw rcX9_advance_100 14 rfl)
theorem dX9_advance_129 : decode cX9_advance 129 = .ok (.putfield 28, 3) := dk_181 (dw rcX9_advance_100 15 rfl) rfl
theorem dX9_advance_132 : decode cX9_advance 132 = .ok (.baload, 1) := dk_51 (dw rcX9_advance_100 16 rfl)
theorem dX9_advance_133 : decode cX9_advance 133 = .ok (.sipush 255, 3) := dk_17 (dw rcX9_advance_100 17 rfl) rfl
theorem dX9_advance_136 : decode cX9_advance 136 = .ok (.iand, 1) := dk_126 (dw rcX9_advance_100 18 rfl)
theorem dX9_advance_137 : decode cX9_advance 137 = .ok (.istore_n 1, 1) := dk_60 (dw rcX9_advance_100 19 rfl)
theorem dX9_advance_138 : decode cX9_advance 138 = .ok (.aload_n 0, 1) := dk_42 (dw rcX9_advance_100 20 rfl)
theorem dX9_advance_139 : decode cX9_advance 139 = .ok (.ldc 60, 2) := dk_18 (dw rcX9_advance_100 21 rfl)
theorem dX9_advance_141 : decode cX9_advance 141 = .ok (.iload_n 1, 1) := dk_27 (dw rcX9_advance_100 22 rfl)
theorem dX9_advance_142 : decode cX9_advance 142 = .ok (.i2c, 1) := dk_146 (dw rcX9_advance_100 23 rfl)
def rbX9_advance_143 : List (Nat × List Nat) := [(143, [182, 0, 62]), (146, [155, 0, 7]), (149, [27]), (150, [167, 0, 6]), (153, [17, 0, 202]), (156, [181, 0, 38]), (159, [4]), (160, [172])]
theorem rcX9_advance_143 : dgo (lb cX9_advance) 0 rbX9_advance_143 = true := by decide +kernel
theorem dX9_advance_143 : decode cX9_advance 143 = .ok (.invokevirtual 62, 3) := dk_182 (dw rcX9_advance_143 0 rfl) rfl
theorem dX9_advance_146 : decode cX9_advance 146 = .ok (.ifCond .lt 7, 3) := dk_155 (dw rcX9_advance_143 1 rfl) rfl
theorem dX9_advance_149 : decode cX9_advance 149 = .ok (.iload_n 1, 1) := dk_27 (dw rcX9_advance_143 2 rfl)
theorem dX9_advance_150 : decode cX9_advance 150 = .ok (.goto 6, 3) := dk_167 (dw rcX9_advance_143 3 rfl) rfl
theorem dX9_advance_153 : decode cX9_advance 153 = .ok (.sipush 202, 3) := dk_17 (dw rcX9_advance_143 4 rfl) rfl
theorem dX9_advance_156 : decode cX9_advance 156 = .ok (.putfield 38, 3) := dk_181 (dw rcX9_advance_143 5 rfl) rfl
theorem dX9_advance_159 : decode cX9_advance 159 = .ok (.iconst 1, 1) := dk_4 (dw rcX9_advance_143 6 rfl)
theorem dX9_advance_160 : decode cX9_advance 160 = .ok (.ireturn, 1) := dk_172 (dw rcX9_advance_143 7 rfl)
def rbX9_cutNumber_0 : List (Nat × List Nat) := [(0, [42]), (1, [3]), (2, [181, 0, 85]), (5, [42]), (6, [180, 0, 28]), (9, [42]), (10, [180, 0, 25]), (13, [162, 0, 51]), (16, [42]), (17, [42]), (18, [180, 0, 28]), (21, [182, 0, 54]), (24, [153, 0, 40]), (27, [42]), (28, [42]), (29, [180, 0, 85]), (32, [16, 10]), (34, [104]), (35, [42]), (36, [180, 0, 15]), (39, [42]), (40, [180, 0, 28]), (43, [51]), (44, [96])]
theorem rcX9_cutNumber_0 : dgo (lb cX9_cutNumber) 0 rbX9_cutNumber_0 = true := by decide +kernel
theorem dX9_cutNumber_0 : decode cX9_cutNumber 0 = .ok (.aload_n 0, 1) := dk_42 (dw rcX9_cutNumber_0 0 rfl)
theorem dX9_cutNumber_1 : decode cX9_cutNumber 1 = .ok (.iconst 0, 1) := dk_3 (dw rcX9_cutNumber_0 1 rfl)
theorem dX9_cutNumber_2 : decode cX9_cutNumber 2 = .ok (.putfield 85, 3) := dk_181 (dw rcX9_cutNumber_0 2 rfl) rfl
theorem dX9_cutNumber_5 : decode cX9_cutNumber 5 = .ok (.aload_n 0, 1) := dk_42 (dw rcX9_cutNumber_0 3 rfl)
theorem dX9_cutNumber_6 : decode cX9_cutNumber 6 = .ok (.getfield 28, 3) := dk_180 (dw rcX9_cutNumber_0 4 rfl) rfl
theorem dX9_cutNumber_9 : decode cX9_cutNumber 9 = .ok (.aload_n 0, 1) := dk_42 (dw rcX9_cutNumber_0 5 rfl)
theorem dX9_cutNumber_10 : decode cX9_cutNumber 10 = .ok (.getfield 25, 3) := dk_180 (dw rcX9_cutNumber_0 6 rfl) rfl
theorem dX9_cutNumber_13 : decode cX9_cutNumber 13 = .ok (.if_icmp .ge 51, 3) := dk_162 (dw rcX9_cutNumber_0 7 rfl) rfl
theorem dX9_cutNumber_16 : decode cX9_cutNumber 16 = .ok (.aload_n 0, 1) := dk_42 (dw rcX9_cutNumber_0 8 rfl)
theorem dX9_cutNumber_17 : decode cX9_cutNumber 17 = .ok (.aload_n 0, 1) := dk_42 (dw rcX9_cutNumber_0 9 rfl)
theorem dX9_cutNumber_18 : decode cX9_cutNumber 18 = .ok (.getfield 28, 3) := dk_180 (dw rcX9_cutNumber_0 10 rfl) rfl
theorem dX9_cutNumber_21 : decode cX9_cutNumber 21 = .ok (.invokevirtual 54, 3) := dk_182 (dw rcX9_cutNumber_0 11 rfl) rfl
theorem dX9_cutNumber_24 : decode cX9_cutNumber 24 = .ok (.ifCond .eq 40, 3) := dk_153 (dw rcX9_cutNumber_0 12 rfl) rfl
theorem dX9_cutNumber_27 : decode cX9_cutNumber 27 = .ok (.aload_n 0, 1) := dk_42 (dw rcX9_cutNumber_0 13 rfl)
theorem dX9_cutNumber_28 : decode cX9_cutNumber 28 = .ok (.aload_n 0, 1) := dk_42 (dw rcX9_cutNumber_0 14 rfl)
theorem dX9_cutNumber_29 : decode cX9_cutNumber 29 = .ok (.getfield 85, 3) := dk_180 (dw rcX9_cutNumber_0 15 rfl) rfl
theorem dX9_cutNumber_32 : decode cX9_cutNumber 32 = .ok (.bipush 10, 2) := dk_16 (dw rcX9_cutNumber_0 16 rfl) rfl
theorem dX9_cutNumber_34 : decode cX9_cutNumber 34 = .ok (.imul, 1) := dk_104 (dw rcX9_cutNumber_0 17 rfl)
theorem dX9_cutNumber_35 : decode cX9_cutNumber 35 = .ok (.aload_n 0, 1) := dk_42 (dw rcX9_cutNumber_0 18 rfl)
theorem dX9_cutNumber_36 : decode cX9_cutNumber 36 = .ok (.getfield 15, 3) := dk_180 (dw rcX9_cutNumber_0 19 rfl) rfl
theorem dX9_cutNumber_39 : decode cX9_cutNumber 39 = .ok (.aload_n 0, 1) := dk_42 (dw rcX9_cutNumber_0 20 rfl)
theorem dX9_cutNumber_40 : decode cX9_cutNumber 40 = .ok (.getfield 28, 3) := dk_180 (dw rcX9_cutNumber_0 21 rfl) rfl
theorem dX9_cutNumber_43 : decode cX9_cutNumber 43 = .ok (.baload, 1) := dk_51 (dw rcX9_cutNumber_0 22 rfl)
theorem dX9_cutNumber_44 : decode cX9_cutNumber 44 = .ok (.iadd, 1) := dk_96 (dw rcX9_cutNumber_0 23 rfl)
def rbX9_cutNumber_45 : List (Nat × List Nat) := [(45, [16, 48]), (47, [100]), (48, [181, 0, 85]), (51, [42]), (52, [89]), (53, [180, 0, 28]), (56, [4]), (57, [96]), (58, [181, 0, 28]), (61, [167, 255, 200]), (64, [42]), (65, [42]), (66, [180, 0, 28]), (69, [42]), (70, [180, 0, 41]), (73, [100]), (74, [7]), (75, [163, 0, 14]), (78, [42]), (79, [42]), (80, [180, 0, 28]), (83, [182, 0, 48]), (86, [153, 0, 9]), (89, [17, 0, 202])]
theorem rcX9_cutNumber_45 : dgo (lb cX9_cutNumber) 0 rbX9_cutNumber_45 = true := by decide +kernel
theorem dX9_cutNumber_45 : decode cX9_cutNumber 45 = .ok (.bipush 48, 2) := dk_16 (dw rcX9_cutNumber_45 0 rfl) rfl
theorem dX9_cutNumber_47 : decode cX9_cutNumber 47 = .ok (.isub, 1) := dk_100 (dw rcX9_cutNumber_45 1 rfl)
theorem dX9_cutNumber_48 : decode cX9_cutNumber 48 = .ok (.putfield 85, 3) := dk_181 (dw rcX9_cutNumber_45 2 rfl) rfl
theorem dX9_cutNumber_51 : decode cX9_cutNumber 51 = .ok (.aload_n 0, 1) := dk_42 (dw rcX9_cutNumber_45 3 rfl)
theorem dX9_cutNumber_52 : decode cX9_cutNumber 52 = .ok (.dup, 1) := dk_89 (dw rcX9_cutNumber_45 4 rfl)
theorem dX9_cutNumber_53 : decode cX9_cutNumber 53 = .ok (.getfield 28, 3) := dk_180 (dw rcX9_cutNumber_45 5 rfl) rfl
theorem dX9_cutNumber_56 : decode cX9_cutNumber 56 = .ok (.iconst 1, 1) := dk_4 (dw rcX9_cutNumber_45 6 rfl)
theorem dX9_cutNumber_57 : decode cX9_cutNumber 57 = .ok (.iadd, 1) := dk_96 (dw rcX9_cutNumber_45 7 rfl)
theorem dX9_cutNumber_58 : decode cX9_cutNumber 58 = .ok (.putfield 28, 3) := dk_181 (dw rcX9_cutNumber_45 8 rfl) rfl
theorem dX9_cutNumber_61 : decode cX9_cutNumber 61 = .ok (.goto (-56), 3) := dk_167 (dw rcX9_cutNumber_45 9 rfl) rfl
theorem dX9_cutNumber_64 : decode cX9_cutNumber 64 = .ok (.aload_n 0, 1) := dk_42 (dw rcX9_cutNumber_45 10 rfl)
theorem dX9_cutNumber_65 : decode cX9_cutNumber 65 = .ok (.aload_n 0, 1) := dk_42 (dw rcX9_cutNumber_45 11 rfl)
theorem dX9_cutNumber_66 : decode cX9_cutNumber 66 = .ok (.getfield 28, 3) := dk_180 (dw rcX9_cutNumber_45 12 rfl) rfl
theorem dX9_cutNumber_69 : decode cX9_cutNumber 69 = .ok (.aload_n 0, 1) := dk_42 (dw rcX9_cutNumber_45 13 rfl)
theorem dX9_cutNumber_70 : decode cX9_cutNumber 70 = .ok (.getfield 41, 3) := dk_180 (dw rcX9_cutNumber_45 14 rfl) rfl
theorem dX9_cutNumber_73 : decode cX9_cutNumber 73 = .ok (.isub, 1) := dk_100 (dw rcX9_cutNumber_45 15 rfl)
theorem dX9_cutNumber_74 : decode cX9_cutNumber 74 = .ok (.iconst 4, 1) := dk_7 (dw rcX9_cutNumber_45 16 rfl)
theorem dX9_cutNumber_75 : decode cX9_cutNumber 75 = .ok (.if_icmp .gt 14, 3) := dk_163 (dw rcX9_cutNumber_45 17 rfl) rfl
theorem dX9_cutNumber_78 : decode cX9_cutNumber 78 = .ok (.aload_n 0, 1) := dk_42 (dw rcX9_cutNumber_45 18 rfl)
theorem dX9_cutNumber_79 : decode cX9_cutNumber 79 = .ok (.aload_n 0, 1) := dk_42 (dw rcX9_cutNumber_45 19 rfl)
theorem dX9_cutNumber_80 : decode cX9_cutNumber 80 = .ok (.getfield 28, 3) := dk_180 (dw rcX9_cutNumber_45 20 rfl) rfl
theorem dX9_cutNumber_83 : decode cX9_cutNumber 83 = .ok (.invokevirtual 48, 3) := dk_182 (dw rcX9_cutNumber_45 21 rfl) rfl
theorem dX9_cutNumber_86 : decode cX9_cutNumber 86 = .ok (.ifCond .eq 9, 3) := dk_153 (dw rcX9_cutNumber_45 22 rfl) rfl
theorem dX9_cutNumber_89 : decode cX9_cutNumber 89 = .ok (.sipush 202, 3) := dk_17 (dw rcX9_cutNumber_45 23 rfl) rfl
def rbX9_cutNumber_92 : List (Nat × List Nat) := [(92, [167, 0, 6]), (95, [17, 0, 201]), (98, [181, 0, 38]), (101, [177])]
theorem rcX9_cutNumber_92 : dgo (lb cX9_cutNumber) 0 rbX9_cutNumber_92 = true := by decide +kernel
theorem dX9_cutNumber_92 : decode cX9_cutNumber 92 = .ok (.goto 6, 3) := dk_167 (dw rcX9_cutNumber_92 0 rfl) rfl
theorem dX9_cutNumber_95 : decode cX9_cutNumber 95 = .ok (.sipush 201, 3) := dk_17 (dw rcX9_cutNumber_92 1 rfl) rfl
theorem dX9_cutNumber_98 : decode cX9_cutNumber 98 = .ok (.putfield 38, 3) := dk_181 (dw rcX9_cutNumber_92 2 rfl) rfl
theorem dX9_cutNumber_101 : decode cX9_cutNumber 101 = .ok (.return_, 1) := dk_177 (dw rcX9_cutNumber_92 3 rfl)
def rbX9_cutWord_0 : List (Nat × List Nat) := [(0, [42]), (1, [9]), (2, [181, 0, 68]), (5, [42]), (6, [180, 0, 28]), (9, [42]), (10, [180, 0, 25]), (13, [162, 0, 53]), (16, [42]), (17, [42]), (18, [180, 0, 28]), (21, [182, 0, 48]), (24, [153, 0, 42]), (27, [42]), (28, [42]), (29, [180, 0, 68]), (32, [8]), (33, [121]), (34, [42]), (35, [180, 0, 15]), (38, [42]), (39, [180, 0, 28]), (42, [51]), (43, [16, 97])]
theorem rcX9_cutWord_0 : dgo (lb cX9_cutWord) 0 rbX9_cutWord_0 = true := by decide +kernel
theorem dX9_cutWord_0 : decode cX9_cutWord 0 = .ok (.aload_n 0, 1) := dk_42 (dw rcX9_cutWord_0 0 rfl)
theorem dX9_cutWord_1 : decode cX9_cutWord 1 = .ok (.lconst 0, 1) := dk_9 (dw rcX9_cutWord_0 1 rfl)
theorem dX9_cutWord_2 : decode cX9_cutWord 2 = .ok (.putfield 68, 3) := dk_181 (dw rcX9_cutWord_0 2 rfl) rfl
theorem dX9_cutWord_5 : decode cX9_cutWord 5 = .ok (.aload_n 0, 1) := dk_42 (dw rcX9_cutWord_0 3 rfl)
theorem dX9_cutWord_6 : decode cX9_cutWord 6 = .ok (.getfield 28, 3) := dk_180 (dw rcX9_cutWord_0 4 rfl) rfl
theorem dX9_cutWord_9 : decode cX9_cutWord 9 = .ok (.aload_n 0, 1) := dk_42 (dw rcX9_cutWord_0 5 rfl)
theorem dX9_cutWord_10 : decode cX9_cutWord 10 = .ok (.getfield 25, 3) := dk_180 (dw rcX9_cutWord_0 6 rfl) rfl
theorem dX9_cutWord_13 : decode cX9_cutWord 13 = .ok (.if_icmp .ge 53, 3) := dk_162 (dw rcX9_cutWord_0 7 rfl) rfl
theorem dX9_cutWord_16 : decode cX9_cutWord 16 = .ok (.aload_n 0, 1) := dk_42 (dw rcX9_cutWord_0 8 rfl)
theorem dX9_cutWord_17 : decode cX9_cutWord 17 = .ok (.aload_n 0, 1) := dk_42 (dw rcX9_cutWord_0 9 rfl)
theorem dX9_cutWord_18 : decode cX9_cutWord 18 = .ok (.getfield 28, 3) := dk_180 (dw rcX9_cutWord_0 10 rfl) rfl
theorem dX9_cutWord_21 : decode cX9_cutWord 21 = .ok (.invokevirtual 48, 3) := dk_182 (dw rcX9_cutWord_0 11 rfl) rfl
theorem dX9_cutWord_24 : decode cX9_cutWord 24 = .ok (.ifCond .eq 42, 3) := dk_153 (dw rcX9_cutWord_0 12 rfl) rfl
theorem dX9_cutWord_27 : decode cX9_cutWord 27 = .ok (.aload_n 0, 1) := dk_42 (dw rcX9_cutWord_0 13 rfl)
theorem dX9_cutWord_28 : decode cX9_cutWord 28 = .ok (.aload_n 0, 1) := dk_42 (dw rcX9_cutWord_0 14 rfl)
theorem dX9_cutWord_29 : decode cX9_cutWord 29 = .ok (.getfield 68, 3) := dk_180 (dw rcX9_cutWord_0 15 rfl) rfl
theorem dX9_cutWord_32 : decode cX9_cutWord 32 = .ok (.iconst 5, 1) := dk_8 (dw rcX9_cutWord_0 16 rfl)
theorem dX9_cutWord_33 : decode cX9_cutWord 33 = .ok (.lshl, 1) := dk_121 (dw rcX9_cutWord_0 17 rfl)
theorem dX9_cutWord_34 : decode cX9_cutWord 34 = .ok (.aload_n 0, 1) := dk_42 (dw rcX9_cutWord_0 18 rfl)
theorem dX9_cutWord_35 : decode cX9_cutWord 35 = .ok (.getfield 15, 3) := dk_180 (dw rcX9_cutWord_0 19 rfl) rfl
theorem dX9_cutWord_38 : decode cX9_cutWord 38 = .ok (.aload_n 0, 1) := dk_42 (dw rcX9_cutWord_0 20 rfl)
theorem dX9_cutWord_39 : decode cX9_cutWord 39 = .ok (.getfield 28, 3) := dk_180 (dw rcX9_cutWord_0 21 rfl) rfl
theorem dX9_cutWord_42 : decode cX9_cutWord 42 = .ok (.baload, 1) := dk_51 (dw rcX9_cutWord_0 22 rfl)
theorem dX9_cutWord_43 : decode cX9_cutWord 43 = .ok (.bipush 97, 2) := dk_16 (dw rcX9_cutWord_0 23 rfl) rfl
def rbX9_cutWord_45 : List (Nat × List Nat) := [(45, [100]), (46, [4]), (47, [96]), (48, [133]), (49, [129]), (50, [181, 0, 68]), (53, [42]), (54, [89]), (55, [180, 0, 28]), (58, [4]), (59, [96]), (60, [181, 0, 28]), (63, [167, 255, 198]), (66, [42]), (67, [42]), (68, [180, 0, 28]), (71, [42]), (72, [180, 0, 41]), (75, [100]), (76, [16, 8]), (78, [164, 0, 9]), (81, [17, 0, 202]), (84, [167, 0, 7]), (87, [42])]
theorem rcX9_cutWord_45 : dgo (lb cX9_cutWord) 0 rbX9_cutWord_45 = true := by decide +kernel
theorem dX9_cutWord_45 : decode cX9_cutWord 45 = .ok (.isub, 1) := dk_100 (dw rcX9_cutWord_45 0 rfl)
theorem dX9_cutWord_46 : decode cX9_cutWord 46 = .ok (.iconst 1, 1) := dk_4 (dw rcX9_cutWord_45 1 rfl)
theorem dX9_cutWord_47 : decode cX9_cutWord 47 = .ok (.iadd, 1) := dk_96 (dw rcX9_cutWord_45 2 rfl)
theorem dX9_cutWord_48 : decode cX9_cutWord 48 = .ok (.i2l, 1) := dk_133 (dw rcX9_cutWord_45 3 rfl)
theorem dX9_cutWord_49 : decode cX9_cutWord 49 = .ok (.lor, 1) := dk_129 (dw rcX9_cutWord_45 4 rfl)
theorem dX9_cutWord_50 : decode cX9_cutWord 50 = .ok (.putfield 68, 3) := dk_181 (dw rcX9_cutWord_45 5 rfl) rfl
theorem dX9_cutWord_53 : decode cX9_cutWord 53 = .ok (.aload_n 0, 1) := dk_42 (dw rcX9_cutWord_45 6 rfl)
theorem dX9_cutWord_54 : decode cX9_cutWord 54 = .ok (.dup, 1) := dk_89 (dw rcX9_cutWord_45 7 rfl)
theorem dX9_cutWord_55 : decode cX9_cutWord 55 = .ok (.getfield 28, 3) := dk_180 (dw rcX9_cutWord_45 8 rfl) rfl
theorem dX9_cutWord_58 : decode cX9_cutWord 58 = .ok (.iconst 1, 1) := dk_4 (dw rcX9_cutWord_45 9 rfl)
theorem dX9_cutWord_59 : decode cX9_cutWord 59 = .ok (.iadd, 1) := dk_96 (dw rcX9_cutWord_45 10 rfl)
theorem dX9_cutWord_60 : decode cX9_cutWord 60 = .ok (.putfield 28, 3) := dk_181 (dw rcX9_cutWord_45 11 rfl) rfl
theorem dX9_cutWord_63 : decode cX9_cutWord 63 = .ok (.goto (-58), 3) := dk_167 (dw rcX9_cutWord_45 12 rfl) rfl
theorem dX9_cutWord_66 : decode cX9_cutWord 66 = .ok (.aload_n 0, 1) := dk_42 (dw rcX9_cutWord_45 13 rfl)
theorem dX9_cutWord_67 : decode cX9_cutWord 67 = .ok (.aload_n 0, 1) := dk_42 (dw rcX9_cutWord_45 14 rfl)
theorem dX9_cutWord_68 : decode cX9_cutWord 68 = .ok (.getfield 28, 3) := dk_180 (dw rcX9_cutWord_45 15 rfl) rfl
theorem dX9_cutWord_71 : decode cX9_cutWord 71 = .ok (.aload_n 0, 1) := dk_42 (dw rcX9_cutWord_45 16 rfl)
theorem dX9_cutWord_72 : decode cX9_cutWord 72 = .ok (.getfield 41, 3) := dk_180 (dw rcX9_cutWord_45 17 rfl) rfl
theorem dX9_cutWord_75 : decode cX9_cutWord 75 = .ok (.isub, 1) := dk_100 (dw rcX9_cutWord_45 18 rfl)
theorem dX9_cutWord_76 : decode cX9_cutWord 76 = .ok (.bipush 8, 2) := dk_16 (dw rcX9_cutWord_45 19 rfl) rfl
theorem dX9_cutWord_78 : decode cX9_cutWord 78 = .ok (.if_icmp .le 9, 3) := dk_164 (dw rcX9_cutWord_45 20 rfl) rfl
theorem dX9_cutWord_81 : decode cX9_cutWord 81 = .ok (.sipush 202, 3) := dk_17 (dw rcX9_cutWord_45 21 rfl) rfl
theorem dX9_cutWord_84 : decode cX9_cutWord 84 = .ok (.goto 7, 3) := dk_167 (dw rcX9_cutWord_45 22 rfl) rfl
theorem dX9_cutWord_87 : decode cX9_cutWord 87 = .ok (.aload_n 0, 1) := dk_42 (dw rcX9_cutWord_45 23 rfl)
def rbX9_cutWord_88 : List (Nat × List Nat) := [(88, [182, 0, 72]), (91, [181, 0, 38]), (94, [177])]
theorem rcX9_cutWord_88 : dgo (lb cX9_cutWord) 0 rbX9_cutWord_88 = true := by decide +kernel
theorem dX9_cutWord_88 : decode cX9_cutWord 88 = .ok (.invokevirtual 72, 3) := dk_182 (dw rcX9_cutWord_88 0 rfl) rfl
theorem dX9_cutWord_91 : decode cX9_cutWord 91 = .ok (.putfield 38, 3) := dk_181 (dw rcX9_cutWord_88 1 rfl) rfl
theorem dX9_cutWord_94 : decode cX9_cutWord 94 = .ok (.return_, 1) := dk_177 (dw rcX9_cutWord_88 2 rfl)
def rbX9_kindOfWord_0 : List (Nat × List Nat) := [(0, [3]), (1, [60]), (2, [27]), (3, [16, 8]), (5, [96]), (6, [18, 76]), (8, [182, 0, 78]), (11, [163, 0, 78]), (14, [3]), (15, [61]), (16, [28]), (17, [16, 8]), (19, [162, 0, 49]), (22, [18, 76]), (24, [27]), (25, [28]), (26, [96]), (27, [182, 0, 81]), (30, [42]), (31, [180, 0, 41]), (34, [28]), (35, [96]), (36, [42]), (37, [180, 0, 28])]
theorem rcX9_kindOfWord_0 : dgo (lb cX9_kindOfWord) 0 rbX9_kindOfWord_0 = true := by decide +kernel
theorem dX9_kindOfWord_0 : decode cX9_kindOfWord 0 = .ok (.iconst 0, 1) := dk_3 (dw rcX9_kindOfWord_0 0 rfl)
theorem dX9_kindOfWord_1 : decode cX9_kindOfWord 1 = .ok (.istore_n 1, 1) := dk_60 (dw rcX9_kindOfWord_0 1 rfl)
theorem dX9_kindOfWord_2 : decode cX9_kindOfWord 2 = .ok (.iload_n 1, 1) := dk_27 (dw rcX9_kindOfWord_0 2 rfl)
theorem dX9_kindOfWord_3 : decode cX9_kindOfWord 3 = .ok (.bipush 8, 2) := dk_16 (dw rcX9_kindOfWord_0 3 rfl) rfl
theorem dX9_kindOfWord_5 : decode cX9_kindOfWord 5 = .ok (.iadd, 1) := dk_96 (dw rcX9_kindOfWord_0 4 rfl)
theorem dX9_kindOfWord_6 : decode cX9_kindOfWord 6 = .ok (.ldc 76, 2) := dk_18 (dw rcX9_kindOfWord_0 5 rfl)
theorem dX9_kindOfWord_8 : decode cX9_kindOfWord 8 = .ok (.invokevirtual 78, 3) := dk_182 (dw rcX9_kindOfWord_0 6 rfl) rfl
theorem dX9_kindOfWord_11 : decode cX9_kindOfWord 11 = .ok (.if_icmp .gt 78, 3) := dk_163 (dw rcX9_kindOfWord_0 7 rfl) rfl
theorem dX9_kindOfWord_14 : decode cX9_kindOfWord 14 = .ok (.iconst 0, 1) := dk_3 (dw rcX9_kindOfWord_0 8 rfl)
theorem dX9_kindOfWord_15 : decode cX9_kindOfWord 15 = .ok (.istore_n 2, 1) := dk_61 (dw rcX9_kindOfWord_0 9 rfl)
theorem dX9_kindOfWord_16 : decode cX9_kindOfWord 16 = .ok (.iload_n 2, 1) := dk_28 (dw rcX9_kindOfWord_0 10 rfl)
theorem dX9_kindOfWord_17 : decode cX9_kindOfWord 17 = .ok (.bipush 8, 2) := dk_16 (dw rcX9_kindOfWord_0 11 rfl) rfl
theorem dX9_kindOfWord_19 : decode cX9_kindOfWord 19 = .ok (.if_icmp .ge 49, 3) := dk_162 (dw rcX9_kindOfWord_0 12 rfl) rfl
theorem dX9_kindOfWord_22 : decode cX9_kindOfWord 22 = .ok (.ldc 76, 2) := dk_18 (dw rcX9_kindOfWord_0 13 rfl)
theorem dX9_kindOfWord_24 : decode cX9_kindOfWord 24 = .ok (.iload_n 1, 1) := dk_27 (dw rcX9_kindOfWord_0 14 rfl)
theorem dX9_kindOfWord_25 : decode cX9_kindOfWord 25 = .ok (.iload_n 2, 1) := dk_28 (dw rcX9_kindOfWord_0 15 rfl)
theorem dX9_kindOfWord_26 : decode cX9_kindOfWord 26 = .ok (.iadd, 1) := dk_96 (dw rcX9_kindOfWord_0 16 rfl)
theorem dX9_kindOfWord_27 : decode cX9_kindOfWord 27 = .ok (.invokevirtual 81, 3) := dk_182 (dw rcX9_kindOfWord_0 17 rfl) rfl
theorem dX9_kindOfWord_30 : decode cX9_kindOfWord 30 = .ok (.aload_n 0, 1) := dk_42 (dw rcX9_kindOfWord_0 18 rfl)
theorem dX9_kindOfWord_31 : decode cX9_kindOfWord 31 = .ok (.getfield 41, 3) := dk_180 (dw rcX9_kindOfWord_0 19 rfl) rfl
theorem dX9_kindOfWord_34 : decode cX9_kindOfWord 34 = .ok (.iload_n 2, 1) := dk_28 (dw rcX9_kindOfWord_0 20 rfl)
theorem dX9_kindOfWord_35 : decode cX9_kindOfWord 35 = .ok (.iadd, 1) := dk_96 (dw rcX9_kindOfWord_0 21 rfl)
theorem dX9_kindOfWord_36 : decode cX9_kindOfWord 36 = .ok (.aload_n 0, 1) := dk_42 (dw rcX9_kindOfWord_0 22 rfl)
theorem dX9_kindOfWord_37 : decode cX9_kindOfWord 37 = .ok (.getfield 28, 3) := dk_180 (dw rcX9_kindOfWord_0 23 rfl) rfl
def rbX9_kindOfWord_40 : List (Nat × List Nat) := [(40, [162, 0, 17]), (43, [42]), (44, [180, 0, 15]), (47, [42]), (48, [180, 0, 41]), (51, [28]), (52, [96]), (53, [51]), (54, [167, 0, 5]), (57, [16, 32]), (59, [160, 0, 9]), (62, [132, 2, 1]), (65, [167, 255, 207]), (68, [28]), (69, [16, 8]), (71, [160, 0, 12]), (74, [17, 0, 128]), (77, [27]), (78, [16, 8]), (80, [108]), (81, [96]), (82, [172]), (83, [132, 1, 8]), (86, [167, 255, 172])]
theorem rcX9_kindOfWord_40 : dgo (lb cX9_kindOfWord) 0 rbX9_kindOfWord_40 = true := by decide +kernel
theorem dX9_kindOfWord_40 : decode cX9_kindOfWord 40 = .ok (.if_icmp .ge 17, 3) := dk_162 (dw rcX9_kindOfWord_40 0 rfl) rfl
theorem dX9_kindOfWord_43 : decode cX9_kindOfWord 43 = .ok (.aload_n 0, 1) := dk_42 (dw rcX9_kindOfWord_40 1 rfl)
theorem dX9_kindOfWord_44 : decode cX9_kindOfWord 44 = .ok (.getfield 15, 3) := dk_180 (dw rcX9_kindOfWord_40 2 rfl) rfl
theorem dX9_kindOfWord_47 : decode cX9_kindOfWord 47 = .ok (.aload_n 0, 1) := dk_42 (dw rcX9_kindOfWord_40 3 rfl)
theorem dX9_kindOfWord_48 : decode cX9_kindOfWord 48 = .ok (.getfield 41, 3) := dk_180 (dw rcX9_kindOfWord_40 4 rfl) rfl
theorem dX9_kindOfWord_51 : decode cX9_kindOfWord 51 = .ok (.iload_n 2, 1) := dk_28 (dw rcX9_kindOfWord_40 5 rfl)
theorem dX9_kindOfWord_52 : decode cX9_kindOfWord 52 = .ok (.iadd, 1) := dk_96 (dw rcX9_kindOfWord_40 6 rfl)
theorem dX9_kindOfWord_53 : decode cX9_kindOfWord 53 = .ok (.baload, 1) := dk_51 (dw rcX9_kindOfWord_40 7 rfl)
theorem dX9_kindOfWord_54 : decode cX9_kindOfWord 54 = .ok (.goto 5, 3) := dk_167 (dw rcX9_kindOfWord_40 8 rfl) rfl
theorem dX9_kindOfWord_57 : decode cX9_kindOfWord 57 = .ok (.bipush 32, 2) := dk_16 (dw rcX9_kindOfWord_40 9 rfl) rfl
theorem dX9_kindOfWord_59 : decode cX9_kindOfWord 59 = .ok (.if_icmp .ne 9, 3) := dk_160 (dw rcX9_kindOfWord_40 10 rfl) rfl
theorem dX9_kindOfWord_62 : decode cX9_kindOfWord 62 = .ok (.iinc 2 1, 3) := dk_132 (dw rcX9_kindOfWord_40 11 rfl) rfl
theorem dX9_kindOfWord_65 : decode cX9_kindOfWord 65 = .ok (.goto (-49), 3) := dk_167 (dw rcX9_kindOfWord_40 12 rfl) rfl
theorem dX9_kindOfWord_68 : decode cX9_kindOfWord 68 = .ok (.iload_n 2, 1) := dk_28 (dw rcX9_kindOfWord_40 13 rfl)
theorem dX9_kindOfWord_69 : decode cX9_kindOfWord 69 = .ok (.bipush 8, 2) := dk_16 (dw rcX9_kindOfWord_40 14 rfl) rfl
theorem dX9_kindOfWord_71 : decode cX9_kindOfWord 71 = .ok (.if_icmp .ne 12, 3) := dk_160 (dw rcX9_kindOfWord_40 15 rfl) rfl
theorem dX9_kindOfWord_74 : decode cX9_kindOfWord 74 = .ok (.sipush 128, 3) := dk_17 (dw rcX9_kindOfWord_40 16 rfl) rfl
theorem dX9_kindOfWord_77 : decode cX9_kindOfWord 77 = .ok (.iload_n 1, 1) := dk_27 (dw rcX9_kindOfWord_40 17 rfl)
theorem dX9_kindOfWord_78 : decode cX9_kindOfWord 78 = .ok (.bipush 8, 2) := dk_16 (dw rcX9_kindOfWord_40 18 rfl) rfl
theorem dX9_kindOfWord_80 : decode cX9_kindOfWord 80 = .ok (.idiv, 1) := dk_108 (dw rcX9_kindOfWord_40 19 rfl)
theorem dX9_kindOfWord_81 : decode cX9_kindOfWord 81 = .ok (.iadd, 1) := dk_96 (dw rcX9_kindOfWord_40 20 rfl)
theorem dX9_kindOfWord_82 : decode cX9_kindOfWord 82 = .ok (.ireturn, 1) := dk_172 (dw rcX9_kindOfWord_40 21 rfl)
theorem dX9_kindOfWord_83 : decode cX9_kindOfWord 83 = .ok (.iinc 1 8, 3) := dk_132 (dw rcX9_kindOfWord_40 22 rfl) rfl
theorem dX9_kindOfWord_86 : decode cX9_kindOfWord 86 = .ok (.goto (-84), 3) := dk_167 (dw rcX9_kindOfWord_40 23 rfl) rfl
def rbX9_kindOfWord_89 : List (Nat × List Nat) := [(89, [17, 0, 200]), (92, [172])]
theorem rcX9_kindOfWord_89 : dgo (lb cX9_kindOfWord) 0 rbX9_kindOfWord_89 = true := by decide +kernel
theorem dX9_kindOfWord_89 : decode cX9_kindOfWord 89 = .ok (.sipush 200, 3) := dk_17 (dw rcX9_kindOfWord_89 0 rfl) rfl
theorem dX9_kindOfWord_92 : decode cX9_kindOfWord 92 = .ok (.ireturn, 1) := dk_172 (dw rcX9_kindOfWord_89 1 rfl)
def rbX9_open_0 : List (Nat × List Nat) := [(0, [42]), (1, [27]), (2, [42]), (3, [180, 0, 15]), (6, [190]), (7, [184, 0, 19]), (10, [181, 0, 25]), (13, [42]), (14, [3]), (15, [181, 0, 28]), (18, [42]), (19, [3]), (20, [181, 0, 31]), (23, [42]), (24, [2]), (25, [181, 0, 9]), (28, [42]), (29, [182, 0, 34]), (32, [87]), (33, [177])]
theorem rcX9_open_0 : dgo (lb cX9_open) 0 rbX9_open_0 = true := by decide +kernel
theorem dX9_open_0 : decode cX9_open 0 = .ok (.aload_n 0, 1) := dk_42 (dw rcX9_open_0 0 rfl)
theorem dX9_open_1 : decode cX9_open 1 = .ok (.iload_n 1, 1) := dk_27 (dw rcX9_open_0 1 rfl)
theorem dX9_open_2 : decode cX9_open 2 = .ok (.aload_n 0, 1) := dk_42 (dw rcX9_open_0 2 rfl)
theorem dX9_open_3 : decode cX9_open 3 = .ok (.getfield 15, 3) := dk_180 (dw rcX9_open_0 3 rfl) rfl
theorem dX9_open_6 : decode cX9_open 6 = .ok (.arraylength, 1) := dk_190 (dw rcX9_open_0 4 rfl)
theorem dX9_open_7 : decode cX9_open 7 = .ok (.invokestatic 19, 3) := dk_184 (dw rcX9_open_0 5 rfl) rfl
theorem dX9_open_10 : decode cX9_open 10 = .ok (.putfield 25, 3) := dk_181 (dw rcX9_open_0 6 rfl) rfl
theorem dX9_open_13 : decode cX9_open 13 = .ok (.aload_n 0, 1) := dk_42 (dw rcX9_open_0 7 rfl)
theorem dX9_open_14 : decode cX9_open 14 = .ok (.iconst 0, 1) := dk_3 (dw rcX9_open_0 8 rfl)
theorem dX9_open_15 : decode cX9_open 15 = .ok (.putfield 28, 3) := dk_181 (dw rcX9_open_0 9 rfl) rfl
theorem dX9_open_18 : decode cX9_open 18 = .ok (.aload_n 0, 1) := dk_42 (dw rcX9_open_0 10 rfl)
theorem dX9_open_19 : decode cX9_open 19 = .ok (.iconst 0, 1) := dk_3 (dw rcX9_open_0 11 rfl)
theorem dX9_open_20 : decode cX9_open 20 = .ok (.putfield 31, 3) := dk_181 (dw rcX9_open_0 12 rfl) rfl
theorem dX9_open_23 : decode cX9_open 23 = .ok (.aload_n 0, 1) := dk_42 (dw rcX9_open_0 13 rfl)
theorem dX9_open_24 : decode cX9_open 24 = .ok (.iconst (-1), 1) := dk_2 (dw rcX9_open_0 14 rfl)
theorem dX9_open_25 : decode cX9_open 25 = .ok (.putfield 9, 3) := dk_181 (dw rcX9_open_0 15 rfl) rfl
theorem dX9_open_28 : decode cX9_open 28 = .ok (.aload_n 0, 1) := dk_42 (dw rcX9_open_0 16 rfl)
theorem dX9_open_29 : decode cX9_open 29 = .ok (.invokevirtual 34, 3) := dk_182 (dw rcX9_open_0 17 rfl) rfl
theorem dX9_open_32 : decode cX9_open 32 = .ok (.pop, 1) := dk_87 (dw rcX9_open_0 18 rfl)
theorem dX9_open_33 : decode cX9_open 33 = .ok (.return_, 1) := dk_177 (dw rcX9_open_0 19 rfl)
def rbX9_pass_0 : List (Nat × List Nat) := [(0, [42]), (1, [180, 0, 38]), (4, [27]), (5, [160, 0, 10]), (8, [42]), (9, [182, 0, 34]), (12, [167, 0, 8]), (15, [42]), (16, [5]), (17, [182, 0, 44]), (20, [172])]
theorem rcX9_pass_0 : dgo (lb cX9_pass) 0 rbX9_pass_0 = true := by decide +kernel
theorem dX9_pass_0 : decode cX9_pass 0 = .ok (.aload_n 0, 1) := dk_42 (dw rcX9_pass_0 0 rfl)
theorem dX9_pass_1 : decode cX9_pass 1 = .ok (.getfield 38, 3) := dk_180 (dw rcX9_pass_0 1 rfl) rfl
theorem dX9_pass_4 : decode cX9_pass 4 = .ok (.iload_n 1, 1) := dk_27 (dw rcX9_pass_0 2 rfl)
theorem dX9_pass_5 : decode cX9_pass 5 = .ok (.if_icmp .ne 10, 3) := dk_160 (dw rcX9_pass_0 3 rfl) rfl
theorem dX9_pass_8 : decode cX9_pass 8 = .ok (.aload_n 0, 1) := dk_42 (dw rcX9_pass_0 4 rfl)
theorem dX9_pass_9 : decode cX9_pass 9 = .ok (.invokevirtual 34, 3) := dk_182 (dw rcX9_pass_0 5 rfl) rfl
theorem dX9_pass_12 : decode cX9_pass 12 = .ok (.goto 8, 3) := dk_167 (dw rcX9_pass_0 6 rfl) rfl
theorem dX9_pass_15 : decode cX9_pass 15 = .ok (.aload_n 0, 1) := dk_42 (dw rcX9_pass_0 7 rfl)
theorem dX9_pass_16 : decode cX9_pass 16 = .ok (.iconst 2, 1) := dk_5 (dw rcX9_pass_0 8 rfl)
theorem dX9_pass_17 : decode cX9_pass 17 = .ok (.invokevirtual 44, 3) := dk_182 (dw rcX9_pass_0 9 rfl) rfl
theorem dX9_pass_20 : decode cX9_pass 20 = .ok (.ireturn, 1) := dk_172 (dw rcX9_pass_0 10 rfl)
set_option maxHeartbeats 4000000 in
set_option maxRecDepth 100000 in
theorem k_tKind (l : Launch) (D : va_G) (k : KT) (A : Nat → Prop) (a : Nat → Nat) (z : SK) (G : GS)   : Met l yX9_kindOfWord (WS yX9_kindOfWord cX9_kindOfWord 3 (some .int)) ({ frames := 4, cells := 0, slots := 0, locals := 85 }) (va_Pc [.ref (a 3)] (cW D k A a z G)) (va_Qi (fun (r : Int32) (G1 : GS) => P_tKind G r G1) (fun (G1 : GS) t => Wd D k A a G1 t.heap) A) 0 0 A := by
  refine Met.ofW (cc := cX9_kindOfWord) (maxL := 3) (ret := (some .int)) (by decide) rfl ?_
  intro p e s m args below meth c s₁ B hml hv
  obtain ⟨rfl, hW, hB_G, hK, hZ⟩ := hv
  have hx := B.exec
  have hb := B.bytes
  have hr := B.returns
  have hts := atoms_spec (ws := WS yX9_kindOfWord cX9_kindOfWord 3 (some .int)) B.pre
  have hgd : ∀ w ∈ gd, w ∈ WS yX9_kindOfWord cX9_kindOfWord 3 (some .int) := fun w h => List.mem_cons_of_mem _ h
  have hg : ∀ w ∈ gd, w.before _ s = true := fun w h => hts w (hgd w h)
  have hown : s.vm.findClass RX9 = some m.cls := findClass_of_methodNamed B.named
  have hS : va_S A s.heap s.heap [] := va_S.rf
  have hF : Fr [] [] G G := Fr.rf
  have hl := lv_entry ([.ref (a 3)]) (n := 3) (Nat.le_of_ble_eq_true rfl)
  rw [lg_entry_eq]
  generalize (lg_sl ([.ref (a 3)]) ++ List.replicate (3 - (lg_sl ([.ref (a 3)])).length) Slot.unset).toArray = ls at hl ⊢
  have hl : lv_has ls 3 [(0, .ref (a 3))] := hl
  refine ic_0 hx hb dX9_kindOfWord_0 ?_
  refine lv_istore_n (lv' := [(1, .int 0), (0, .ref (a 3))]) hx hb dX9_kindOfWord_1 rfl hl (lt_b rfl) rfl (fun ls hl => ?_)
  have qc_7 : (0 : Int32).toInt = 0 := rfl
  refine loop_N (Inv := fun n H locs ls => ∃ (G_1 : GS) (x_5 : Int32), (n : Int) = 184 - x_5.toInt ∧ (0 ≤ x_5.toInt ∧ x_5.toInt ≤ 184) ∧ Rc (St_k_tKind_1 G) (0, G) (x_5, G_1) ∧ Wd D k A a G_1 H ∧ Bd G_1 ∧ Fr [] [] G G_1 ∧ Fr [] [] G G_1 ∧ va_S A s.heap H locs ∧ lv_has ls 3 [(1, .int x_5), (0, .ref (a 3))]) (fun n_4 H locs ls ih_3 hI => ?_) (184 - 0 : Int).toNat ⟨G, 0, (Int.toNat_of_nonneg (by omega)), ⟨by omega, by omega⟩, Rc.rf, hW, hB_G, hF, Fr.rf, hS, lv_sub hl [0, 1] rfl⟩
  obtain ⟨G_1, x_5, hn_9, f_8, hX_6, hW, hB_G_1, hF, hq_2, hS, hl⟩ := hI
  refine lv_iload_n hx hb dX9_kindOfWord_2 rfl (lv_at hl 0 rfl) ?_
  refine lv_bipush (v := 8) hx hb dX9_kindOfWord_3 (by decide) ?_
  refine lv_iadd hx hb dX9_kindOfWord_5 ?_
  refine lv_topi (fun y_10 ey_10 => ?_)
  have ty_10 : y_10.toInt = x_5.toInt + 8 := xI_add rfl rfl ey_10 (by omega) (by omega)
  refine va_ldcS hx hb hown hZ.2.1 dX9_kindOfWord_6 ?_
  refine S_calli (va_runV (As := []) (rest := [.int y_10]) ⟨hx, hb, hml, hown, hts⟩ (k_jLen_0 l D k A a z G_1  ) (cwV 0 hts (gd_V hgd m655 m656 m657 m133 m658) rfl rfl rfl hd_J0_length_8abf5 ⟨Nat.le_of_ble_eq_true rfl, Nat.le_of_ble_eq_true rfl⟩) (pre_VS hW hB_G_1 hK hZ hS 0 (by decide)) rfl rfl hl.1 rfl (lv_room (Nat.le_of_ble_eq_true rfl)) dX9_kindOfWord_8 ⟨Nat.le_of_ble_eq_true rfl, Nat.le_of_ble_eq_true rfl⟩) hS (fun r_11 G_12 H locs hpo hW hS => ?_)
  have hX_15 : P_jLen_0 G_1 r_11 G_12 := hpo
  obtain ⟨hB_G_12, hq_13, f_16, -⟩ := hpo
  have hF := hF.call9 hq_13 rfl rfl
  refine lv_icmp_gt (tgt := 89) hx hb dX9_kindOfWord_11 rfl (fun c_17 => ?_) (fun c_17 => ?_)
  · have c_17 : r_11.toInt < y_10.toInt := xI_lt rfl rfl c_17
    refine lv_sipush (v := 200) hx hb dX9_kindOfWord_89 (by decide) ?_
    exact W.iret (v := 200) hx hb hr (fun t ht _ => ⟨⟨200, G_12, rfl, (P_tKind_mk ⟨hB_G_12, hF, ⟨by decide, by decide⟩, ⟨x_5, G_1, hX_6, f_8, hB_G_1, hq_2, ⟨y_10, ty_10, ⟨r_11, G_12, hX_15, (Or.inl ⟨c_17, ⟨rfl, rfl⟩⟩)⟩⟩⟩⟩), wd_t ht hW⟩, hS.F ht⟩) hS.2.2 dX9_kindOfWord_92
  · have c_17 : y_10.toInt ≤ r_11.toInt := xI_nlt rfl rfl c_17
    refine ic_0 hx hb dX9_kindOfWord_14 ?_
    refine lv_istore_n (lv' := [(2, .int 0), (1, .int x_5), (0, .ref (a 3))]) hx hb dX9_kindOfWord_15 rfl hl (lt_b rfl) rfl (fun ls hl => ?_)
    have qc_24 : (0 : Int32).toInt = 0 := rfl
    refine loop_N (Inv := fun n H locs ls => ∃ (G_18 : GS) (x_22 : Int32), (n : Int) = 8 - x_22.toInt ∧ (0 ≤ x_22.toInt ∧ x_22.toInt ≤ 8) ∧ Rc (St_k_tKind_2 x_5 G) (0, G_12) (x_22, G_18) ∧ Wd D k A a G_18 H ∧ Bd G_18 ∧ Fr [] [] G G_18 ∧ Fr [] [] G_12 G_18 ∧ va_S A s.heap H locs ∧ lv_has ls 3 [(2, .int x_22), (1, .int x_5), (0, .ref (a 3))]) (fun n_21 H locs ls ih_20 hI => ?_) (8 - 0 : Int).toNat ⟨G_12, 0, (Int.toNat_of_nonneg ((by first | (clear hn_9 f_8 ty_10 f_16 c_17; omega) | omega))), ⟨(by first | (clear hn_9 f_8 ty_10 f_16 c_17; omega) | omega), (by first | (clear hn_9 f_8 ty_10 f_16 c_17; omega) | omega)⟩, Rc.rf, hW, hB_G_12, hF, Fr.rf, hS, lv_sub hl [0, 1, 2] rfl⟩
    obtain ⟨G_18, x_22, hn_26, f_25, hX_23, hW, hB_G_18, hF, hq_19, hS, hl⟩ := hI
    refine lv_iload_n hx hb dX9_kindOfWord_16 rfl (lv_at hl 0 rfl) ?_
    refine lv_bipush (v := 8) hx hb dX9_kindOfWord_17 (by decide) ?_
    refine lv_icmp_ge (tgt := 68) hx hb dX9_kindOfWord_19 rfl (fun c_27 => ?_) (fun c_27 => ?_)
    · have c_27 : 8 ≤ x_22.toInt := xI_le rfl rfl c_27
      refine lv_iload_n hx hb dX9_kindOfWord_68 rfl (lv_at hl 0 rfl) ?_
      refine lv_bipush (v := 8) hx hb dX9_kindOfWord_69 (by decide) ?_
      refine lv_icmp_ne (tgt := 83) hx hb dX9_kindOfWord_71 rfl (fun c_28 => ?_) (fun c_28 => ?_)
      · have c_28 : x_22.toInt ≠ 8 := xI_ne rfl rfl c_28
        exfalso; first | (clear hn_9 f_8 ty_10 f_16 c_17 hn_26; omega) | omega
      · have c_28 : x_22.toInt = 8 := xI_eq rfl rfl c_28
        refine lv_sipush (v := 128) hx hb dX9_kindOfWord_74 (by decide) ?_
        refine lv_iload_n hx hb dX9_kindOfWord_77 rfl (lv_at hl 1 rfl) ?_
        refine lv_bipush (v := 8) hx hb dX9_kindOfWord_78 (by decide) ?_
        refine lv_idiv hx hb dX9_kindOfWord_80 (by decide) ?_
        refine lv_topi (fun y_29 ey_29 => ?_)
        have ty_29 : y_29.toInt = x_5.toInt / 8 := xI_div rfl ey_29 (by decide) ((by first | (clear hn_9 hn_26 f_25 c_27 c_28; omega) | omega))
        refine lv_iadd hx hb dX9_kindOfWord_81 ?_
        refine lv_topi (fun y_30 ey_30 => ?_)
        have ty_30 : y_30.toInt = 128 + y_29.toInt := xI_add rfl rfl ey_30 ((by first | (clear hn_9 hn_26 f_25 c_27 c_28; omega) | omega)) ((by first | (clear hn_9 hn_26 f_25 c_27 c_28; omega) | omega))
        exact W.iret (v := y_30) hx hb hr (fun t ht _ => ⟨⟨y_30, G_18, rfl, (P_tKind_mk ⟨hB_G_18, hF, ⟨(by first | (clear hn_9 hn_26 f_25 c_27 c_28; omega) | omega), (by first | (clear hn_9 hn_26 f_25 c_27 c_28; omega) | omega)⟩, ⟨x_5, G_1, hX_6, f_8, hB_G_1, hq_2, ⟨y_10, ty_10, ⟨r_11, G_12, hX_15, (Or.inr ⟨c_17, ⟨x_22, G_18, hX_23, f_25, hB_G_18, hq_19, ⟨c_27, ⟨y_29, ty_29, ⟨y_30, ty_30, ⟨rfl, rfl⟩⟩⟩⟩⟩⟩)⟩⟩⟩⟩), wd_t ht hW⟩, hS.F ht⟩) hS.2.2 dX9_kindOfWord_82
    · have c_27 : x_22.toInt < 8 := xI_nle rfl rfl c_27
      refine va_ldcS hx hb hown hZ.2.1 dX9_kindOfWord_22 ?_
      refine lv_iload_n hx hb dX9_kindOfWord_24 rfl (lv_at hl 1 rfl) ?_
      refine lv_iload_n hx hb dX9_kindOfWord_25 rfl (lv_at hl 0 rfl) ?_
      refine lv_iadd hx hb dX9_kindOfWord_26 ?_
      refine lv_topi (fun y_31 ey_31 => ?_)
      have ty_31 : y_31.toInt = x_5.toInt + x_22.toInt := xI_add rfl rfl ey_31 (by omega) (by omega)
      refine S_calli (va_runV (As := [.int y_31]) (rest := []) ⟨hx, hb, hml, hown, hts⟩ (k_jCharAt_0 l D k A a z G_18 y_31 ⟨by omega, by omega⟩) (cwV 1 hts (gd_V hgd m665 m666 m667 m133 m668) rfl rfl rfl hd_J0_charAt_5068e ⟨Nat.le_of_ble_eq_true rfl, Nat.le_of_ble_eq_true rfl⟩) (pre_VS hW hB_G_18 hK hZ hS 0 (by decide)) rfl rfl hl.1 rfl (lv_room (Nat.le_of_ble_eq_true rfl)) dX9_kindOfWord_27 ⟨Nat.le_of_ble_eq_true rfl, Nat.le_of_ble_eq_true rfl⟩) hS (fun r_32 G_33 H locs hpo hW hS => ?_)
      have hX_36 : P_jCharAt_0 y_31 G_18 r_32 G_33 := hpo
      obtain ⟨hB_G_33, hq_34, f_37, -⟩ := hpo
      have hF := hF.call9 hq_34 rfl rfl
      refine lv_aload_n hx hb dX9_kindOfWord_30 rfl (lv_at hl 2 rfl) ?_
      have b_38 : 0 ≤ (G.1 3 4).toInt ∧ (G.1 3 4).toInt ≤ 1600 := bd_3_4 hB_G
      refine S_getI (v := (G.1 3 4)) (C := RX9) (T := TX9) (N := 9) hx hb hg iX9 hown hK hW kd_3 rfl 4 (lt_b rfl) (hg (Cond.fieldLink RX9 41 "SlabWalk$Tokens" "place" "I") m264) (fun _ h9 => h9) rfl ((hq_34.i9 3 4 rfl rfl).trans ((hq_19.i9 3 4 rfl rfl).trans ((hq_13.i9 3 4 rfl rfl).trans (hq_2.i9 3 4 rfl rfl)))) dX9_kindOfWord_31 ?_
      refine lv_iload_n hx hb dX9_kindOfWord_34 rfl (lv_at hl 0 rfl) ?_
      refine lv_iadd hx hb dX9_kindOfWord_35 ?_
      refine lv_topi (fun y_39 ey_39 => ?_)
      have ty_39 : y_39.toInt = (G.1 3 4).toInt + x_22.toInt := xI_add rfl rfl ey_39 ((by first | (clear hn_9 hn_26 f_37; omega) | omega)) ((by first | (clear hn_9 hn_26 f_37; omega) | omega))
      refine lv_aload_n hx hb dX9_kindOfWord_36 rfl (lv_at hl 2 rfl) ?_
      have b_40 : 0 ≤ (G.1 3 2).toInt ∧ (G.1 3 2).toInt ≤ 1600 := bd_3_2 hB_G
      refine S_getI (v := (G.1 3 2)) (C := RX9) (T := TX9) (N := 9) hx hb hg iX9 hown hK hW kd_3 rfl 2 (lt_b rfl) (hg (Cond.fieldLink RX9 28 "SlabWalk$Tokens" "at" "I") m260) (fun _ h9 => h9) rfl ((hq_34.i9 3 2 rfl rfl).trans ((hq_19.i9 3 2 rfl rfl).trans ((hq_13.i9 3 2 rfl rfl).trans (hq_2.i9 3 2 rfl rfl)))) dX9_kindOfWord_37 ?_
      refine lv_icmp_ge (tgt := 57) hx hb dX9_kindOfWord_40 rfl (fun c_41 => ?_) (fun c_41 => ?_)
      · have c_41 : (G.1 3 2).toInt ≤ y_39.toInt := xI_le rfl rfl c_41
        refine lv_bipush (v := 32) hx hb dX9_kindOfWord_57 (by decide) ?_
        refine lv_icmp_ne (tgt := 68) hx hb dX9_kindOfWord_59 rfl (fun c_42 => ?_) (fun c_42 => ?_)
        · have c_42 : r_32.toInt ≠ 32 := xI_ne rfl rfl c_42
          refine lv_iload_n hx hb dX9_kindOfWord_68 rfl (lv_at hl 0 rfl) ?_
          refine lv_bipush (v := 8) hx hb dX9_kindOfWord_69 (by decide) ?_
          refine lv_icmp_ne (tgt := 83) hx hb dX9_kindOfWord_71 rfl (fun c_43 => ?_) (fun c_43 => ?_)
          · have c_43 : x_22.toInt ≠ 8 := xI_ne rfl rfl c_43
            obtain ⟨y_44, ey_44⟩ : ∃ q, q = x_5 + 8 := ⟨_, rfl⟩
            have ty_44 : y_44.toInt = x_5.toInt + 8 := xI_add rfl rfl ey_44 ((by first | (clear hn_9 hn_26 f_37 c_42; omega) | omega)) ((by first | (clear hn_9 hn_26 f_37 c_42; omega) | omega))
            refine lv_iinc (v := y_44) (lv' := [(1, .int y_44), (2, .int x_22), (0, .ref (a 3))]) hx hb dX9_kindOfWord_83 hl (k := 1) rfl (by rw [ey_44]; rfl) (lt_b rfl) rfl (fun ls hl => ?_)
            refine lv_goto (tgt := 2) hx hb dX9_kindOfWord_86 rfl ?_
            exact ih_3 (184 - y_44.toInt : Int).toNat (by omega) _ _ _ ⟨G_33, y_44, (Int.toNat_of_nonneg ((by first | (clear hn_9 hn_26 f_37 c_42; omega) | omega))), ⟨(by first | (clear hn_9 hn_26 f_37 c_42; omega) | omega), (by first | (clear hn_9 hn_26 f_37 c_42; omega) | omega)⟩, (hX_6.st (St_k_tKind_1_mk ⟨x_5, G_1, y_44, G_33, rfl, rfl, f_8, hB_G_1, ⟨y_10, ty_10, ⟨r_11, G_12, hX_15, ⟨c_17, ⟨x_22, G_18, hX_23, f_25, hB_G_18, hq_19, ⟨c_27, ⟨y_31, ty_31, ⟨r_32, G_33, hX_36, ⟨y_39, ty_39, (Or.inl ⟨c_41, ⟨c_42, ⟨y_44, ty_44, ⟨rfl, rfl⟩⟩⟩⟩)⟩⟩⟩⟩⟩⟩⟩⟩⟩)), hW, hB_G_33, hF, (Fr.call9 (rs := []) (fs := []) (Fr.call9 (rs := []) (fs := []) (Fr.call9 (rs := []) (fs := []) (Fr.call9 (rs := []) (fs := []) Fr.rf hq_2 rfl rfl) hq_13 rfl rfl) hq_19 rfl rfl) hq_34 rfl rfl), hS, lv_sub hl [0, 2] rfl⟩
          · have c_43 : x_22.toInt = 8 := xI_eq rfl rfl c_43
            exfalso; first | (clear hn_9 hn_26 f_37 c_42; omega) | omega
        · have c_42 : r_32.toInt = 32 := xI_eq rfl rfl c_42
          obtain ⟨y_45, ey_45⟩ : ∃ q, q = x_22 + 1 := ⟨_, rfl⟩
          have ty_45 : y_45.toInt = x_22.toInt + 1 := xI_add rfl rfl ey_45 ((by first | (clear hn_9 hn_26 f_37 c_42; omega) | omega)) ((by first | (clear hn_9 hn_26 f_37 c_42; omega) | omega))
          refine lv_iinc (v := y_45) (lv' := [(2, .int y_45), (1, .int x_5), (0, .ref (a 3))]) hx hb dX9_kindOfWord_62 hl (k := 0) rfl (by rw [ey_45]; rfl) (lt_b rfl) rfl (fun ls hl => ?_)
          refine lv_goto (tgt := 16) hx hb dX9_kindOfWord_65 rfl ?_
          exact ih_20 (8 - y_45.toInt : Int).toNat (by omega) _ _ _ ⟨G_33, y_45, (Int.toNat_of_nonneg ((by first | (clear hn_9 hn_26 f_37 c_42; omega) | omega))), ⟨(by first | (clear hn_9 hn_26 f_37 c_42; omega) | omega), (by first | (clear hn_9 hn_26 f_37 c_42; omega) | omega)⟩, (hX_23.st (St_k_tKind_2_mk ⟨x_22, G_18, y_45, G_33, rfl, rfl, f_25, hB_G_18, ⟨c_27, ⟨y_31, ty_31, ⟨r_32, G_33, hX_36, ⟨y_39, ty_39, (Or.inl ⟨c_41, ⟨c_42, ⟨y_45, ty_45, ⟨rfl, rfl⟩⟩⟩⟩)⟩⟩⟩⟩⟩)), hW, hB_G_33, hF, (Fr.call9 (rs := []) (fs := []) (Fr.call9 (rs := []) (fs := []) Fr.rf hq_19 rfl rfl) hq_34 rfl rfl), hS, lv_sub hl [0, 1, 2] rfl⟩
      · have c_41 : y_39.toInt < (G.1 3 2).toInt := xI_nle rfl rfl c_41
        refine lv_aload_n hx hb dX9_kindOfWord_43 rfl (lv_at hl 2 rfl) ?_
        refine S_getR (n := 32) (C := RX9) (T := TX9) (N := 9) hx hb hg iX9 hown hK hW kd_3 rfl 0 (lt_b rfl) (hg (Cond.fieldLink RX9 15 "SlabWalk$Tokens" "text" "[B") m258) (fun _ h9 => h9) rfl dX9_kindOfWord_44 ?_
        refine lv_aload_n hx hb dX9_kindOfWord_47 rfl (lv_at hl 2 rfl) ?_
        refine S_getI (v := (G.1 3 4)) (C := RX9) (T := TX9) (N := 9) hx hb hg iX9 hown hK hW kd_3 rfl 4 (lt_b rfl) (hg (Cond.fieldLink RX9 41 "SlabWalk$Tokens" "place" "I") m264) (fun _ h9 => h9) rfl ((hq_34.i9 3 4 rfl rfl).trans ((hq_19.i9 3 4 rfl rfl).trans ((hq_13.i9 3 4 rfl rfl).trans ((hq_2.i9 3 4 rfl rfl).trans (rfl))))) dX9_kindOfWord_48 ?_
        refine lv_iload_n hx hb dX9_kindOfWord_51 rfl (lv_at hl 0 rfl) ?_
        refine lv_iadd hx hb dX9_kindOfWord_52 ?_
        refine lv_topi (fun y_46 ey_46 => ?_)
        have ty_46 : y_46.toInt = (G.1 3 4).toInt + x_22.toInt := xI_add rfl rfl ey_46 ((by first | (clear hn_9 hn_26 f_37; omega) | omega)) ((by first | (clear hn_9 hn_26 f_37; omega) | omega))
        refine S_bald hx hb hK hW kd_32 (vin ((by first | (clear hn_9 hn_26 f_37; omega) | omega)) ((by first | (clear hn_9 hn_26 f_37; omega) | omega))) dX9_kindOfWord_53 (fun y_47 ey_47 => ?_)
        have ty_47 : (-128) ≤ y_47.toInt ∧ y_47.toInt ≤ 127 := bv_32 hB_G_33 ey_47
        refine lv_goto (tgt := 59) hx hb dX9_kindOfWord_54 rfl ?_
        refine lv_icmp_ne (tgt := 68) hx hb dX9_kindOfWord_59 rfl (fun c_48 => ?_) (fun c_48 => ?_)
        · have c_48 : r_32.toInt ≠ y_47.toInt := xI_ne rfl rfl c_48
          refine lv_iload_n hx hb dX9_kindOfWord_68 rfl (lv_at hl 0 rfl) ?_
          refine lv_bipush (v := 8) hx hb dX9_kindOfWord_69 (by decide) ?_
          refine lv_icmp_ne (tgt := 83) hx hb dX9_kindOfWord_71 rfl (fun c_49 => ?_) (fun c_49 => ?_)
          · have c_49 : x_22.toInt ≠ 8 := xI_ne rfl rfl c_49
            obtain ⟨y_50, ey_50⟩ : ∃ q, q = x_5 + 8 := ⟨_, rfl⟩
            have ty_50 : y_50.toInt = x_5.toInt + 8 := xI_add rfl rfl ey_50 ((by first | (clear hn_9 hn_26 f_37 ty_47 c_48; omega) | omega)) ((by first | (clear hn_9 hn_26 f_37 ty_47 c_48; omega) | omega))
            refine lv_iinc (v := y_50) (lv' := [(1, .int y_50), (2, .int x_22), (0, .ref (a 3))]) hx hb dX9_kindOfWord_83 hl (k := 1) rfl (by rw [ey_50]; rfl) (lt_b rfl) rfl (fun ls hl => ?_)
            refine lv_goto (tgt := 2) hx hb dX9_kindOfWord_86 rfl ?_
            exact ih_3 (184 - y_50.toInt : Int).toNat ((by first | (clear f_37 ty_47 c_48; omega) | omega)) _ _ _ ⟨G_33, y_50, (Int.toNat_of_nonneg ((by first | (clear hn_9 hn_26 f_37 ty_47 c_48; omega) | omega))), ⟨(by first | (clear hn_9 hn_26 f_37 ty_47 c_48; omega) | omega), (by first | (clear hn_9 hn_26 f_37 ty_47 c_48; omega) | omega)⟩, (hX_6.st (St_k_tKind_1_mk ⟨x_5, G_1, y_50, G_33, rfl, rfl, f_8, hB_G_1, ⟨y_10, ty_10, ⟨r_11, G_12, hX_15, ⟨c_17, ⟨x_22, G_18, hX_23, f_25, hB_G_18, hq_19, ⟨c_27, ⟨y_31, ty_31, ⟨r_32, G_33, hX_36, ⟨y_39, ty_39, (Or.inr ⟨c_41, ⟨y_46, ty_46, ⟨y_47, ey_47, ⟨c_48, ⟨y_50, ty_50, ⟨rfl, rfl⟩⟩⟩⟩⟩⟩)⟩⟩⟩⟩⟩⟩⟩⟩⟩)), hW, hB_G_33, hF, (Fr.call9 (rs := []) (fs := []) (Fr.call9 (rs := []) (fs := []) (Fr.call9 (rs := []) (fs := []) (Fr.call9 (rs := []) (fs := []) Fr.rf hq_2 rfl rfl) hq_13 rfl rfl) hq_19 rfl rfl) hq_34 rfl rfl), hS, lv_sub hl [0, 2] rfl⟩
          · have c_49 : x_22.toInt = 8 := xI_eq rfl rfl c_49
            exfalso; first | (clear hn_9 hn_26 f_37 ty_47 c_48; omega) | omega
        · have c_48 : r_32.toInt = y_47.toInt := xI_eq rfl rfl c_48
          obtain ⟨y_51, ey_51⟩ : ∃ q, q = x_22 + 1 := ⟨_, rfl⟩
          have ty_51 : y_51.toInt = x_22.toInt + 1 := xI_add rfl rfl ey_51 ((by first | (clear hn_9 hn_26 f_37 ty_47 c_48; omega) | omega)) ((by first | (clear hn_9 hn_26 f_37 ty_47 c_48; omega) | omega))
          refine lv_iinc (v := y_51) (lv' := [(2, .int y_51), (1, .int x_5), (0, .ref (a 3))]) hx hb dX9_kindOfWord_62 hl (k := 0) rfl (by rw [ey_51]; rfl) (lt_b rfl) rfl (fun ls hl => ?_)
          refine lv_goto (tgt := 16) hx hb dX9_kindOfWord_65 rfl ?_
          exact ih_20 (8 - y_51.toInt : Int).toNat ((by first | (clear f_37 ty_47 c_48; omega) | omega)) _ _ _ ⟨G_33, y_51, (Int.toNat_of_nonneg ((by first | (clear hn_9 hn_26 f_37 ty_47 c_48; omega) | omega))), ⟨(by first | (clear hn_9 hn_26 f_37 ty_47 c_48; omega) | omega), (by first | (clear hn_9 hn_26 f_37 ty_47 c_48; omega) | omega)⟩, (hX_23.st (St_k_tKind_2_mk ⟨x_22, G_18, y_51, G_33, rfl, rfl, f_25, hB_G_18, ⟨c_27, ⟨y_31, ty_31, ⟨r_32, G_33, hX_36, ⟨y_39, ty_39, (Or.inr ⟨c_41, ⟨y_46, ty_46, ⟨y_47, ey_47, ⟨c_48, ⟨y_51, ty_51, ⟨rfl, rfl⟩⟩⟩⟩⟩⟩)⟩⟩⟩⟩⟩)), hW, hB_G_33, hF, (Fr.call9 (rs := []) (fs := []) (Fr.call9 (rs := []) (fs := []) Fr.rf hq_19 rfl rfl) hq_34 rfl rfl), hS, lv_sub hl [0, 1, 2] rfl⟩

set_option maxHeartbeats 4000000 in
set_option maxRecDepth 100000 in
theorem k_tCutNumber (l : Launch) (D : va_G) (k : KT) (A : Nat → Prop) (a : Nat → Nat) (z : SK) (G : GS)   : Met l yX9_cutNumber (WS yX9_cutNumber cX9_cutNumber 1 none) ({ frames := 1, cells := 0, slots := 0, locals := 21 }) (va_Pc [.ref (a 3)] (cW D k A a z G)) (va_Qv (fun (G1 : GS) => P_tCutNumber G G1) (fun (G1 : GS) t => Wd D k A a G1 t.heap) A) 0 0 A := by
  refine Met.ofW (cc := cX9_cutNumber) (maxL := 1) (ret := none) (by decide) rfl ?_
  intro p e s m args below meth c s₁ B hml hv
  obtain ⟨rfl, hW, hB_G, hK, hZ⟩ := hv
  have hx := B.exec
  have hb := B.bytes
  have hr := B.returns
  have hts := atoms_spec (ws := WS yX9_cutNumber cX9_cutNumber 1 none) B.pre
  have hgd : ∀ w ∈ gd, w ∈ WS yX9_cutNumber cX9_cutNumber 1 none := fun w h => List.mem_cons_of_mem _ h
  have hg : ∀ w ∈ gd, w.before _ s = true := fun w h => hts w (hgd w h)
  have hown : s.vm.findClass RX9 = some m.cls := findClass_of_methodNamed B.named
  have hS : va_S A s.heap s.heap [] := va_S.rf
  have hF : Fr [] [(3, 2), (3, 3), (3, 5)] G G := Fr.rf
  have hl := lv_entry ([.ref (a 3)]) (n := 1) (Nat.le_of_ble_eq_true rfl)
  rw [lg_entry_eq]
  generalize (lg_sl ([.ref (a 3)]) ++ List.replicate (1 - (lg_sl ([.ref (a 3)])).length) Slot.unset).toArray = ls at hl ⊢
  have hl : lv_has ls 1 [(0, .ref (a 3))] := hl
  refine lv_aload_n hx hb dX9_cutNumber_0 rfl (lv_at hl 0 rfl) ?_
  refine ic_0 hx hb dX9_cutNumber_1 ?_
  refine S_putI (ty := .int) (C := RX9) (T := TX9) (N := 9) hx hb hg iX9 tyX9 tyX9_ok nmX9 hown hK hW hS kd_3 rfl 5 (lt_b rfl) (hg (Cond.fieldLink RX9 85 "SlabWalk$Tokens" "number" "I") m266) (fun _ h9 => h9) rfl (by decide +kernel) rfl rfl rfl dX9_cutNumber_2 (fun G_1 H locs eG_1 hW hS => ?_)
  have hB_G_1 : Bd G_1 := hB_G.put (lo := (-2147483648)) (hi := 2147483647) eG_1 rfl rfl rfl (tI_rng _).1 (tI_rng _).2 (hB_G.2.put eG_1 rfl)
  have hF := hF.put eG_1 (Or.inr (by decide))
  have b_7 : 0 ≤ (G.1 3 2).toInt ∧ (G.1 3 2).toInt ≤ 1600 := bd_3_2 hB_G
  have g_8 : (G_1.1 3 2).toInt = (G.1 3 2).toInt := (congrArg Int32.toInt (show G_1.1 3 2 = (G.1 3 2) from (gp_ne eG_1 (by decide))))
  refine loop_N (Inv := fun n H locs ls => ∃ (G_2 : GS), (n : Int) = 1600 - (G_2.1 3 2).toInt ∧ Rc (St_k_tCutNumber_1 G) G_1 G_2 ∧ Wd D k A a G_2 H ∧ Bd G_2 ∧ Fr [] [(3, 2), (3, 3), (3, 5)] G G_2 ∧ Fr [] [(3, 2), (3, 5)] G_1 G_2 ∧ va_S A s.heap H locs ∧ lv_has ls 1 [(0, .ref (a 3))]) (fun n_5 H locs ls ih_4 hI => ?_) (1600 - (G_1.1 3 2).toInt : Int).toNat ⟨G_1, (Int.toNat_of_nonneg (by omega)), Rc.rf, hW, hB_G_1, hF, Fr.rf, hS, lv_sub hl [0] rfl⟩
  obtain ⟨G_2, hn_9, hX_6, hW, hB_G_2, hF, hq_3, hS, hl⟩ := hI
  refine lv_aload_n hx hb dX9_cutNumber_5 rfl (lv_at hl 0 rfl) ?_
  have b_10 : 0 ≤ (G_2.1 3 2).toInt ∧ (G_2.1 3 2).toInt ≤ 1600 := bd_3_2 hB_G_2
  refine S_getI (v := (G_2.1 3 2)) (C := RX9) (T := TX9) (N := 9) hx hb hg iX9 hown hK hW kd_3 rfl 2 (lt_b rfl) (hg (Cond.fieldLink RX9 28 "SlabWalk$Tokens" "at" "I") m260) (fun _ h9 => h9) rfl rfl dX9_cutNumber_6 ?_
  refine lv_aload_n hx hb dX9_cutNumber_9 rfl (lv_at hl 0 rfl) ?_
  have b_11 : 0 ≤ (G.1 3 1).toInt ∧ (G.1 3 1).toInt ≤ 1600 := bd_3_1 hB_G
  refine S_getI (v := (G.1 3 1)) (C := RX9) (T := TX9) (N := 9) hx hb hg iX9 hown hK hW kd_3 rfl 1 (lt_b rfl) (hg (Cond.fieldLink RX9 25 "SlabWalk$Tokens" "size" "I") m259) (fun _ h9 => h9) rfl ((hq_3.i9 3 1 rfl rfl).trans (gp_ne eG_1 (by decide))) dX9_cutNumber_10 ?_
  refine W.cut (σ := Unit) (pcJ := 64) (J := fun y H locs ls => ∃ (G_13 : GS), Jn_k_tCutNumber_2 G G_2 G_13 ∧ Wd D k A a G_13 H ∧ Bd G_13 ∧ Fr [] [(3, 2), (3, 3), (3, 5)] G G_13 ∧ Fr [] [] G_2 G_13 ∧ va_S A s.heap H locs ∧ lv_has ls 1 [(0, .ref (a 3))]) (stJ := fun _ => []) ?_ (fun hJ_14 => ?_)
  · intro y H locs ls hI
    obtain ⟨G_13, hX_16, hW, hB_G_13, hF, hq_15, hS, hl⟩ := hI
    refine lv_aload_n hx hb dX9_cutNumber_64 rfl (lv_at hl 0 rfl) ?_
    refine lv_aload_n hx hb dX9_cutNumber_65 rfl (lv_at hl 0 rfl) ?_
    refine S_getI (v := (G_2.1 3 2)) (C := RX9) (T := TX9) (N := 9) hx hb hg iX9 hown hK hW kd_3 rfl 2 (lt_b rfl) (hg (Cond.fieldLink RX9 28 "SlabWalk$Tokens" "at" "I") m260) (fun _ h9 => h9) rfl ((hq_15.i9 3 2 rfl rfl).trans (rfl)) dX9_cutNumber_66 ?_
    refine lv_aload_n hx hb dX9_cutNumber_69 rfl (lv_at hl 0 rfl) ?_
    have b_17 : 0 ≤ (G.1 3 4).toInt ∧ (G.1 3 4).toInt ≤ 1600 := bd_3_4 hB_G
    refine S_getI (v := (G.1 3 4)) (C := RX9) (T := TX9) (N := 9) hx hb hg iX9 hown hK hW kd_3 rfl 4 (lt_b rfl) (hg (Cond.fieldLink RX9 41 "SlabWalk$Tokens" "place" "I") m264) (fun _ h9 => h9) rfl ((hq_15.i9 3 4 rfl rfl).trans ((hq_3.i9 3 4 rfl rfl).trans (gp_ne eG_1 (by decide)))) dX9_cutNumber_70 ?_
    refine lv_isub hx hb dX9_cutNumber_73 ?_
    refine lv_topi (fun y_18 ey_18 => ?_)
    have ty_18 : y_18.toInt = (G_2.1 3 2).toInt - (G.1 3 4).toInt := xI_sub rfl rfl ey_18 ((by first | (clear b_7 g_8 hn_9 b_11; omega) | omega)) ((by first | (clear b_7 g_8 hn_9 b_11; omega) | omega))
    refine ic_4 hx hb dX9_cutNumber_74 ?_
    refine lv_icmp_gt (tgt := 89) hx hb dX9_cutNumber_75 rfl (fun c_19 => ?_) (fun c_19 => ?_)
    · have c_19 : 4 < y_18.toInt := xI_lt rfl rfl c_19
      refine lv_sipush (v := 202) hx hb dX9_cutNumber_89 (by decide) ?_
      refine lv_goto (tgt := 98) hx hb dX9_cutNumber_92 rfl ?_
      refine S_putI (ty := .int) (C := RX9) (T := TX9) (N := 9) hx hb hg iX9 tyX9 tyX9_ok nmX9 hown hK hW hS kd_3 rfl 3 (lt_b rfl) (hg (Cond.fieldLink RX9 38 "SlabWalk$Tokens" "kind" "I") m262) (fun _ h9 => h9) rfl (by decide +kernel) rfl rfl rfl dX9_cutNumber_98 (fun G_20 H locs eG_20 hW hS => ?_)
      have hB_G_20 : Bd G_20 := hB_G_13.put (lo := (-2147483648)) (hi := 2147483647) eG_20 rfl rfl rfl (tI_rng _).1 (tI_rng _).2 (hB_G_13.2.put eG_20 rfl)
      have hF := hF.put eG_20 (Or.inr (by decide))
      exact W.vret hx hb hr (fun t ht _ => ⟨⟨G_20, rfl, (P_tCutNumber_mk ⟨hB_G_20, hF, ⟨G_1, hB_G_1, (Fr.put (rs := []) (fs := [(3, 5)]) Fr.rf eG_1 (Or.inr (by decide))), (gp_eq eG_1), ⟨G_2, hX_6, hB_G_2, hq_3, ⟨G_13, hX_16, hB_G_13, hq_15, ⟨y_18, ty_18, (Or.inl ⟨c_19, ⟨(Fr.put (rs := []) (fs := [(3, 3)]) Fr.rf eG_20 (Or.inr (by decide))), (gp_eq eG_20)⟩⟩)⟩⟩⟩⟩⟩), wd_t ht hW⟩, hS.F ht⟩) hS.2.2 dX9_cutNumber_101
    · have c_19 : y_18.toInt ≤ 4 := xI_nlt rfl rfl c_19
      refine lv_aload_n hx hb dX9_cutNumber_78 rfl (lv_at hl 0 rfl) ?_
      refine lv_aload_n hx hb dX9_cutNumber_79 rfl (lv_at hl 0 rfl) ?_
      refine S_getI (v := (G_2.1 3 2)) (C := RX9) (T := TX9) (N := 9) hx hb hg iX9 hown hK hW kd_3 rfl 2 (lt_b rfl) (hg (Cond.fieldLink RX9 28 "SlabWalk$Tokens" "at" "I") m260) (fun _ h9 => h9) rfl ((hq_15.i9 3 2 rfl rfl).trans (rfl)) dX9_cutNumber_80 ?_
      refine S_calli (va_runV (As := [.int (G_2.1 3 2)]) (rest := [.ref (a 3)]) ⟨hx, hb, hml, hown, hts⟩ (k_tLetter l D k A a z G_13 (G_2.1 3 2) ((by first | (clear b_7 g_8 hn_9 b_11; omega) | omega))) (cwV 1 hts (gd_V hgd m642 m644 m3 m120 m645) rfl rfl rfl hd_X9_isLetter ⟨Nat.le_of_ble_eq_true rfl, Nat.le_of_ble_eq_true rfl⟩) (pre_W hW hB_G_13 hK hZ hS kd_3 rfl) rfl rfl hl.1 rfl (lv_room (Nat.le_of_ble_eq_true rfl)) dX9_cutNumber_83 ⟨Nat.le_of_ble_eq_true rfl, Nat.le_of_ble_eq_true rfl⟩) hS (fun r_21 G_22 H locs hpo hW hS => ?_)
      have hX_25 : P_tLetter (G_2.1 3 2) G_13 r_21 G_22 := hpo
      obtain ⟨hB_G_22, hq_23, f_26, -⟩ := hpo
      have hF := hF.call9 hq_23 rfl rfl
      refine lv_if_eq (tgt := 95) hx hb dX9_cutNumber_86 rfl (fun c_27 => ?_) (fun c_27 => ?_)
      · have c_27 : r_21.toInt = 0 := xI_eq rfl rfl c_27
        refine lv_sipush (v := 201) hx hb dX9_cutNumber_95 (by decide) ?_
        refine S_putI (ty := .int) (C := RX9) (T := TX9) (N := 9) hx hb hg iX9 tyX9 tyX9_ok nmX9 hown hK hW hS kd_3 rfl 3 (lt_b rfl) (hg (Cond.fieldLink RX9 38 "SlabWalk$Tokens" "kind" "I") m262) (fun _ h9 => h9) rfl (by decide +kernel) rfl rfl rfl dX9_cutNumber_98 (fun G_28 H locs eG_28 hW hS => ?_)
        have hB_G_28 : Bd G_28 := hB_G_22.put (lo := (-2147483648)) (hi := 2147483647) eG_28 rfl rfl rfl (tI_rng _).1 (tI_rng _).2 (hB_G_22.2.put eG_28 rfl)
        have hF := hF.put eG_28 (Or.inr (by decide))
        exact W.vret hx hb hr (fun t ht _ => ⟨⟨G_28, rfl, (P_tCutNumber_mk ⟨hB_G_28, hF, ⟨G_1, hB_G_1, (Fr.put (rs := []) (fs := [(3, 5)]) Fr.rf eG_1 (Or.inr (by decide))), (gp_eq eG_1), ⟨G_2, hX_6, hB_G_2, hq_3, ⟨G_13, hX_16, hB_G_13, hq_15, ⟨y_18, ty_18, (Or.inr ⟨c_19, ⟨r_21, G_22, hX_25, (Or.inl ⟨c_27, ⟨(Fr.put (rs := []) (fs := [(3, 3)]) Fr.rf eG_28 (Or.inr (by decide))), (gp_eq eG_28)⟩⟩)⟩⟩)⟩⟩⟩⟩⟩), wd_t ht hW⟩, hS.F ht⟩) hS.2.2 dX9_cutNumber_101
      · have c_27 : r_21.toInt ≠ 0 := xI_ne rfl rfl c_27
        refine lv_sipush (v := 202) hx hb dX9_cutNumber_89 (by decide) ?_
        refine lv_goto (tgt := 98) hx hb dX9_cutNumber_92 rfl ?_
        refine S_putI (ty := .int) (C := RX9) (T := TX9) (N := 9) hx hb hg iX9 tyX9 tyX9_ok nmX9 hown hK hW hS kd_3 rfl 3 (lt_b rfl) (hg (Cond.fieldLink RX9 38 "SlabWalk$Tokens" "kind" "I") m262) (fun _ h9 => h9) rfl (by decide +kernel) rfl rfl rfl dX9_cutNumber_98 (fun G_29 H locs eG_29 hW hS => ?_)
        have hB_G_29 : Bd G_29 := hB_G_22.put (lo := (-2147483648)) (hi := 2147483647) eG_29 rfl rfl rfl (tI_rng _).1 (tI_rng _).2 (hB_G_22.2.put eG_29 rfl)
        have hF := hF.put eG_29 (Or.inr (by decide))
        exact W.vret hx hb hr (fun t ht _ => ⟨⟨G_29, rfl, (P_tCutNumber_mk ⟨hB_G_29, hF, ⟨G_1, hB_G_1, (Fr.put (rs := []) (fs := [(3, 5)]) Fr.rf eG_1 (Or.inr (by decide))), (gp_eq eG_1), ⟨G_2, hX_6, hB_G_2, hq_3, ⟨G_13, hX_16, hB_G_13, hq_15, ⟨y_18, ty_18, (Or.inr ⟨c_19, ⟨r_21, G_22, hX_25, (Or.inr ⟨c_27, ⟨(Fr.put (rs := []) (fs := [(3, 3)]) Fr.rf eG_29 (Or.inr (by decide))), (gp_eq eG_29)⟩⟩)⟩⟩)⟩⟩⟩⟩⟩), wd_t ht hW⟩, hS.F ht⟩) hS.2.2 dX9_cutNumber_101
  refine lv_icmp_ge (tgt := 64) hx hb dX9_cutNumber_13 rfl (fun c_30 => ?_) (fun c_30 => ?_)
  · have c_30 : (G.1 3 1).toInt ≤ (G_2.1 3 2).toInt := xI_le rfl rfl c_30
    exact hJ_14 () _ _ _ ⟨G_2, (Jn_k_tCutNumber_2_mk (Or.inl ⟨c_30, rfl⟩)), hW, hB_G_2, hF, (Fr.rf (rs := []) (fs := [])), hS, lv_sub hl [0] rfl⟩
  · have c_30 : (G_2.1 3 2).toInt < (G.1 3 1).toInt := xI_nle rfl rfl c_30
    refine lv_aload_n hx hb dX9_cutNumber_16 rfl (lv_at hl 0 rfl) ?_
    refine lv_aload_n hx hb dX9_cutNumber_17 rfl (lv_at hl 0 rfl) ?_
    refine S_getI (v := (G_2.1 3 2)) (C := RX9) (T := TX9) (N := 9) hx hb hg iX9 hown hK hW kd_3 rfl 2 (lt_b rfl) (hg (Cond.fieldLink RX9 28 "SlabWalk$Tokens" "at" "I") m260) (fun _ h9 => h9) rfl rfl dX9_cutNumber_18 ?_
    refine S_calli (va_runV (As := [.int (G_2.1 3 2)]) (rest := []) ⟨hx, hb, hml, hown, hts⟩ (k_tDigit l D k A a z G_2 (G_2.1 3 2) ((by first | (clear b_7 g_8 hn_9; omega) | omega))) (cwV 1 hts (gd_V hgd m703 m705 m6 m120 m706) rfl rfl rfl hd_X9_isDigit ⟨Nat.le_of_ble_eq_true rfl, Nat.le_of_ble_eq_true rfl⟩) (pre_W hW hB_G_2 hK hZ hS kd_3 rfl) rfl rfl hl.1 rfl (lv_room (Nat.le_of_ble_eq_true rfl)) dX9_cutNumber_21 ⟨Nat.le_of_ble_eq_true rfl, Nat.le_of_ble_eq_true rfl⟩) hS (fun r_31 G_32 H locs hpo hW hS => ?_)
    have hX_35 : P_tDigit (G_2.1 3 2) G_2 r_31 G_32 := hpo
    obtain ⟨hB_G_32, hq_33, f_36, -⟩ := hpo
    have hF := hF.call9 hq_33 rfl rfl
    refine lv_if_eq (tgt := 64) hx hb dX9_cutNumber_24 rfl (fun c_37 => ?_) (fun c_37 => ?_)
    · have c_37 : r_31.toInt = 0 := xI_eq rfl rfl c_37
      exact hJ_14 () _ _ _ ⟨G_32, (Jn_k_tCutNumber_2_mk (Or.inr ⟨c_30, ⟨r_31, G_32, hX_35, ⟨c_37, rfl⟩⟩⟩)), hW, hB_G_32, hF, (Fr.call9 (rs := []) (fs := []) Fr.rf hq_33 rfl rfl), hS, lv_sub hl [0] rfl⟩
    · have c_37 : r_31.toInt ≠ 0 := xI_ne rfl rfl c_37
      refine lv_aload_n hx hb dX9_cutNumber_27 rfl (lv_at hl 0 rfl) ?_
      refine lv_aload_n hx hb dX9_cutNumber_28 rfl (lv_at hl 0 rfl) ?_
      refine S_getI (v := (G_2.1 3 5)) (C := RX9) (T := TX9) (N := 9) hx hb hg iX9 hown hK hW kd_3 rfl 5 (lt_b rfl) (hg (Cond.fieldLink RX9 85 "SlabWalk$Tokens" "number" "I") m266) (fun _ h9 => h9) rfl (hq_33.i9 3 5 rfl rfl) dX9_cutNumber_29 ?_
      refine lv_bipush (v := 10) hx hb dX9_cutNumber_32 (by decide) ?_
      refine lv_imul hx hb dX9_cutNumber_34 ?_
      refine lv_topi (fun y_38 ey_38 => ?_)
      refine lv_aload_n hx hb dX9_cutNumber_35 rfl (lv_at hl 0 rfl) ?_
      refine S_getR (n := 32) (C := RX9) (T := TX9) (N := 9) hx hb hg iX9 hown hK hW kd_3 rfl 0 (lt_b rfl) (hg (Cond.fieldLink RX9 15 "SlabWalk$Tokens" "text" "[B") m258) (fun _ h9 => h9) rfl dX9_cutNumber_36 ?_
      refine lv_aload_n hx hb dX9_cutNumber_39 rfl (lv_at hl 0 rfl) ?_
      refine S_getI (v := (G_2.1 3 2)) (C := RX9) (T := TX9) (N := 9) hx hb hg iX9 hown hK hW kd_3 rfl 2 (lt_b rfl) (hg (Cond.fieldLink RX9 28 "SlabWalk$Tokens" "at" "I") m260) (fun _ h9 => h9) rfl ((hq_33.i9 3 2 rfl rfl).trans (rfl)) dX9_cutNumber_40 ?_
      refine S_bald hx hb hK hW kd_32 (vin ((by first | (clear b_7 g_8 hn_9 f_36 c_37; omega) | omega)) ((by first | (clear b_7 g_8 hn_9 f_36 c_37; omega) | omega))) dX9_cutNumber_43 (fun y_39 ey_39 => ?_)
      have ty_39 : (-128) ≤ y_39.toInt ∧ y_39.toInt ≤ 127 := bv_32 hB_G_32 ey_39
      refine lv_iadd hx hb dX9_cutNumber_44 ?_
      refine lv_topi (fun y_40 ey_40 => ?_)
      refine lv_bipush (v := 48) hx hb dX9_cutNumber_45 (by decide) ?_
      refine lv_isub hx hb dX9_cutNumber_47 ?_
      refine lv_topi (fun y_41 ey_41 => ?_)
      refine S_putI (ty := .int) (C := RX9) (T := TX9) (N := 9) hx hb hg iX9 tyX9 tyX9_ok nmX9 hown hK hW hS kd_3 rfl 5 (lt_b rfl) (hg (Cond.fieldLink RX9 85 "SlabWalk$Tokens" "number" "I") m266) (fun _ h9 => h9) rfl (by decide +kernel) rfl rfl rfl dX9_cutNumber_48 (fun G_42 H locs eG_42 hW hS => ?_)
      have hB_G_42 : Bd G_42 := hB_G_32.put (lo := (-2147483648)) (hi := 2147483647) eG_42 rfl rfl rfl (tI_rng _).1 (tI_rng _).2 (hB_G_32.2.put eG_42 rfl)
      have hF := hF.put eG_42 (Or.inr (by decide))
      refine lv_aload_n hx hb dX9_cutNumber_51 rfl (lv_at hl 0 rfl) ?_
      refine lv_dup hx hb dX9_cutNumber_52 rfl ?_
      refine S_getI (v := (G_2.1 3 2)) (C := RX9) (T := TX9) (N := 9) hx hb hg iX9 hown hK hW kd_3 rfl 2 (lt_b rfl) (hg (Cond.fieldLink RX9 28 "SlabWalk$Tokens" "at" "I") m260) (fun _ h9 => h9) rfl ((gp_ne eG_42 (by decide)).trans ((hq_33.i9 3 2 rfl rfl).trans (rfl))) dX9_cutNumber_53 ?_
      refine ic_1 hx hb dX9_cutNumber_56 ?_
      refine lv_iadd hx hb dX9_cutNumber_57 ?_
      refine lv_topi (fun y_43 ey_43 => ?_)
      have ty_43 : y_43.toInt = (G_2.1 3 2).toInt + 1 := xI_add rfl rfl ey_43 ((by first | (clear b_7 g_8 hn_9 f_36 c_37 ty_39; omega) | omega)) ((by first | (clear b_7 g_8 hn_9 f_36 c_37 ty_39; omega) | omega))
      refine S_putI (ty := .int) (C := RX9) (T := TX9) (N := 9) hx hb hg iX9 tyX9 tyX9_ok nmX9 hown hK hW hS kd_3 rfl 2 (lt_b rfl) (hg (Cond.fieldLink RX9 28 "SlabWalk$Tokens" "at" "I") m260) (fun _ h9 => h9) rfl (by decide +kernel) rfl rfl rfl dX9_cutNumber_58 (fun G_44 H locs eG_44 hW hS => ?_)
      have hB_G_44 : Bd G_44 := hB_G_42.put (V := y_43.toInt) (lo := 0) (hi := 1600) eG_44 rfl rfl rfl ((by first | (clear b_7 g_8 hn_9 f_36 c_37 ty_39; omega) | omega)) ((by first | (clear b_7 g_8 hn_9 f_36 c_37 ty_39; omega) | omega)) (hB_G_42.2.put eG_44 rfl)
      have hF := hF.put eG_44 (Or.inr (by decide))
      refine lv_goto (tgt := 5) hx hb dX9_cutNumber_61 rfl ?_
      have g_45 : (G_44.1 3 2).toInt = y_43.toInt := (congrArg Int32.toInt (show G_44.1 3 2 = y_43 from (gp_eq eG_44)))
      exact ih_4 (1600 - (G_44.1 3 2).toInt : Int).toNat ((by first | (clear b_7 g_8 f_36 c_37 ty_39; omega) | omega)) _ _ _ ⟨G_44, (Int.toNat_of_nonneg ((by first | (clear b_7 g_8 hn_9 f_36 c_37 ty_39; omega) | omega))), (hX_6.st (St_k_tCutNumber_1_mk ⟨G_2, G_44, rfl, rfl, hB_G_2, ⟨c_30, ⟨r_31, G_32, hX_35, ⟨c_37, ⟨y_38, ey_38, ⟨y_39, ey_39, ⟨y_40, ey_40, ⟨y_41, ey_41, ⟨y_43, ty_43, ⟨(Fr.put (rs := []) (fs := [(3, 2), (3, 5)]) (Fr.put (rs := []) (fs := [(3, 2), (3, 5)]) Fr.rf eG_42 (Or.inr (by decide))) eG_44 (Or.inr (by decide))), (gp_eq eG_44), ((gp_ne eG_44 (by decide)).trans (gp_eq eG_42))⟩⟩⟩⟩⟩⟩⟩⟩⟩⟩)), hW, hB_G_44, hF, (Fr.put (rs := []) (fs := [(3, 2), (3, 5)]) (Fr.put (rs := []) (fs := [(3, 2), (3, 5)]) (Fr.call9 (rs := []) (fs := [(3, 2), (3, 5)]) (Fr.call9 (rs := []) (fs := [(3, 2), (3, 5)]) Fr.rf hq_3 rfl rfl) hq_33 rfl rfl) eG_42 (Or.inr (by decide))) eG_44 (Or.inr (by decide))), hS, lv_sub hl [0] rfl⟩

set_option maxHeartbeats 4000000 in
set_option maxRecDepth 100000 in
theorem k_tCutWord (l : Launch) (D : va_G) (k : KT) (A : Nat → Prop) (a : Nat → Nat) (z : SK) (G : GS)   : Met l yX9_cutWord (WS yX9_cutWord cX9_cutWord 1 none) ({ frames := 5, cells := 0, slots := 0, locals := 107 }) (va_Pc [.ref (a 3)] (cW D k A a z G)) (va_Qv (fun (G1 : GS) => P_tCutWord G G1) (fun (G1 : GS) t => Wd D k A a G1 t.heap) A) 0 0 A := by
  refine Met.ofW (cc := cX9_cutWord) (maxL := 1) (ret := none) (by decide) rfl ?_
  intro p e s m args below meth c s₁ B hml hv
  obtain ⟨rfl, hW, hB_G, hK, hZ⟩ := hv
  have hx := B.exec
  have hb := B.bytes
  have hr := B.returns
  have hts := atoms_spec (ws := WS yX9_cutWord cX9_cutWord 1 none) B.pre
  have hgd : ∀ w ∈ gd, w ∈ WS yX9_cutWord cX9_cutWord 1 none := fun w h => List.mem_cons_of_mem _ h
  have hg : ∀ w ∈ gd, w.before _ s = true := fun w h => hts w (hgd w h)
  have hown : s.vm.findClass RX9 = some m.cls := findClass_of_methodNamed B.named
  have hS : va_S A s.heap s.heap [] := va_S.rf
  have hF : Fr [] [(3, 2), (3, 3), (3, 6)] G G := Fr.rf
  have hl := lv_entry ([.ref (a 3)]) (n := 1) (Nat.le_of_ble_eq_true rfl)
  rw [lg_entry_eq]
  generalize (lg_sl ([.ref (a 3)]) ++ List.replicate (1 - (lg_sl ([.ref (a 3)])).length) Slot.unset).toArray = ls at hl ⊢
  have hl : lv_has ls 1 [(0, .ref (a 3))] := hl
  refine lv_aload_n hx hb dX9_cutWord_0 rfl (lv_at hl 0 rfl) ?_
  refine lv_lconst (v := 0) hx hb dX9_cutWord_1 (by decide) ?_
  refine S_putL (C := RX9) (T := TX9) (N := 9) hx hb hg iX9 tyX9 tyX9_ok nmX9 hown hK hW hS kd_3 rfl 6 (lt_b rfl) (hg (Cond.fieldLink RX9 68 "SlabWalk$Tokens" "word" "J") m269) (fun _ h9 => h9) rfl (by decide +kernel) rfl dX9_cutWord_2 (fun G_1 H locs eG_1 hW hS => ?_)
  have hB_G_1 : Bd G_1 := hB_G.putl eG_1
  have hF := hF.putl eG_1 (Or.inr (by decide))
  have b_7 : 0 ≤ (G.1 3 2).toInt ∧ (G.1 3 2).toInt ≤ 1600 := bd_3_2 hB_G
  have g_8 : (G_1.1 3 2).toInt = (G.1 3 2).toInt := (congrArg Int32.toInt (show G_1.1 3 2 = (G.1 3 2) from (congrFun (congrFun (gp_l eG_1).1 3) 2)))
  refine loop_N (Inv := fun n H locs ls => ∃ (G_2 : GS), (n : Int) = 1600 - (G_2.1 3 2).toInt ∧ Rc (St_k_tCutWord_1 G) G_1 G_2 ∧ Wd D k A a G_2 H ∧ Bd G_2 ∧ Fr [] [(3, 2), (3, 3), (3, 6)] G G_2 ∧ Fr [] [(3, 2), (3, 6)] G_1 G_2 ∧ va_S A s.heap H locs ∧ lv_has ls 1 [(0, .ref (a 3))]) (fun n_5 H locs ls ih_4 hI => ?_) (1600 - (G_1.1 3 2).toInt : Int).toNat ⟨G_1, (Int.toNat_of_nonneg (by omega)), Rc.rf, hW, hB_G_1, hF, Fr.rf, hS, lv_sub hl [0] rfl⟩
  obtain ⟨G_2, hn_9, hX_6, hW, hB_G_2, hF, hq_3, hS, hl⟩ := hI
  refine lv_aload_n hx hb dX9_cutWord_5 rfl (lv_at hl 0 rfl) ?_
  have b_10 : 0 ≤ (G_2.1 3 2).toInt ∧ (G_2.1 3 2).toInt ≤ 1600 := bd_3_2 hB_G_2
  refine S_getI (v := (G_2.1 3 2)) (C := RX9) (T := TX9) (N := 9) hx hb hg iX9 hown hK hW kd_3 rfl 2 (lt_b rfl) (hg (Cond.fieldLink RX9 28 "SlabWalk$Tokens" "at" "I") m260) (fun _ h9 => h9) rfl rfl dX9_cutWord_6 ?_
  refine lv_aload_n hx hb dX9_cutWord_9 rfl (lv_at hl 0 rfl) ?_
  have b_11 : 0 ≤ (G.1 3 1).toInt ∧ (G.1 3 1).toInt ≤ 1600 := bd_3_1 hB_G
  refine S_getI (v := (G.1 3 1)) (C := RX9) (T := TX9) (N := 9) hx hb hg iX9 hown hK hW kd_3 rfl 1 (lt_b rfl) (hg (Cond.fieldLink RX9 25 "SlabWalk$Tokens" "size" "I") m259) (fun _ h9 => h9) rfl ((hq_3.i9 3 1 rfl rfl).trans (congrFun (congrFun (gp_l eG_1).1 3) 1)) dX9_cutWord_10 ?_
  refine lv_icmp_ge (tgt := 66) hx hb dX9_cutWord_13 rfl (fun c_12 => ?_) (fun c_12 => ?_)
  · have c_12 : (G.1 3 1).toInt ≤ (G_2.1 3 2).toInt := xI_le rfl rfl c_12
    refine lv_aload_n hx hb dX9_cutWord_66 rfl (lv_at hl 0 rfl) ?_
    refine lv_aload_n hx hb dX9_cutWord_67 rfl (lv_at hl 0 rfl) ?_
    refine S_getI (v := (G_2.1 3 2)) (C := RX9) (T := TX9) (N := 9) hx hb hg iX9 hown hK hW kd_3 rfl 2 (lt_b rfl) (hg (Cond.fieldLink RX9 28 "SlabWalk$Tokens" "at" "I") m260) (fun _ h9 => h9) rfl rfl dX9_cutWord_68 ?_
    refine lv_aload_n hx hb dX9_cutWord_71 rfl (lv_at hl 0 rfl) ?_
    have b_13 : 0 ≤ (G.1 3 4).toInt ∧ (G.1 3 4).toInt ≤ 1600 := bd_3_4 hB_G
    refine S_getI (v := (G.1 3 4)) (C := RX9) (T := TX9) (N := 9) hx hb hg iX9 hown hK hW kd_3 rfl 4 (lt_b rfl) (hg (Cond.fieldLink RX9 41 "SlabWalk$Tokens" "place" "I") m264) (fun _ h9 => h9) rfl ((hq_3.i9 3 4 rfl rfl).trans (congrFun (congrFun (gp_l eG_1).1 3) 4)) dX9_cutWord_72 ?_
    refine lv_isub hx hb dX9_cutWord_75 ?_
    refine lv_topi (fun y_14 ey_14 => ?_)
    have ty_14 : y_14.toInt = (G_2.1 3 2).toInt - (G.1 3 4).toInt := xI_sub rfl rfl ey_14 ((by first | (clear b_7 g_8 hn_9; omega) | omega)) ((by first | (clear b_7 g_8 hn_9; omega) | omega))
    refine lv_bipush (v := 8) hx hb dX9_cutWord_76 (by decide) ?_
    refine lv_icmp_le (tgt := 87) hx hb dX9_cutWord_78 rfl (fun c_15 => ?_) (fun c_15 => ?_)
    · have c_15 : y_14.toInt ≤ 8 := xI_le rfl rfl c_15
      refine lv_aload_n hx hb dX9_cutWord_87 rfl (lv_at hl 0 rfl) ?_
      refine S_calli (va_runV (As := []) (rest := [.ref (a 3)]) ⟨hx, hb, hml, hown, hts⟩ (k_tKind l D k A a z G_2  ) (cwV 0 hts (gd_V hgd m650 m652 m5 m120 m653) rfl rfl rfl hd_X9_kindOfWord ⟨Nat.le_of_ble_eq_true rfl, Nat.le_of_ble_eq_true rfl⟩) (pre_W hW hB_G_2 hK hZ hS kd_3 rfl) rfl rfl hl.1 rfl (lv_room (Nat.le_of_ble_eq_true rfl)) dX9_cutWord_88 ⟨Nat.le_of_ble_eq_true rfl, Nat.le_of_ble_eq_true rfl⟩) hS (fun r_16 G_17 H locs hpo hW hS => ?_)
      have hX_20 : P_tKind G_2 r_16 G_17 := hpo
      obtain ⟨hB_G_17, hq_18, f_21, -⟩ := hpo
      have hF := hF.call9 hq_18 rfl rfl
      refine S_putI (ty := .int) (C := RX9) (T := TX9) (N := 9) hx hb hg iX9 tyX9 tyX9_ok nmX9 hown hK hW hS kd_3 rfl 3 (lt_b rfl) (hg (Cond.fieldLink RX9 38 "SlabWalk$Tokens" "kind" "I") m262) (fun _ h9 => h9) rfl (by decide +kernel) rfl rfl rfl dX9_cutWord_91 (fun G_22 H locs eG_22 hW hS => ?_)
      have hB_G_22 : Bd G_22 := hB_G_17.put (lo := (-2147483648)) (hi := 2147483647) eG_22 rfl rfl rfl (tI_rng _).1 (tI_rng _).2 (hB_G_17.2.put eG_22 rfl)
      have hF := hF.put eG_22 (Or.inr (by decide))
      exact W.vret hx hb hr (fun t ht _ => ⟨⟨G_22, rfl, (P_tCutWord_mk ⟨hB_G_22, hF, ⟨G_1, hB_G_1, (Fr.putl (rs := []) (fs := [(3, 6)]) Fr.rf eG_1 (Or.inr (by decide))), (gpl_eq eG_1), ⟨G_2, hX_6, hB_G_2, hq_3, (Or.inl ⟨c_12, ⟨y_14, ty_14, (Or.inl ⟨c_15, ⟨r_16, G_17, hX_20, ⟨(Fr.put (rs := []) (fs := [(3, 3)]) Fr.rf eG_22 (Or.inr (by decide))), (gp_eq eG_22)⟩⟩⟩)⟩⟩)⟩⟩⟩), wd_t ht hW⟩, hS.F ht⟩) hS.2.2 dX9_cutWord_94
    · have c_15 : 8 < y_14.toInt := xI_nle rfl rfl c_15
      refine lv_sipush (v := 202) hx hb dX9_cutWord_81 (by decide) ?_
      refine lv_goto (tgt := 91) hx hb dX9_cutWord_84 rfl ?_
      refine S_putI (ty := .int) (C := RX9) (T := TX9) (N := 9) hx hb hg iX9 tyX9 tyX9_ok nmX9 hown hK hW hS kd_3 rfl 3 (lt_b rfl) (hg (Cond.fieldLink RX9 38 "SlabWalk$Tokens" "kind" "I") m262) (fun _ h9 => h9) rfl (by decide +kernel) rfl rfl rfl dX9_cutWord_91 (fun G_23 H locs eG_23 hW hS => ?_)
      have hB_G_23 : Bd G_23 := hB_G_2.put (lo := (-2147483648)) (hi := 2147483647) eG_23 rfl rfl rfl (tI_rng _).1 (tI_rng _).2 (hB_G_2.2.put eG_23 rfl)
      have hF := hF.put eG_23 (Or.inr (by decide))
      exact W.vret hx hb hr (fun t ht _ => ⟨⟨G_23, rfl, (P_tCutWord_mk ⟨hB_G_23, hF, ⟨G_1, hB_G_1, (Fr.putl (rs := []) (fs := [(3, 6)]) Fr.rf eG_1 (Or.inr (by decide))), (gpl_eq eG_1), ⟨G_2, hX_6, hB_G_2, hq_3, (Or.inl ⟨c_12, ⟨y_14, ty_14, (Or.inr ⟨c_15, ⟨(Fr.put (rs := []) (fs := [(3, 3)]) Fr.rf eG_23 (Or.inr (by decide))), (gp_eq eG_23)⟩⟩)⟩⟩)⟩⟩⟩), wd_t ht hW⟩, hS.F ht⟩) hS.2.2 dX9_cutWord_94
  · have c_12 : (G_2.1 3 2).toInt < (G.1 3 1).toInt := xI_nle rfl rfl c_12
    refine lv_aload_n hx hb dX9_cutWord_16 rfl (lv_at hl 0 rfl) ?_
    refine lv_aload_n hx hb dX9_cutWord_17 rfl (lv_at hl 0 rfl) ?_
    refine S_getI (v := (G_2.1 3 2)) (C := RX9) (T := TX9) (N := 9) hx hb hg iX9 hown hK hW kd_3 rfl 2 (lt_b rfl) (hg (Cond.fieldLink RX9 28 "SlabWalk$Tokens" "at" "I") m260) (fun _ h9 => h9) rfl rfl dX9_cutWord_18 ?_
    refine S_calli (va_runV (As := [.int (G_2.1 3 2)]) (rest := []) ⟨hx, hb, hml, hown, hts⟩ (k_tLetter l D k A a z G_2 (G_2.1 3 2) ((by first | (clear b_7 g_8 hn_9; omega) | omega))) (cwV 1 hts (gd_V hgd m642 m644 m3 m120 m645) rfl rfl rfl hd_X9_isLetter ⟨Nat.le_of_ble_eq_true rfl, Nat.le_of_ble_eq_true rfl⟩) (pre_W hW hB_G_2 hK hZ hS kd_3 rfl) rfl rfl hl.1 rfl (lv_room (Nat.le_of_ble_eq_true rfl)) dX9_cutWord_21 ⟨Nat.le_of_ble_eq_true rfl, Nat.le_of_ble_eq_true rfl⟩) hS (fun r_24 G_25 H locs hpo hW hS => ?_)
    have hX_28 : P_tLetter (G_2.1 3 2) G_2 r_24 G_25 := hpo
    obtain ⟨hB_G_25, hq_26, f_29, -⟩ := hpo
    have hF := hF.call9 hq_26 rfl rfl
    refine lv_if_eq (tgt := 66) hx hb dX9_cutWord_24 rfl (fun c_30 => ?_) (fun c_30 => ?_)
    · have c_30 : r_24.toInt = 0 := xI_eq rfl rfl c_30
      refine lv_aload_n hx hb dX9_cutWord_66 rfl (lv_at hl 0 rfl) ?_
      refine lv_aload_n hx hb dX9_cutWord_67 rfl (lv_at hl 0 rfl) ?_
      refine S_getI (v := (G_2.1 3 2)) (C := RX9) (T := TX9) (N := 9) hx hb hg iX9 hown hK hW kd_3 rfl 2 (lt_b rfl) (hg (Cond.fieldLink RX9 28 "SlabWalk$Tokens" "at" "I") m260) (fun _ h9 => h9) rfl ((hq_26.i9 3 2 rfl rfl).trans (rfl)) dX9_cutWord_68 ?_
      refine lv_aload_n hx hb dX9_cutWord_71 rfl (lv_at hl 0 rfl) ?_
      have b_31 : 0 ≤ (G.1 3 4).toInt ∧ (G.1 3 4).toInt ≤ 1600 := bd_3_4 hB_G
      refine S_getI (v := (G.1 3 4)) (C := RX9) (T := TX9) (N := 9) hx hb hg iX9 hown hK hW kd_3 rfl 4 (lt_b rfl) (hg (Cond.fieldLink RX9 41 "SlabWalk$Tokens" "place" "I") m264) (fun _ h9 => h9) rfl ((hq_26.i9 3 4 rfl rfl).trans ((hq_3.i9 3 4 rfl rfl).trans (congrFun (congrFun (gp_l eG_1).1 3) 4))) dX9_cutWord_72 ?_
      refine lv_isub hx hb dX9_cutWord_75 ?_
      refine lv_topi (fun y_32 ey_32 => ?_)
      have ty_32 : y_32.toInt = (G_2.1 3 2).toInt - (G.1 3 4).toInt := xI_sub rfl rfl ey_32 ((by first | (clear b_7 g_8 hn_9 f_29 c_30; omega) | omega)) ((by first | (clear b_7 g_8 hn_9 f_29 c_30; omega) | omega))
      refine lv_bipush (v := 8) hx hb dX9_cutWord_76 (by decide) ?_
      refine lv_icmp_le (tgt := 87) hx hb dX9_cutWord_78 rfl (fun c_33 => ?_) (fun c_33 => ?_)
      · have c_33 : y_32.toInt ≤ 8 := xI_le rfl rfl c_33
        refine lv_aload_n hx hb dX9_cutWord_87 rfl (lv_at hl 0 rfl) ?_
        refine S_calli (va_runV (As := []) (rest := [.ref (a 3)]) ⟨hx, hb, hml, hown, hts⟩ (k_tKind l D k A a z G_25  ) (cwV 0 hts (gd_V hgd m650 m652 m5 m120 m653) rfl rfl rfl hd_X9_kindOfWord ⟨Nat.le_of_ble_eq_true rfl, Nat.le_of_ble_eq_true rfl⟩) (pre_W hW hB_G_25 hK hZ hS kd_3 rfl) rfl rfl hl.1 rfl (lv_room (Nat.le_of_ble_eq_true rfl)) dX9_cutWord_88 ⟨Nat.le_of_ble_eq_true rfl, Nat.le_of_ble_eq_true rfl⟩) hS (fun r_34 G_35 H locs hpo hW hS => ?_)
        have hX_38 : P_tKind G_25 r_34 G_35 := hpo
        obtain ⟨hB_G_35, hq_36, f_39, -⟩ := hpo
        have hF := hF.call9 hq_36 rfl rfl
        refine S_putI (ty := .int) (C := RX9) (T := TX9) (N := 9) hx hb hg iX9 tyX9 tyX9_ok nmX9 hown hK hW hS kd_3 rfl 3 (lt_b rfl) (hg (Cond.fieldLink RX9 38 "SlabWalk$Tokens" "kind" "I") m262) (fun _ h9 => h9) rfl (by decide +kernel) rfl rfl rfl dX9_cutWord_91 (fun G_40 H locs eG_40 hW hS => ?_)
        have hB_G_40 : Bd G_40 := hB_G_35.put (lo := (-2147483648)) (hi := 2147483647) eG_40 rfl rfl rfl (tI_rng _).1 (tI_rng _).2 (hB_G_35.2.put eG_40 rfl)
        have hF := hF.put eG_40 (Or.inr (by decide))
        exact W.vret hx hb hr (fun t ht _ => ⟨⟨G_40, rfl, (P_tCutWord_mk ⟨hB_G_40, hF, ⟨G_1, hB_G_1, (Fr.putl (rs := []) (fs := [(3, 6)]) Fr.rf eG_1 (Or.inr (by decide))), (gpl_eq eG_1), ⟨G_2, hX_6, hB_G_2, hq_3, (Or.inr ⟨c_12, ⟨r_24, G_25, hX_28, ⟨c_30, ⟨y_32, ty_32, (Or.inl ⟨c_33, ⟨r_34, G_35, hX_38, ⟨(Fr.put (rs := []) (fs := [(3, 3)]) Fr.rf eG_40 (Or.inr (by decide))), (gp_eq eG_40)⟩⟩⟩)⟩⟩⟩⟩)⟩⟩⟩), wd_t ht hW⟩, hS.F ht⟩) hS.2.2 dX9_cutWord_94
      · have c_33 : 8 < y_32.toInt := xI_nle rfl rfl c_33
        refine lv_sipush (v := 202) hx hb dX9_cutWord_81 (by decide) ?_
        refine lv_goto (tgt := 91) hx hb dX9_cutWord_84 rfl ?_
        refine S_putI (ty := .int) (C := RX9) (T := TX9) (N := 9) hx hb hg iX9 tyX9 tyX9_ok nmX9 hown hK hW hS kd_3 rfl 3 (lt_b rfl) (hg (Cond.fieldLink RX9 38 "SlabWalk$Tokens" "kind" "I") m262) (fun _ h9 => h9) rfl (by decide +kernel) rfl rfl rfl dX9_cutWord_91 (fun G_41 H locs eG_41 hW hS => ?_)
        have hB_G_41 : Bd G_41 := hB_G_25.put (lo := (-2147483648)) (hi := 2147483647) eG_41 rfl rfl rfl (tI_rng _).1 (tI_rng _).2 (hB_G_25.2.put eG_41 rfl)
        have hF := hF.put eG_41 (Or.inr (by decide))
        exact W.vret hx hb hr (fun t ht _ => ⟨⟨G_41, rfl, (P_tCutWord_mk ⟨hB_G_41, hF, ⟨G_1, hB_G_1, (Fr.putl (rs := []) (fs := [(3, 6)]) Fr.rf eG_1 (Or.inr (by decide))), (gpl_eq eG_1), ⟨G_2, hX_6, hB_G_2, hq_3, (Or.inr ⟨c_12, ⟨r_24, G_25, hX_28, ⟨c_30, ⟨y_32, ty_32, (Or.inr ⟨c_33, ⟨(Fr.put (rs := []) (fs := [(3, 3)]) Fr.rf eG_41 (Or.inr (by decide))), (gp_eq eG_41)⟩⟩)⟩⟩⟩⟩)⟩⟩⟩), wd_t ht hW⟩, hS.F ht⟩) hS.2.2 dX9_cutWord_94
    · have c_30 : r_24.toInt ≠ 0 := xI_ne rfl rfl c_30
      refine lv_aload_n hx hb dX9_cutWord_27 rfl (lv_at hl 0 rfl) ?_
      refine lv_aload_n hx hb dX9_cutWord_28 rfl (lv_at hl 0 rfl) ?_
      obtain ⟨y_42, ey_42⟩ : ∃ q, G_25.2.1 3 6 = q := ⟨_, rfl⟩
      refine S_getL (v := y_42) (C := RX9) (T := TX9) (N := 9) hx hb hg iX9 hown hK hW kd_3 rfl 6 (lt_b rfl) (hg (Cond.fieldLink RX9 68 "SlabWalk$Tokens" "word" "J") m269) (fun _ h9 => h9) rfl ey_42 dX9_cutWord_29 ?_
      refine ic_5 hx hb dX9_cutWord_32 ?_
      refine lv_lshl hx hb dX9_cutWord_33 rfl ?_
      refine lv_topl (fun y_43 ey_43 => ?_)
      refine lv_aload_n hx hb dX9_cutWord_34 rfl (lv_at hl 0 rfl) ?_
      refine S_getR (n := 32) (C := RX9) (T := TX9) (N := 9) hx hb hg iX9 hown hK hW kd_3 rfl 0 (lt_b rfl) (hg (Cond.fieldLink RX9 15 "SlabWalk$Tokens" "text" "[B") m258) (fun _ h9 => h9) rfl dX9_cutWord_35 ?_
      refine lv_aload_n hx hb dX9_cutWord_38 rfl (lv_at hl 0 rfl) ?_
      refine S_getI (v := (G_2.1 3 2)) (C := RX9) (T := TX9) (N := 9) hx hb hg iX9 hown hK hW kd_3 rfl 2 (lt_b rfl) (hg (Cond.fieldLink RX9 28 "SlabWalk$Tokens" "at" "I") m260) (fun _ h9 => h9) rfl ((hq_26.i9 3 2 rfl rfl).trans (rfl)) dX9_cutWord_39 ?_
      refine S_bald hx hb hK hW kd_32 (vin ((by first | (clear b_7 g_8 hn_9 f_29 c_30; omega) | omega)) ((by first | (clear b_7 g_8 hn_9 f_29 c_30; omega) | omega))) dX9_cutWord_42 (fun y_44 ey_44 => ?_)
      have ty_44 : (-128) ≤ y_44.toInt ∧ y_44.toInt ≤ 127 := bv_32 hB_G_25 ey_44
      refine lv_bipush (v := 97) hx hb dX9_cutWord_43 (by decide) ?_
      refine lv_isub hx hb dX9_cutWord_45 ?_
      refine lv_topi (fun y_45 ey_45 => ?_)
      have ty_45 : y_45.toInt = y_44.toInt - 97 := xI_sub rfl rfl ey_45 ((by first | (clear b_7 g_8 hn_9 b_10 b_11 c_12 f_29 c_30; omega) | omega)) ((by first | (clear b_7 g_8 hn_9 b_10 b_11 c_12 f_29 c_30; omega) | omega))
      refine ic_1 hx hb dX9_cutWord_46 ?_
      refine lv_iadd hx hb dX9_cutWord_47 ?_
      refine lv_topi (fun y_46 ey_46 => ?_)
      have ty_46 : y_46.toInt = y_45.toInt + 1 := xI_add rfl rfl ey_46 ((by first | (clear b_7 g_8 hn_9 b_10 b_11 c_12 f_29 c_30; omega) | omega)) ((by first | (clear b_7 g_8 hn_9 b_10 b_11 c_12 f_29 c_30; omega) | omega))
      refine lv_i2l hx hb dX9_cutWord_48 rfl ?_
      refine lv_topl (fun y_47 ey_47 => ?_)
      refine lv_lor hx hb dX9_cutWord_49 ?_
      refine lv_topl (fun y_48 ey_48 => ?_)
      refine S_putL (C := RX9) (T := TX9) (N := 9) hx hb hg iX9 tyX9 tyX9_ok nmX9 hown hK hW hS kd_3 rfl 6 (lt_b rfl) (hg (Cond.fieldLink RX9 68 "SlabWalk$Tokens" "word" "J") m269) (fun _ h9 => h9) rfl (by decide +kernel) rfl dX9_cutWord_50 (fun G_49 H locs eG_49 hW hS => ?_)
      have hB_G_49 : Bd G_49 := hB_G_25.putl eG_49
      have hF := hF.putl eG_49 (Or.inr (by decide))
      refine lv_aload_n hx hb dX9_cutWord_53 rfl (lv_at hl 0 rfl) ?_
      refine lv_dup hx hb dX9_cutWord_54 rfl ?_
      refine S_getI (v := (G_2.1 3 2)) (C := RX9) (T := TX9) (N := 9) hx hb hg iX9 hown hK hW kd_3 rfl 2 (lt_b rfl) (hg (Cond.fieldLink RX9 28 "SlabWalk$Tokens" "at" "I") m260) (fun _ h9 => h9) rfl ((congrFun (congrFun (gp_l eG_49).1 3) 2).trans ((hq_26.i9 3 2 rfl rfl).trans (rfl))) dX9_cutWord_55 ?_
      refine ic_1 hx hb dX9_cutWord_58 ?_
      refine lv_iadd hx hb dX9_cutWord_59 ?_
      refine lv_topi (fun y_50 ey_50 => ?_)
      have ty_50 : y_50.toInt = (G_2.1 3 2).toInt + 1 := xI_add rfl rfl ey_50 ((by first | (clear b_7 g_8 hn_9 f_29 c_30 ty_44 ty_45 ty_46; omega) | omega)) ((by first | (clear b_7 g_8 hn_9 f_29 c_30 ty_44 ty_45 ty_46; omega) | omega))
      refine S_putI (ty := .int) (C := RX9) (T := TX9) (N := 9) hx hb hg iX9 tyX9 tyX9_ok nmX9 hown hK hW hS kd_3 rfl 2 (lt_b rfl) (hg (Cond.fieldLink RX9 28 "SlabWalk$Tokens" "at" "I") m260) (fun _ h9 => h9) rfl (by decide +kernel) rfl rfl rfl dX9_cutWord_60 (fun G_51 H locs eG_51 hW hS => ?_)
      have hB_G_51 : Bd G_51 := hB_G_49.put (V := y_50.toInt) (lo := 0) (hi := 1600) eG_51 rfl rfl rfl ((by first | (clear b_7 g_8 hn_9 f_29 c_30 ty_44 ty_45 ty_46; omega) | omega)) ((by first | (clear b_7 g_8 hn_9 f_29 c_30 ty_44 ty_45 ty_46; omega) | omega)) (hB_G_49.2.put eG_51 rfl)
      have hF := hF.put eG_51 (Or.inr (by decide))
      refine lv_goto (tgt := 5) hx hb dX9_cutWord_63 rfl ?_
      have g_52 : (G_51.1 3 2).toInt = y_50.toInt := (congrArg Int32.toInt (show G_51.1 3 2 = y_50 from (gp_eq eG_51)))
      exact ih_4 (1600 - (G_51.1 3 2).toInt : Int).toNat ((by first | (clear b_7 g_8 f_29 c_30 ty_44 ty_45 ty_46; omega) | omega)) _ _ _ ⟨G_51, (Int.toNat_of_nonneg ((by first | (clear b_7 g_8 hn_9 f_29 c_30 ty_44 ty_45 ty_46; omega) | omega))), (hX_6.st (St_k_tCutWord_1_mk ⟨G_2, G_51, rfl, rfl, hB_G_2, ⟨c_12, ⟨r_24, G_25, hX_28, ⟨c_30, ⟨y_42, ey_42.symm.trans ((hq_26.l9 3 6 rfl rfl)), ⟨y_43, ey_43, ⟨y_44, ey_44, ⟨y_45, ty_45, ⟨y_46, ty_46, ⟨y_47, ey_47, ⟨y_48, ey_48, ⟨y_50, ty_50, ⟨(Fr.put (rs := []) (fs := [(3, 2), (3, 6)]) (Fr.putl (rs := []) (fs := [(3, 2), (3, 6)]) Fr.rf eG_49 (Or.inr (by decide))) eG_51 (Or.inr (by decide))), (gp_eq eG_51), ((congrFun (congrFun (congrArg (fun q => q.2.1) eG_51) 3) 6).trans (gpl_eq eG_49))⟩⟩⟩⟩⟩⟩⟩⟩⟩⟩⟩⟩⟩)), hW, hB_G_51, hF, (Fr.put (rs := []) (fs := [(3, 2), (3, 6)]) (Fr.putl (rs := []) (fs := [(3, 2), (3, 6)]) (Fr.call9 (rs := []) (fs := [(3, 2), (3, 6)]) (Fr.call9 (rs := []) (fs := [(3, 2), (3, 6)]) Fr.rf hq_3 rfl rfl) hq_26 rfl rfl) eG_49 (Or.inr (by decide))) eG_51 (Or.inr (by decide))), hS, lv_sub hl [0] rfl⟩

set_option maxHeartbeats 4000000 in
set_option maxRecDepth 100000 in
theorem k_tAdvance (l : Launch) (D : va_G) (k : KT) (A : Nat → Prop) (a : Nat → Nat) (z : SK) (G : GS)   : Met l yX9_advance (WS yX9_advance cX9_advance 2 (some .boolean)) ({ frames := 6, cells := 0, slots := 0, locals := 127 }) (va_Pc [.ref (a 3)] (cW D k A a z G)) (va_Qi (fun (r : Int32) (G1 : GS) => P_tAdvance G r G1) (fun (G1 : GS) t => Wd D k A a G1 t.heap) A) 0 0 A := by
  refine Met.ofW (cc := cX9_advance) (maxL := 2) (ret := (some .boolean)) (by decide) rfl ?_
  intro p e s m args below meth c s₁ B hml hv
  obtain ⟨rfl, hW, hB_G, hK, hZ⟩ := hv
  have hx := B.exec
  have hb := B.bytes
  have hr := B.returns
  have hts := atoms_spec (ws := WS yX9_advance cX9_advance 2 (some .boolean)) B.pre
  have hgd : ∀ w ∈ gd, w ∈ WS yX9_advance cX9_advance 2 (some .boolean) := fun w h => List.mem_cons_of_mem _ h
  have hg : ∀ w ∈ gd, w.before _ s = true := fun w h => hts w (hgd w h)
  have hown : s.vm.findClass RX9 = some m.cls := findClass_of_methodNamed B.named
  have hS : va_S A s.heap s.heap [] := va_S.rf
  have hF : Fr [] [(3, 2), (3, 3), (3, 4), (3, 5), (3, 6)] G G := Fr.rf
  have hl := lv_entry ([.ref (a 3)]) (n := 2) (Nat.le_of_ble_eq_true rfl)
  rw [lg_entry_eq]
  generalize (lg_sl ([.ref (a 3)]) ++ List.replicate (2 - (lg_sl ([.ref (a 3)])).length) Slot.unset).toArray = ls at hl ⊢
  have hl : lv_has ls 2 [(0, .ref (a 3))] := hl
  have b_6 : 0 ≤ (G.1 3 2).toInt ∧ (G.1 3 2).toInt ≤ 1600 := bd_3_2 hB_G
  refine loop_N (Inv := fun n H locs ls => ∃ (G_1 : GS), (n : Int) = 1600 - (G_1.1 3 2).toInt ∧ Rc (St_k_tAdvance_1 G) G G_1 ∧ Wd D k A a G_1 H ∧ Bd G_1 ∧ Fr [] [(3, 2), (3, 3), (3, 4), (3, 5), (3, 6)] G G_1 ∧ Fr [] [(3, 2)] G G_1 ∧ va_S A s.heap H locs ∧ lv_has ls 2 [(0, .ref (a 3))]) (fun n_4 H locs ls ih_3 hI => ?_) (1600 - (G.1 3 2).toInt : Int).toNat ⟨G, (Int.toNat_of_nonneg (by omega)), Rc.rf, hW, hB_G, hF, Fr.rf, hS, lv_sub hl [0] rfl⟩
  obtain ⟨G_1, hn_7, hX_5, hW, hB_G_1, hF, hq_2, hS, hl⟩ := hI
  refine lv_aload_n hx hb dX9_advance_0 rfl (lv_at hl 0 rfl) ?_
  have b_8 : 0 ≤ (G_1.1 3 2).toInt ∧ (G_1.1 3 2).toInt ≤ 1600 := bd_3_2 hB_G_1
  refine S_getI (v := (G_1.1 3 2)) (C := RX9) (T := TX9) (N := 9) hx hb hg iX9 hown hK hW kd_3 rfl 2 (lt_b rfl) (hg (Cond.fieldLink RX9 28 "SlabWalk$Tokens" "at" "I") m260) (fun _ h9 => h9) rfl rfl dX9_advance_1 ?_
  refine lv_aload_n hx hb dX9_advance_4 rfl (lv_at hl 0 rfl) ?_
  have b_9 : 0 ≤ (G.1 3 1).toInt ∧ (G.1 3 1).toInt ≤ 1600 := bd_3_1 hB_G
  refine S_getI (v := (G.1 3 1)) (C := RX9) (T := TX9) (N := 9) hx hb hg iX9 hown hK hW kd_3 rfl 1 (lt_b rfl) (hg (Cond.fieldLink RX9 25 "SlabWalk$Tokens" "size" "I") m259) (fun _ h9 => h9) rfl (hq_2.i9 3 1 rfl rfl) dX9_advance_5 ?_
  refine W.cut (σ := Unit) (pcJ := 52) (J := fun y H locs ls => ∃ (G_11 : GS), Jn_k_tAdvance_2 G G_1 G_11 ∧ Wd D k A a G_11 H ∧ Bd G_11 ∧ Fr [] [(3, 2), (3, 3), (3, 4), (3, 5), (3, 6)] G G_11 ∧ Fr [] [] G_1 G_11 ∧ va_S A s.heap H locs ∧ lv_has ls 2 [(0, .ref (a 3))]) (stJ := fun _ => []) ?_ (fun hJ_12 => ?_)
  · intro y H locs ls hI
    obtain ⟨G_11, hX_14, hW, hB_G_11, hF, hq_13, hS, hl⟩ := hI
    refine lv_aload_n hx hb dX9_advance_52 rfl (lv_at hl 0 rfl) ?_
    refine lv_aload_n hx hb dX9_advance_53 rfl (lv_at hl 0 rfl) ?_
    refine S_getI (v := (G_1.1 3 2)) (C := RX9) (T := TX9) (N := 9) hx hb hg iX9 hown hK hW kd_3 rfl 2 (lt_b rfl) (hg (Cond.fieldLink RX9 28 "SlabWalk$Tokens" "at" "I") m260) (fun _ h9 => h9) rfl ((hq_13.i9 3 2 rfl rfl).trans (rfl)) dX9_advance_54 ?_
    refine S_putI (ty := .int) (C := RX9) (T := TX9) (N := 9) hx hb hg iX9 tyX9 tyX9_ok nmX9 hown hK hW hS kd_3 rfl 4 (lt_b rfl) (hg (Cond.fieldLink RX9 41 "SlabWalk$Tokens" "place" "I") m264) (fun _ h9 => h9) rfl (by decide +kernel) rfl rfl rfl dX9_advance_57 (fun G_15 H locs eG_15 hW hS => ?_)
    have hB_G_15 : Bd G_15 := hB_G_11.put (V := (G_1.1 3 2).toInt) (lo := 0) (hi := 1600) eG_15 rfl rfl rfl ((by first | (clear b_6 hn_7 b_9; omega) | omega)) ((by first | (clear b_6 hn_7 b_9; omega) | omega)) (hB_G_11.2.put eG_15 rfl)
    have hF := hF.put eG_15 (Or.inr (by decide))
    refine lv_aload_n hx hb dX9_advance_60 rfl (lv_at hl 0 rfl) ?_
    refine S_getI (v := (G_1.1 3 2)) (C := RX9) (T := TX9) (N := 9) hx hb hg iX9 hown hK hW kd_3 rfl 2 (lt_b rfl) (hg (Cond.fieldLink RX9 28 "SlabWalk$Tokens" "at" "I") m260) (fun _ h9 => h9) rfl ((gp_ne eG_15 (by decide)).trans ((hq_13.i9 3 2 rfl rfl).trans (rfl))) dX9_advance_61 ?_
    refine lv_aload_n hx hb dX9_advance_64 rfl (lv_at hl 0 rfl) ?_
    refine S_getI (v := (G.1 3 1)) (C := RX9) (T := TX9) (N := 9) hx hb hg iX9 hown hK hW kd_3 rfl 1 (lt_b rfl) (hg (Cond.fieldLink RX9 25 "SlabWalk$Tokens" "size" "I") m259) (fun _ h9 => h9) rfl ((gp_ne eG_15 (by decide)).trans ((hq_13.i9 3 1 rfl rfl).trans ((hq_2.i9 3 1 rfl rfl).trans (rfl)))) dX9_advance_65 ?_
    refine lv_icmp_lt (tgt := 81) hx hb dX9_advance_68 rfl (fun c_16 => ?_) (fun c_16 => ?_)
    · have c_16 : (G_1.1 3 2).toInt < (G.1 3 1).toInt := xI_lt rfl rfl c_16
      refine lv_aload_n hx hb dX9_advance_81 rfl (lv_at hl 0 rfl) ?_
      refine lv_aload_n hx hb dX9_advance_82 rfl (lv_at hl 0 rfl) ?_
      refine S_getI (v := (G_1.1 3 2)) (C := RX9) (T := TX9) (N := 9) hx hb hg iX9 hown hK hW kd_3 rfl 2 (lt_b rfl) (hg (Cond.fieldLink RX9 28 "SlabWalk$Tokens" "at" "I") m260) (fun _ h9 => h9) rfl ((gp_ne eG_15 (by decide)).trans ((hq_13.i9 3 2 rfl rfl).trans (rfl))) dX9_advance_83 ?_
      refine S_calli (va_runV (As := [.int (G_1.1 3 2)]) (rest := []) ⟨hx, hb, hml, hown, hts⟩ (k_tLetter l D k A a z G_15 (G_1.1 3 2) (by omega)) (cwV 1 hts (gd_V hgd m642 m644 m3 m120 m645) rfl rfl rfl hd_X9_isLetter ⟨Nat.le_of_ble_eq_true rfl, Nat.le_of_ble_eq_true rfl⟩) (pre_W hW hB_G_15 hK hZ hS kd_3 rfl) rfl rfl hl.1 rfl (lv_room (Nat.le_of_ble_eq_true rfl)) dX9_advance_86 ⟨Nat.le_of_ble_eq_true rfl, Nat.le_of_ble_eq_true rfl⟩) hS (fun r_17 G_18 H locs hpo hW hS => ?_)
      have hX_21 : P_tLetter (G_1.1 3 2) G_15 r_17 G_18 := hpo
      obtain ⟨hB_G_18, hq_19, f_22, -⟩ := hpo
      have hF := hF.call9 hq_19 rfl rfl
      refine lv_if_eq (tgt := 99) hx hb dX9_advance_89 rfl (fun c_23 => ?_) (fun c_23 => ?_)
      · have c_23 : r_17.toInt = 0 := xI_eq rfl rfl c_23
        refine lv_aload_n hx hb dX9_advance_99 rfl (lv_at hl 0 rfl) ?_
        refine lv_aload_n hx hb dX9_advance_100 rfl (lv_at hl 0 rfl) ?_
        refine S_getI (v := (G_1.1 3 2)) (C := RX9) (T := TX9) (N := 9) hx hb hg iX9 hown hK hW kd_3 rfl 2 (lt_b rfl) (hg (Cond.fieldLink RX9 28 "SlabWalk$Tokens" "at" "I") m260) (fun _ h9 => h9) rfl ((hq_19.i9 3 2 rfl rfl).trans ((gp_ne eG_15 (by decide)).trans ((hq_13.i9 3 2 rfl rfl).trans (rfl)))) dX9_advance_101 ?_
        refine S_calli (va_runV (As := [.int (G_1.1 3 2)]) (rest := []) ⟨hx, hb, hml, hown, hts⟩ (k_tDigit l D k A a z G_18 (G_1.1 3 2) ((by first | (clear b_6 hn_7 f_22 c_23; omega) | omega))) (cwV 1 hts (gd_V hgd m703 m705 m6 m120 m706) rfl rfl rfl hd_X9_isDigit ⟨Nat.le_of_ble_eq_true rfl, Nat.le_of_ble_eq_true rfl⟩) (pre_W hW hB_G_18 hK hZ hS kd_3 rfl) rfl rfl hl.1 rfl (lv_room (Nat.le_of_ble_eq_true rfl)) dX9_advance_104 ⟨Nat.le_of_ble_eq_true rfl, Nat.le_of_ble_eq_true rfl⟩) hS (fun r_24 G_25 H locs hpo hW hS => ?_)
        have hX_28 : P_tDigit (G_1.1 3 2) G_18 r_24 G_25 := hpo
        obtain ⟨hB_G_25, hq_26, f_29, -⟩ := hpo
        have hF := hF.call9 hq_26 rfl rfl
        refine lv_if_eq (tgt := 117) hx hb dX9_advance_107 rfl (fun c_30 => ?_) (fun c_30 => ?_)
        · have c_30 : r_24.toInt = 0 := xI_eq rfl rfl c_30
          refine lv_aload_n hx hb dX9_advance_117 rfl (lv_at hl 0 rfl) ?_
          refine S_getR (n := 32) (C := RX9) (T := TX9) (N := 9) hx hb hg iX9 hown hK hW kd_3 rfl 0 (lt_b rfl) (hg (Cond.fieldLink RX9 15 "SlabWalk$Tokens" "text" "[B") m258) (fun _ h9 => h9) rfl dX9_advance_118 ?_
          refine lv_aload_n hx hb dX9_advance_121 rfl (lv_at hl 0 rfl) ?_
          refine lv_dup hx hb dX9_advance_122 rfl ?_
          refine S_getI (v := (G_1.1 3 2)) (C := RX9) (T := TX9) (N := 9) hx hb hg iX9 hown hK hW kd_3 rfl 2 (lt_b rfl) (hg (Cond.fieldLink RX9 28 "SlabWalk$Tokens" "at" "I") m260) (fun _ h9 => h9) rfl ((hq_26.i9 3 2 rfl rfl).trans ((hq_19.i9 3 2 rfl rfl).trans ((gp_ne eG_15 (by decide)).trans ((hq_13.i9 3 2 rfl rfl).trans (rfl))))) dX9_advance_123 ?_
          refine lv_dup_x1 hx hb dX9_advance_126 rfl rfl ?_
          refine ic_1 hx hb dX9_advance_127 ?_
          refine lv_iadd hx hb dX9_advance_128 ?_
          refine lv_topi (fun y_31 ey_31 => ?_)
          have ty_31 : y_31.toInt = (G_1.1 3 2).toInt + 1 := xI_add rfl rfl ey_31 ((by first | (clear b_6 hn_7 f_22 c_23 f_29 c_30; omega) | omega)) ((by first | (clear b_6 hn_7 f_22 c_23 f_29 c_30; omega) | omega))
          refine S_putI (ty := .int) (C := RX9) (T := TX9) (N := 9) hx hb hg iX9 tyX9 tyX9_ok nmX9 hown hK hW hS kd_3 rfl 2 (lt_b rfl) (hg (Cond.fieldLink RX9 28 "SlabWalk$Tokens" "at" "I") m260) (fun _ h9 => h9) rfl (by decide +kernel) rfl rfl rfl dX9_advance_129 (fun G_32 H locs eG_32 hW hS => ?_)
          have hB_G_32 : Bd G_32 := hB_G_25.put (V := y_31.toInt) (lo := 0) (hi := 1600) eG_32 rfl rfl rfl ((by first | (clear b_6 hn_7 f_22 c_23 f_29 c_30; omega) | omega)) ((by first | (clear b_6 hn_7 f_22 c_23 f_29 c_30; omega) | omega)) (hB_G_25.2.put eG_32 rfl)
          have hF := hF.put eG_32 (Or.inr (by decide))
          refine S_bald hx hb hK hW kd_32 (vin ((by first | (clear b_6 hn_7 f_22 c_23 f_29 c_30; omega) | omega)) ((by first | (clear b_6 hn_7 f_22 c_23 f_29 c_30; omega) | omega))) dX9_advance_132 (fun y_33 ey_33 => ?_)
          have ty_33 : (-128) ≤ y_33.toInt ∧ y_33.toInt ≤ 127 := bv_32 hB_G_32 ey_33
          refine lv_sipush (v := 255) hx hb dX9_advance_133 (by decide) ?_
          refine lv_iand hx hb dX9_advance_136 ?_
          refine lv_topi (fun y_34 ey_34 => ?_)
          have ty_34 := xI_and (Y := 255) rfl ey_34 (by decide)
          refine lv_istore_n (lv' := [(1, .int y_34), (0, .ref (a 3))]) hx hb dX9_advance_137 rfl hl (lt_b rfl) rfl (fun ls hl => ?_)
          refine lv_aload_n hx hb dX9_advance_138 rfl (lv_at hl 1 rfl) ?_
          refine va_ldcS hx hb hown hZ.2.2.1 dX9_advance_139 ?_
          refine lv_iload_n hx hb dX9_advance_141 rfl (lv_at hl 0 rfl) ?_
          refine lv_i2c hx hb dX9_advance_142 rfl ?_
          refine lv_topi (fun y_35 ey_35 => ?_)
          refine S_calli (va_runV (As := [.int y_35]) (rest := [.ref (a 3)]) ⟨hx, hb, hml, hown, hts⟩ (k_jIdx_1 l D k A a z G_32 y_35 ) (cwV 1 hts (gd_V hgd m712 m713 m714 m133 m715) rfl rfl rfl hd_J0_indexOf_0f7a4 ⟨Nat.le_of_ble_eq_true rfl, Nat.le_of_ble_eq_true rfl⟩) (pre_VS hW hB_G_32 hK hZ hS 1 (by decide)) rfl rfl hl.1 rfl (lv_room (Nat.le_of_ble_eq_true rfl)) dX9_advance_143 ⟨Nat.le_of_ble_eq_true rfl, Nat.le_of_ble_eq_true rfl⟩) hS (fun r_36 G_37 H locs hpo hW hS => ?_)
          have hX_40 : P_jIdx_1 y_35 G_32 r_36 G_37 := hpo
          obtain ⟨hB_G_37, hq_38, -⟩ := hpo
          have hF := hF.call9 hq_38 rfl rfl
          refine lv_if_lt (tgt := 153) hx hb dX9_advance_146 rfl (fun c_41 => ?_) (fun c_41 => ?_)
          · have c_41 : r_36.toInt < 0 := xI_lt rfl rfl c_41
            refine lv_sipush (v := 202) hx hb dX9_advance_153 (by decide) ?_
            refine S_putI (ty := .int) (C := RX9) (T := TX9) (N := 9) hx hb hg iX9 tyX9 tyX9_ok nmX9 hown hK hW hS kd_3 rfl 3 (lt_b rfl) (hg (Cond.fieldLink RX9 38 "SlabWalk$Tokens" "kind" "I") m262) (fun _ h9 => h9) rfl (by decide +kernel) rfl rfl rfl dX9_advance_156 (fun G_42 H locs eG_42 hW hS => ?_)
            have hB_G_42 : Bd G_42 := hB_G_37.put (lo := (-2147483648)) (hi := 2147483647) eG_42 rfl rfl rfl (tI_rng _).1 (tI_rng _).2 (hB_G_37.2.put eG_42 rfl)
            have hF := hF.put eG_42 (Or.inr (by decide))
            refine ic_1 hx hb dX9_advance_159 ?_
            exact W.zret (v := 1) hx hb hr (by decide) (fun t ht _ => ⟨⟨1, G_42, rfl, (P_tAdvance_mk ⟨hB_G_42, hF, ⟨by decide, by decide⟩, ⟨G_1, hX_5, hB_G_1, hq_2, ⟨G_11, hX_14, hB_G_11, hq_13, (Or.inl ⟨c_16, ⟨G_15, hB_G_15, (Fr.put (rs := []) (fs := [(3, 4)]) Fr.rf eG_15 (Or.inr (by decide))), (gp_eq eG_15), ⟨r_17, G_18, hX_21, (Or.inl ⟨c_23, ⟨r_24, G_25, hX_28, (Or.inl ⟨c_30, ⟨y_31, ty_31, ⟨y_33, ey_33.trans (congrFun (rw_put eG_32 (by decide)) _), ⟨y_34, ey_34, ⟨y_35, ey_35, ⟨G_32, hB_G_32, (Fr.put (rs := []) (fs := [(3, 2)]) Fr.rf eG_32 (Or.inr (by decide))), (gp_eq eG_32), ⟨r_36, G_37, hX_40, (Or.inl ⟨c_41, ⟨rfl, (Fr.put (rs := []) (fs := [(3, 3)]) Fr.rf eG_42 (Or.inr (by decide))), (gp_eq eG_42)⟩⟩)⟩⟩⟩⟩⟩⟩⟩)⟩⟩)⟩⟩⟩)⟩⟩⟩), wd_t ht hW⟩, hS.F ht⟩) hS.2.2 dX9_advance_160
          · have c_41 : 0 ≤ r_36.toInt := xI_nlt rfl rfl c_41
            refine lv_iload_n hx hb dX9_advance_149 rfl (lv_at hl 0 rfl) ?_
            refine lv_goto (tgt := 156) hx hb dX9_advance_150 rfl ?_
            refine S_putI (ty := .int) (C := RX9) (T := TX9) (N := 9) hx hb hg iX9 tyX9 tyX9_ok nmX9 hown hK hW hS kd_3 rfl 3 (lt_b rfl) (hg (Cond.fieldLink RX9 38 "SlabWalk$Tokens" "kind" "I") m262) (fun _ h9 => h9) rfl (by decide +kernel) rfl rfl rfl dX9_advance_156 (fun G_43 H locs eG_43 hW hS => ?_)
            have hB_G_43 : Bd G_43 := hB_G_37.put (lo := (-2147483648)) (hi := 2147483647) eG_43 rfl rfl rfl (tI_rng _).1 (tI_rng _).2 (hB_G_37.2.put eG_43 rfl)
            have hF := hF.put eG_43 (Or.inr (by decide))
            refine ic_1 hx hb dX9_advance_159 ?_
            exact W.zret (v := 1) hx hb hr (by decide) (fun t ht _ => ⟨⟨1, G_43, rfl, (P_tAdvance_mk ⟨hB_G_43, hF, ⟨by decide, by decide⟩, ⟨G_1, hX_5, hB_G_1, hq_2, ⟨G_11, hX_14, hB_G_11, hq_13, (Or.inl ⟨c_16, ⟨G_15, hB_G_15, (Fr.put (rs := []) (fs := [(3, 4)]) Fr.rf eG_15 (Or.inr (by decide))), (gp_eq eG_15), ⟨r_17, G_18, hX_21, (Or.inl ⟨c_23, ⟨r_24, G_25, hX_28, (Or.inl ⟨c_30, ⟨y_31, ty_31, ⟨y_33, ey_33.trans (congrFun (rw_put eG_32 (by decide)) _), ⟨y_34, ey_34, ⟨y_35, ey_35, ⟨G_32, hB_G_32, (Fr.put (rs := []) (fs := [(3, 2)]) Fr.rf eG_32 (Or.inr (by decide))), (gp_eq eG_32), ⟨r_36, G_37, hX_40, (Or.inr ⟨c_41, ⟨rfl, (Fr.put (rs := []) (fs := [(3, 3)]) Fr.rf eG_43 (Or.inr (by decide))), (gp_eq eG_43)⟩⟩)⟩⟩⟩⟩⟩⟩⟩)⟩⟩)⟩⟩⟩)⟩⟩⟩), wd_t ht hW⟩, hS.F ht⟩) hS.2.2 dX9_advance_160
        · have c_30 : r_24.toInt ≠ 0 := xI_ne rfl rfl c_30
          refine lv_aload_n hx hb dX9_advance_110 rfl (lv_at hl 0 rfl) ?_
          refine S_callv (va_runV (As := []) (rest := []) ⟨hx, hb, hml, hown, hts⟩ (k_tCutNumber l D k A a z G_25  ) (cwV 0 hts (gd_V hgd m707 m709 m7 m120 m710) rfl rfl rfl hd_X9_cutNumber ⟨Nat.le_of_ble_eq_true rfl, Nat.le_of_ble_eq_true rfl⟩) (pre_W hW hB_G_25 hK hZ hS kd_3 rfl) rfl rfl hl.1 rfl (lv_room (Nat.le_of_ble_eq_true rfl)) dX9_advance_111 ⟨Nat.le_of_ble_eq_true rfl, Nat.le_of_ble_eq_true rfl⟩) hS (fun G_45 H locs hpo hW hS => ?_)
          have hX_48 : P_tCutNumber G_25 G_45 := hpo
          obtain ⟨hB_G_45, hq_46, -⟩ := hpo
          have hF := hF.call9 hq_46 rfl rfl
          refine lv_goto (tgt := 159) hx hb dX9_advance_114 rfl ?_
          refine ic_1 hx hb dX9_advance_159 ?_
          exact W.zret (v := 1) hx hb hr (by decide) (fun t ht _ => ⟨⟨1, G_45, rfl, (P_tAdvance_mk ⟨hB_G_45, hF, ⟨by decide, by decide⟩, ⟨G_1, hX_5, hB_G_1, hq_2, ⟨G_11, hX_14, hB_G_11, hq_13, (Or.inl ⟨c_16, ⟨G_15, hB_G_15, (Fr.put (rs := []) (fs := [(3, 4)]) Fr.rf eG_15 (Or.inr (by decide))), (gp_eq eG_15), ⟨r_17, G_18, hX_21, (Or.inl ⟨c_23, ⟨r_24, G_25, hX_28, (Or.inr ⟨c_30, ⟨G_45, hX_48, ⟨rfl, rfl⟩⟩⟩)⟩⟩)⟩⟩⟩)⟩⟩⟩), wd_t ht hW⟩, hS.F ht⟩) hS.2.2 dX9_advance_160
      · have c_23 : r_17.toInt ≠ 0 := xI_ne rfl rfl c_23
        refine lv_aload_n hx hb dX9_advance_92 rfl (lv_at hl 0 rfl) ?_
        refine S_callv (va_runV (As := []) (rest := []) ⟨hx, hb, hml, hown, hts⟩ (k_tCutWord l D k A a z G_18  ) (cwV 0 hts (gd_V hgd m646 m648 m4 m120 m649) rfl rfl rfl hd_X9_cutWord ⟨Nat.le_of_ble_eq_true rfl, Nat.le_of_ble_eq_true rfl⟩) (pre_W hW hB_G_18 hK hZ hS kd_3 rfl) rfl rfl hl.1 rfl (lv_room (Nat.le_of_ble_eq_true rfl)) dX9_advance_93 ⟨Nat.le_of_ble_eq_true rfl, Nat.le_of_ble_eq_true rfl⟩) hS (fun G_50 H locs hpo hW hS => ?_)
        have hX_53 : P_tCutWord G_18 G_50 := hpo
        obtain ⟨hB_G_50, hq_51, -⟩ := hpo
        have hF := hF.call9 hq_51 rfl rfl
        refine lv_goto (tgt := 159) hx hb dX9_advance_96 rfl ?_
        refine ic_1 hx hb dX9_advance_159 ?_
        exact W.zret (v := 1) hx hb hr (by decide) (fun t ht _ => ⟨⟨1, G_50, rfl, (P_tAdvance_mk ⟨hB_G_50, hF, ⟨by decide, by decide⟩, ⟨G_1, hX_5, hB_G_1, hq_2, ⟨G_11, hX_14, hB_G_11, hq_13, (Or.inl ⟨c_16, ⟨G_15, hB_G_15, (Fr.put (rs := []) (fs := [(3, 4)]) Fr.rf eG_15 (Or.inr (by decide))), (gp_eq eG_15), ⟨r_17, G_18, hX_21, (Or.inr ⟨c_23, ⟨G_50, hX_53, ⟨rfl, rfl⟩⟩⟩)⟩⟩⟩)⟩⟩⟩), wd_t ht hW⟩, hS.F ht⟩) hS.2.2 dX9_advance_160
    · have c_16 : (G.1 3 1).toInt ≤ (G_1.1 3 2).toInt := xI_nlt rfl rfl c_16
      refine lv_aload_n hx hb dX9_advance_71 rfl (lv_at hl 0 rfl) ?_
      refine lv_sipush (v := 203) hx hb dX9_advance_72 (by decide) ?_
      refine S_putI (ty := .int) (C := RX9) (T := TX9) (N := 9) hx hb hg iX9 tyX9 tyX9_ok nmX9 hown hK hW hS kd_3 rfl 3 (lt_b rfl) (hg (Cond.fieldLink RX9 38 "SlabWalk$Tokens" "kind" "I") m262) (fun _ h9 => h9) rfl (by decide +kernel) rfl rfl rfl dX9_advance_75 (fun G_54 H locs eG_54 hW hS => ?_)
      have hB_G_54 : Bd G_54 := hB_G_15.put (lo := (-2147483648)) (hi := 2147483647) eG_54 rfl rfl rfl (tI_rng _).1 (tI_rng _).2 (hB_G_15.2.put eG_54 rfl)
      have hF := hF.put eG_54 (Or.inr (by decide))
      refine lv_goto (tgt := 159) hx hb dX9_advance_78 rfl ?_
      refine ic_1 hx hb dX9_advance_159 ?_
      exact W.zret (v := 1) hx hb hr (by decide) (fun t ht _ => ⟨⟨1, G_54, rfl, (P_tAdvance_mk ⟨hB_G_54, hF, ⟨by decide, by decide⟩, ⟨G_1, hX_5, hB_G_1, hq_2, ⟨G_11, hX_14, hB_G_11, hq_13, (Or.inr ⟨c_16, ⟨rfl, (Fr.put (rs := []) (fs := [(3, 3), (3, 4)]) (Fr.put (rs := []) (fs := [(3, 3), (3, 4)]) Fr.rf eG_15 (Or.inr (by decide))) eG_54 (Or.inr (by decide))), (gp_eq eG_54), ((gp_ne eG_54 (by decide)).trans (gp_eq eG_15))⟩⟩)⟩⟩⟩), wd_t ht hW⟩, hS.F ht⟩) hS.2.2 dX9_advance_160
  refine lv_icmp_ge (tgt := 52) hx hb dX9_advance_8 rfl (fun c_55 => ?_) (fun c_55 => ?_)
  · have c_55 : (G.1 3 1).toInt ≤ (G_1.1 3 2).toInt := xI_le rfl rfl c_55
    exact hJ_12 () _ _ _ ⟨G_1, (Jn_k_tAdvance_2_mk (Or.inl ⟨c_55, rfl⟩)), hW, hB_G_1, hF, (Fr.rf (rs := []) (fs := [])), hS, lv_sub hl [0] rfl⟩
  · have c_55 : (G_1.1 3 2).toInt < (G.1 3 1).toInt := xI_nle rfl rfl c_55
    refine lv_aload_n hx hb dX9_advance_11 rfl (lv_at hl 0 rfl) ?_
    refine S_getR (n := 32) (C := RX9) (T := TX9) (N := 9) hx hb hg iX9 hown hK hW kd_3 rfl 0 (lt_b rfl) (hg (Cond.fieldLink RX9 15 "SlabWalk$Tokens" "text" "[B") m258) (fun _ h9 => h9) rfl dX9_advance_12 ?_
    refine lv_aload_n hx hb dX9_advance_15 rfl (lv_at hl 0 rfl) ?_
    refine S_getI (v := (G_1.1 3 2)) (C := RX9) (T := TX9) (N := 9) hx hb hg iX9 hown hK hW kd_3 rfl 2 (lt_b rfl) (hg (Cond.fieldLink RX9 28 "SlabWalk$Tokens" "at" "I") m260) (fun _ h9 => h9) rfl rfl dX9_advance_16 ?_
    refine S_bald hx hb hK hW kd_32 (vin (by omega) (by omega)) dX9_advance_19 (fun y_56 ey_56 => ?_)
    have ty_56 : (-128) ≤ y_56.toInt ∧ y_56.toInt ≤ 127 := bv_32 hB_G_1 ey_56
    refine lv_bipush (v := 32) hx hb dX9_advance_20 (by decide) ?_
    refine lv_icmp_eq (tgt := 39) hx hb dX9_advance_22 rfl (fun c_57 => ?_) (fun c_57 => ?_)
    · have c_57 : y_56.toInt = 32 := xI_eq rfl rfl c_57
      refine lv_aload_n hx hb dX9_advance_39 rfl (lv_at hl 0 rfl) ?_
      refine lv_dup hx hb dX9_advance_40 rfl ?_
      refine S_getI (v := (G_1.1 3 2)) (C := RX9) (T := TX9) (N := 9) hx hb hg iX9 hown hK hW kd_3 rfl 2 (lt_b rfl) (hg (Cond.fieldLink RX9 28 "SlabWalk$Tokens" "at" "I") m260) (fun _ h9 => h9) rfl rfl dX9_advance_41 ?_
      refine ic_1 hx hb dX9_advance_44 ?_
      refine lv_iadd hx hb dX9_advance_45 ?_
      refine lv_topi (fun y_58 ey_58 => ?_)
      have ty_58 : y_58.toInt = (G_1.1 3 2).toInt + 1 := xI_add rfl rfl ey_58 ((by first | (clear b_6 hn_7 ty_56 c_57; omega) | omega)) ((by first | (clear b_6 hn_7 ty_56 c_57; omega) | omega))
      refine S_putI (ty := .int) (C := RX9) (T := TX9) (N := 9) hx hb hg iX9 tyX9 tyX9_ok nmX9 hown hK hW hS kd_3 rfl 2 (lt_b rfl) (hg (Cond.fieldLink RX9 28 "SlabWalk$Tokens" "at" "I") m260) (fun _ h9 => h9) rfl (by decide +kernel) rfl rfl rfl dX9_advance_46 (fun G_59 H locs eG_59 hW hS => ?_)
      have hB_G_59 : Bd G_59 := hB_G_1.put (V := y_58.toInt) (lo := 0) (hi := 1600) eG_59 rfl rfl rfl ((by first | (clear b_6 hn_7 ty_56 c_57; omega) | omega)) ((by first | (clear b_6 hn_7 ty_56 c_57; omega) | omega)) (hB_G_1.2.put eG_59 rfl)
      have hF := hF.put eG_59 (Or.inr (by decide))
      refine lv_goto (tgt := 0) hx hb dX9_advance_49 rfl ?_
      have g_60 : (G_59.1 3 2).toInt = y_58.toInt := (congrArg Int32.toInt (show G_59.1 3 2 = y_58 from (gp_eq eG_59)))
      exact ih_3 (1600 - (G_59.1 3 2).toInt : Int).toNat ((by first | (clear b_6 ty_56 c_57; omega) | omega)) _ _ _ ⟨G_59, (Int.toNat_of_nonneg ((by first | (clear b_6 hn_7 ty_56 c_57; omega) | omega))), (hX_5.st (St_k_tAdvance_1_mk ⟨G_1, G_59, rfl, rfl, hB_G_1, ⟨c_55, ⟨y_56, ey_56, (Or.inl ⟨c_57, ⟨y_58, ty_58, ⟨(Fr.put (rs := []) (fs := [(3, 2)]) Fr.rf eG_59 (Or.inr (by decide))), (gp_eq eG_59)⟩⟩⟩)⟩⟩⟩)), hW, hB_G_59, hF, (Fr.put (rs := []) (fs := [(3, 2)]) (Fr.call9 (rs := []) (fs := [(3, 2)]) Fr.rf hq_2 rfl rfl) eG_59 (Or.inr (by decide))), hS, lv_sub hl [0] rfl⟩
    · have c_57 : y_56.toInt ≠ 32 := xI_ne rfl rfl c_57
      refine lv_aload_n hx hb dX9_advance_25 rfl (lv_at hl 0 rfl) ?_
      refine S_getR (n := 32) (C := RX9) (T := TX9) (N := 9) hx hb hg iX9 hown hK hW kd_3 rfl 0 (lt_b rfl) (hg (Cond.fieldLink RX9 15 "SlabWalk$Tokens" "text" "[B") m258) (fun _ h9 => h9) rfl dX9_advance_26 ?_
      refine lv_aload_n hx hb dX9_advance_29 rfl (lv_at hl 0 rfl) ?_
      refine S_getI (v := (G_1.1 3 2)) (C := RX9) (T := TX9) (N := 9) hx hb hg iX9 hown hK hW kd_3 rfl 2 (lt_b rfl) (hg (Cond.fieldLink RX9 28 "SlabWalk$Tokens" "at" "I") m260) (fun _ h9 => h9) rfl rfl dX9_advance_30 ?_
      refine S_bald hx hb hK hW kd_32 (vin ((by first | (clear b_6 hn_7 ty_56 c_57; omega) | omega)) ((by first | (clear b_6 hn_7 ty_56 c_57; omega) | omega))) dX9_advance_33 (fun y_61 ey_61 => ?_)
      have ty_61 : (-128) ≤ y_61.toInt ∧ y_61.toInt ≤ 127 := bv_32 hB_G_1 ey_61
      refine lv_bipush (v := 10) hx hb dX9_advance_34 (by decide) ?_
      refine lv_icmp_ne (tgt := 52) hx hb dX9_advance_36 rfl (fun c_62 => ?_) (fun c_62 => ?_)
      · have c_62 : y_61.toInt ≠ 10 := xI_ne rfl rfl c_62
        exact hJ_12 () _ _ _ ⟨G_1, (Jn_k_tAdvance_2_mk (Or.inr ⟨c_55, ⟨y_56, ey_56, ⟨c_57, ⟨y_61, ey_61, ⟨c_62, rfl⟩⟩⟩⟩⟩)), hW, hB_G_1, hF, (Fr.rf (rs := []) (fs := [])), hS, lv_sub hl [0] rfl⟩
      · have c_62 : y_61.toInt = 10 := xI_eq rfl rfl c_62
        refine lv_aload_n hx hb dX9_advance_39 rfl (lv_at hl 0 rfl) ?_
        refine lv_dup hx hb dX9_advance_40 rfl ?_
        refine S_getI (v := (G_1.1 3 2)) (C := RX9) (T := TX9) (N := 9) hx hb hg iX9 hown hK hW kd_3 rfl 2 (lt_b rfl) (hg (Cond.fieldLink RX9 28 "SlabWalk$Tokens" "at" "I") m260) (fun _ h9 => h9) rfl rfl dX9_advance_41 ?_
        refine ic_1 hx hb dX9_advance_44 ?_
        refine lv_iadd hx hb dX9_advance_45 ?_
        refine lv_topi (fun y_63 ey_63 => ?_)
        have ty_63 : y_63.toInt = (G_1.1 3 2).toInt + 1 := xI_add rfl rfl ey_63 ((by first | (clear b_6 hn_7 ty_56 c_57 ty_61 c_62; omega) | omega)) ((by first | (clear b_6 hn_7 ty_56 c_57 ty_61 c_62; omega) | omega))
        refine S_putI (ty := .int) (C := RX9) (T := TX9) (N := 9) hx hb hg iX9 tyX9 tyX9_ok nmX9 hown hK hW hS kd_3 rfl 2 (lt_b rfl) (hg (Cond.fieldLink RX9 28 "SlabWalk$Tokens" "at" "I") m260) (fun _ h9 => h9) rfl (by decide +kernel) rfl rfl rfl dX9_advance_46 (fun G_64 H locs eG_64 hW hS => ?_)
        have hB_G_64 : Bd G_64 := hB_G_1.put (V := y_63.toInt) (lo := 0) (hi := 1600) eG_64 rfl rfl rfl ((by first | (clear b_6 hn_7 ty_56 c_57 ty_61 c_62; omega) | omega)) ((by first | (clear b_6 hn_7 ty_56 c_57 ty_61 c_62; omega) | omega)) (hB_G_1.2.put eG_64 rfl)
        have hF := hF.put eG_64 (Or.inr (by decide))
        refine lv_goto (tgt := 0) hx hb dX9_advance_49 rfl ?_
        have g_65 : (G_64.1 3 2).toInt = y_63.toInt := (congrArg Int32.toInt (show G_64.1 3 2 = y_63 from (gp_eq eG_64)))
        exact ih_3 (1600 - (G_64.1 3 2).toInt : Int).toNat ((by first | (clear b_6 ty_56 c_57 ty_61 c_62; omega) | omega)) _ _ _ ⟨G_64, (Int.toNat_of_nonneg ((by first | (clear b_6 hn_7 ty_56 c_57 ty_61 c_62; omega) | omega))), (hX_5.st (St_k_tAdvance_1_mk ⟨G_1, G_64, rfl, rfl, hB_G_1, ⟨c_55, ⟨y_56, ey_56, (Or.inr ⟨c_57, ⟨y_61, ey_61, ⟨c_62, ⟨y_63, ty_63, ⟨(Fr.put (rs := []) (fs := [(3, 2)]) Fr.rf eG_64 (Or.inr (by decide))), (gp_eq eG_64)⟩⟩⟩⟩⟩)⟩⟩⟩)), hW, hB_G_64, hF, (Fr.put (rs := []) (fs := [(3, 2)]) (Fr.call9 (rs := []) (fs := [(3, 2)]) Fr.rf hq_2 rfl rfl) eG_64 (Or.inr (by decide))), hS, lv_sub hl [0] rfl⟩

set_option maxHeartbeats 4000000 in
set_option maxRecDepth 100000 in
theorem k_tPass (l : Launch) (D : va_G) (k : KT) (A : Nat → Prop) (a : Nat → Nat) (z : SK) (G : GS) (p0 : Int32)  : Met l yX9_pass (WS yX9_pass cX9_pass 2 (some .boolean)) ({ frames := 7, cells := 0, slots := 0, locals := 148 }) (va_Pc [.ref (a 3), .int p0] (cW D k A a z G)) (va_Qi (fun (r : Int32) (G1 : GS) => P_tPass p0 G r G1) (fun (G1 : GS) t => Wd D k A a G1 t.heap) A) 0 0 A := by
  refine Met.ofW (cc := cX9_pass) (maxL := 2) (ret := (some .boolean)) (by decide) rfl ?_
  intro p e s m args below meth c s₁ B hml hv
  obtain ⟨rfl, hW, hB_G, hK, hZ⟩ := hv
  have hx := B.exec
  have hb := B.bytes
  have hr := B.returns
  have hts := atoms_spec (ws := WS yX9_pass cX9_pass 2 (some .boolean)) B.pre
  have hgd : ∀ w ∈ gd, w ∈ WS yX9_pass cX9_pass 2 (some .boolean) := fun w h => List.mem_cons_of_mem _ h
  have hg : ∀ w ∈ gd, w.before _ s = true := fun w h => hts w (hgd w h)
  have hown : s.vm.findClass RX9 = some m.cls := findClass_of_methodNamed B.named
  have hS : va_S A s.heap s.heap [] := va_S.rf
  have hF : Fr [] [(3, 2), (3, 3), (3, 4), (3, 5), (3, 6), (3, 7), (3, 8)] G G := Fr.rf
  have hl := lv_entry ([.ref (a 3), .int p0]) (n := 2) (Nat.le_of_ble_eq_true rfl)
  rw [lg_entry_eq]
  generalize (lg_sl ([.ref (a 3), .int p0]) ++ List.replicate (2 - (lg_sl ([.ref (a 3), .int p0])).length) Slot.unset).toArray = ls at hl ⊢
  have hl : lv_has ls 2 [(0, .ref (a 3)), (1, .int p0)] := hl
  refine lv_aload_n hx hb dX9_pass_0 rfl (lv_at hl 0 rfl) ?_
  refine S_getI (v := (G.1 3 3)) (C := RX9) (T := TX9) (N := 9) hx hb hg iX9 hown hK hW kd_3 rfl 3 (lt_b rfl) (hg (Cond.fieldLink RX9 38 "SlabWalk$Tokens" "kind" "I") m262) (fun _ h9 => h9) rfl rfl dX9_pass_1 ?_
  refine lv_iload_n hx hb dX9_pass_4 rfl (lv_at hl 1 rfl) ?_
  refine lv_icmp_ne (tgt := 15) hx hb dX9_pass_5 rfl (fun c_1 => ?_) (fun c_1 => ?_)
  · have c_1 : (G.1 3 3).toInt ≠ p0.toInt := xI_ne rfl rfl c_1
    refine lv_aload_n hx hb dX9_pass_15 rfl (lv_at hl 0 rfl) ?_
    refine ic_2 hx hb dX9_pass_16 ?_
    refine S_calli (va_runV (As := [.int 2]) (rest := []) ⟨hx, hb, hml, hown, hts⟩ (k_tRefuse l D k A a z G 2 ⟨by decide, by decide⟩) (cwV 1 hts (gd_V hgd m790 m779 m780 m120 m781) rfl rfl rfl hd_X9_refuse ⟨Nat.le_of_ble_eq_true rfl, Nat.le_of_ble_eq_true rfl⟩) (pre_W hW hB_G hK hZ hS kd_3 rfl) rfl rfl hl.1 rfl (lv_room (Nat.le_of_ble_eq_true rfl)) dX9_pass_17 ⟨Nat.le_of_ble_eq_true rfl, Nat.le_of_ble_eq_true rfl⟩) hS (fun r_2 G_3 H locs hpo hW hS => ?_)
    have hX_6 : P_tRefuse 2 G r_2 G_3 := hpo
    obtain ⟨hB_G_3, hq_4, f_7, -⟩ := hpo
    have hF := hF.call9 hq_4 rfl rfl
    exact W.zret (v := r_2) hx hb hr (nar_z (by omega) (by omega)) (fun t ht _ => ⟨⟨r_2, G_3, rfl, (P_tPass_mk ⟨hB_G_3, hF, ⟨by omega, by omega⟩, (Or.inr ⟨c_1, ⟨r_2, G_3, hX_6, ⟨rfl, rfl⟩⟩⟩)⟩), wd_t ht hW⟩, hS.F ht⟩) hS.2.2 dX9_pass_20
  · have c_1 : (G.1 3 3).toInt = p0.toInt := xI_eq rfl rfl c_1
    refine lv_aload_n hx hb dX9_pass_8 rfl (lv_at hl 0 rfl) ?_
    refine S_calli (va_runV (As := []) (rest := []) ⟨hx, hb, hml, hown, hts⟩ (k_tAdvance l D k A a z G  ) (cwV 0 hts (gd_V hgd m638 m639 m640 m120 m641) rfl rfl rfl hd_X9_advance ⟨Nat.le_of_ble_eq_true rfl, Nat.le_of_ble_eq_true rfl⟩) (pre_W hW hB_G hK hZ hS kd_3 rfl) rfl rfl hl.1 rfl (lv_room (Nat.le_of_ble_eq_true rfl)) dX9_pass_9 ⟨Nat.le_of_ble_eq_true rfl, Nat.le_of_ble_eq_true rfl⟩) hS (fun r_8 G_9 H locs hpo hW hS => ?_)
    have hX_12 : P_tAdvance G r_8 G_9 := hpo
    obtain ⟨hB_G_9, hq_10, f_13, -⟩ := hpo
    have hF := hF.call9 hq_10 rfl rfl
    refine lv_goto (tgt := 20) hx hb dX9_pass_12 rfl ?_
    exact W.zret (v := r_8) hx hb hr (nar_z (by omega) (by omega)) (fun t ht _ => ⟨⟨r_8, G_9, rfl, (P_tPass_mk ⟨hB_G_9, hF, ⟨by omega, by omega⟩, (Or.inl ⟨c_1, ⟨r_8, G_9, hX_12, ⟨rfl, rfl⟩⟩⟩)⟩), wd_t ht hW⟩, hS.F ht⟩) hS.2.2 dX9_pass_20

set_option maxHeartbeats 4000000 in
set_option maxRecDepth 100000 in
theorem k_tOpen (l : Launch) (D : va_G) (k : KT) (A : Nat → Prop) (a : Nat → Nat) (z : SK) (G : GS) (p0 : Int32) (ha_p0 : 0 ≤ p0.toInt ∧ p0.toInt ≤ 1600) : Met l yX9_open (WS yX9_open cX9_open 2 none) ({ frames := 7, cells := 0, slots := 0, locals := 148 }) (va_Pc [.ref (a 3), .int p0] (cW D k A a z G)) (va_Qv (fun (G1 : GS) => P_tOpen p0 G G1) (fun (G1 : GS) t => Wd D k A a G1 t.heap) A) 0 0 A := by
  refine Met.ofW (cc := cX9_open) (maxL := 2) (ret := none) (by decide) rfl ?_
  intro p e s m args below meth c s₁ B hml hv
  obtain ⟨rfl, hW, hB_G, hK, hZ⟩ := hv
  have hx := B.exec
  have hb := B.bytes
  have hr := B.returns
  have hts := atoms_spec (ws := WS yX9_open cX9_open 2 none) B.pre
  have hgd : ∀ w ∈ gd, w ∈ WS yX9_open cX9_open 2 none := fun w h => List.mem_cons_of_mem _ h
  have hg : ∀ w ∈ gd, w.before _ s = true := fun w h => hts w (hgd w h)
  have hown : s.vm.findClass RX9 = some m.cls := findClass_of_methodNamed B.named
  have hS : va_S A s.heap s.heap [] := va_S.rf
  have hF : Fr [] [(3, 1), (3, 2), (3, 3), (3, 4), (3, 5), (3, 6), (3, 7), (3, 8)] G G := Fr.rf
  have hl := lv_entry ([.ref (a 3), .int p0]) (n := 2) (Nat.le_of_ble_eq_true rfl)
  rw [lg_entry_eq]
  generalize (lg_sl ([.ref (a 3), .int p0]) ++ List.replicate (2 - (lg_sl ([.ref (a 3), .int p0])).length) Slot.unset).toArray = ls at hl ⊢
  have hl : lv_has ls 2 [(0, .ref (a 3)), (1, .int p0)] := hl
  refine lv_aload_n hx hb dX9_open_0 rfl (lv_at hl 0 rfl) ?_
  refine lv_iload_n hx hb dX9_open_1 rfl (lv_at hl 1 rfl) ?_
  refine lv_aload_n hx hb dX9_open_2 rfl (lv_at hl 0 rfl) ?_
  refine S_getR (n := 32) (C := RX9) (T := TX9) (N := 9) hx hb hg iX9 hown hK hW kd_3 rfl 0 (lt_b rfl) (hg (Cond.fieldLink RX9 15 "SlabWalk$Tokens" "text" "[B") m258) (fun _ h9 => h9) rfl dX9_open_3 ?_
  refine S_alen (v := 1600) hx hb hK hW kd_32 0 rfl rfl dX9_open_6 ?_
  refine va_mmin hx hb (by rw [hml]; exact hl.1.symm) hown (hg (Cond.methodLink RX9 19 Lib.Math.min.name) m635) (hg (Cond.static Lib.Math.min.name) m636) (hg (Cond.initialized "java/lang/Math") m132) (hg (Cond.code Lib.Math.min.name Lib.Math.min.code 2 (some .int)) m637) (Nat.le_of_ble_eq_true rfl) (Nat.le_of_ble_eq_true rfl) (Nat.le_of_ble_eq_true rfl) (Nat.le_of_ble_eq_true rfl) dX9_open_7 ?_
  refine lv_topi (fun y_1 ey_1 => ?_)
  have ty_1 := xI_min (X := p0.toInt) (Y := 1600) rfl rfl ey_1
  refine S_putI (ty := .int) (C := RX9) (T := TX9) (N := 9) hx hb hg iX9 tyX9 tyX9_ok nmX9 hown hK hW hS kd_3 rfl 1 (lt_b rfl) (hg (Cond.fieldLink RX9 25 "SlabWalk$Tokens" "size" "I") m259) (fun _ h9 => h9) rfl (by decide +kernel) rfl rfl rfl dX9_open_10 (fun G_2 H locs eG_2 hW hS => ?_)
  have hB_G_2 : Bd G_2 := hB_G.put (V := y_1.toInt) (lo := 0) (hi := 1600) eG_2 rfl rfl rfl (by omega) (by omega) (hB_G.2.put eG_2 rfl)
  have hF := hF.put eG_2 (Or.inr (by decide))
  refine lv_aload_n hx hb dX9_open_13 rfl (lv_at hl 0 rfl) ?_
  refine ic_0 hx hb dX9_open_14 ?_
  refine S_putI (ty := .int) (C := RX9) (T := TX9) (N := 9) hx hb hg iX9 tyX9 tyX9_ok nmX9 hown hK hW hS kd_3 rfl 2 (lt_b rfl) (hg (Cond.fieldLink RX9 28 "SlabWalk$Tokens" "at" "I") m260) (fun _ h9 => h9) rfl (by decide +kernel) rfl rfl rfl dX9_open_15 (fun G_3 H locs eG_3 hW hS => ?_)
  have hB_G_3 : Bd G_3 := hB_G_2.put (V := 0) (lo := 0) (hi := 1600) eG_3 rfl rfl rfl (by decide) (by decide) (hB_G_2.2.put eG_3 rfl)
  have hF := hF.put eG_3 (Or.inr (by decide))
  refine lv_aload_n hx hb dX9_open_18 rfl (lv_at hl 0 rfl) ?_
  refine ic_0 hx hb dX9_open_19 ?_
  refine S_putI (ty := .int) (C := RX9) (T := TX9) (N := 9) hx hb hg iX9 tyX9 tyX9_ok nmX9 hown hK hW hS kd_3 rfl 7 (lt_b rfl) (hg (Cond.fieldLink RX9 31 "SlabWalk$Tokens" "fault" "I") m270) (fun _ h9 => h9) rfl (by decide +kernel) rfl rfl rfl dX9_open_20 (fun G_4 H locs eG_4 hW hS => ?_)
  have hB_G_4 : Bd G_4 := hB_G_3.put (V := 0) (lo := 0) (hi := 4) eG_4 rfl rfl rfl (by decide) (by decide) (hB_G_3.2.put eG_4 rfl)
  have hF := hF.put eG_4 (Or.inr (by decide))
  refine lv_aload_n hx hb dX9_open_23 rfl (lv_at hl 0 rfl) ?_
  refine ic_m1 hx hb dX9_open_24 ?_
  refine S_putI (ty := .int) (C := RX9) (T := TX9) (N := 9) hx hb hg iX9 tyX9 tyX9_ok nmX9 hown hK hW hS kd_3 rfl 8 (lt_b rfl) (hg (Cond.fieldLink RX9 9 "SlabWalk$Tokens" "faultPlace" "I") m272) (fun _ h9 => h9) rfl (by decide +kernel) rfl rfl rfl dX9_open_25 (fun G_5 H locs eG_5 hW hS => ?_)
  have hB_G_5 : Bd G_5 := hB_G_4.put (V := (-1)) (lo := (-1)) (hi := 1600) eG_5 rfl rfl rfl (by decide) (by decide) (hB_G_4.2.put eG_5 rfl)
  have hF := hF.put eG_5 (Or.inr (by decide))
  refine lv_aload_n hx hb dX9_open_28 rfl (lv_at hl 0 rfl) ?_
  refine S_calli (va_runV (As := []) (rest := []) ⟨hx, hb, hml, hown, hts⟩ (k_tAdvance l D k A a z G_5  ) (cwV 0 hts (gd_V hgd m638 m639 m640 m120 m641) rfl rfl rfl hd_X9_advance ⟨Nat.le_of_ble_eq_true rfl, Nat.le_of_ble_eq_true rfl⟩) (pre_W hW hB_G_5 hK hZ hS kd_3 rfl) rfl rfl hl.1 rfl (lv_room (Nat.le_of_ble_eq_true rfl)) dX9_open_29 ⟨Nat.le_of_ble_eq_true rfl, Nat.le_of_ble_eq_true rfl⟩) hS (fun r_6 G_7 H locs hpo hW hS => ?_)
  have hX_10 : P_tAdvance G_5 r_6 G_7 := hpo
  obtain ⟨hB_G_7, hq_8, f_11, -⟩ := hpo
  have hF := hF.call9 hq_8 rfl rfl
  refine lv_pop hx hb dX9_open_32 rfl ?_
  exact W.vret hx hb hr (fun t ht _ => ⟨⟨G_7, rfl, (P_tOpen_mk ⟨hB_G_7, hF, ⟨y_1, ty_1, ⟨G_5, hB_G_5, (Fr.put (rs := []) (fs := [(3, 1), (3, 2), (3, 7), (3, 8)]) (Fr.put (rs := []) (fs := [(3, 1), (3, 2), (3, 7), (3, 8)]) (Fr.put (rs := []) (fs := [(3, 1), (3, 2), (3, 7), (3, 8)]) (Fr.put (rs := []) (fs := [(3, 1), (3, 2), (3, 7), (3, 8)]) Fr.rf eG_2 (Or.inr (by decide))) eG_3 (Or.inr (by decide))) eG_4 (Or.inr (by decide))) eG_5 (Or.inr (by decide))), ((gp_ne eG_5 (by decide)).trans ((gp_ne eG_4 (by decide)).trans ((gp_ne eG_3 (by decide)).trans (gp_eq eG_2)))), ((gp_ne eG_5 (by decide)).trans ((gp_ne eG_4 (by decide)).trans (gp_eq eG_3))), ((gp_ne eG_5 (by decide)).trans (gp_eq eG_4)), (gp_eq eG_5), ⟨r_6, G_7, hX_10, rfl⟩⟩⟩⟩), wd_t ht hW⟩, hS.F ht⟩) hS.2.2 dX9_open_33
