theorem m3 : Cond.selects RX9 yX9_isLetter yX9_isLetter ∈ gd := gds_1 3 rfl
theorem m4 : Cond.selects RX9 yX9_cutWord yX9_cutWord ∈ gd := gds_1 4 rfl
theorem m5 : Cond.selects RX9 yX9_kindOfWord yX9_kindOfWord ∈ gd := gds_1 5 rfl
theorem m6 : Cond.selects RX9 yX9_isDigit yX9_isDigit ∈ gd := gds_1 6 rfl
theorem m7 : Cond.selects RX9 yX9_cutNumber yX9_cutNumber ∈ gd := gds_1 7 rfl
theorem m120 : Cond.initialized RX9 ∈ gd := gdc_1_0 4 rfl gw_initialized
theorem m260 : Cond.fieldLink RX9 28 "SlabWalk$Tokens" "at" "I" ∈ gd := gdc_1_9 0 rfl gw_fieldLink
theorem m266 : Cond.fieldLink RX9 85 "SlabWalk$Tokens" "number" "I" ∈ gd := gdc_1_9 6 rfl gw_fieldLink
theorem m269 : Cond.fieldLink RX9 68 "SlabWalk$Tokens" "word" "J" ∈ gd := gdc_1_9 9 rfl gw_fieldLink
theorem m635 : Cond.methodLink RX9 19 Lib.Math.min.name ∈ gd := gdc_3_2 7 rfl gw_methodLink
theorem m638 : Cond.methodLink RX9 34 yX9_advance ∈ gd := gdc_3_2 10 rfl gw_methodLink
theorem m639 : Cond.instanceMethod yX9_advance ∈ gd := gdc_3_2 11 rfl gw_instanceMethod
theorem m640 : Cond.selects RX9 yX9_advance yX9_advance ∈ gd := gdc_3_2 12 rfl gw_selects
theorem m641 : Cond.code yX9_advance cX9_advance 2 (some .boolean) ∈ gd := gdc_3_2 13 rfl gw_code
theorem m642 : Cond.methodLink RX9 48 yX9_isLetter ∈ gd := gdc_3_2 14 rfl gw_methodLink
theorem m644 : Cond.instanceMethod yX9_isLetter ∈ gd := gdc_3_3 0 rfl gw_instanceMethod
theorem m645 : Cond.code yX9_isLetter cX9_isLetter 2 (some .boolean) ∈ gd := gdc_3_3 1 rfl gw_code
theorem m646 : Cond.methodLink RX9 51 yX9_cutWord ∈ gd := gdc_3_3 2 rfl gw_methodLink
theorem m648 : Cond.instanceMethod yX9_cutWord ∈ gd := gdc_3_3 4 rfl gw_instanceMethod
theorem m649 : Cond.code yX9_cutWord cX9_cutWord 1 none ∈ gd := gdc_3_3 5 rfl gw_code
theorem m650 : Cond.methodLink RX9 72 yX9_kindOfWord ∈ gd := gdc_3_3 6 rfl gw_methodLink
theorem m652 : Cond.instanceMethod yX9_kindOfWord ∈ gd := gdc_3_3 8 rfl gw_instanceMethod
theorem m653 : Cond.code yX9_kindOfWord cX9_kindOfWord 3 (some .int) ∈ gd := gdc_3_3 9 rfl gw_code
theorem m655 : Cond.methodLink RX9 78 yJ0_length_8abf5 ∈ gd := gdc_3_3 11 rfl gw_methodLink
theorem m665 : Cond.methodLink RX9 81 yJ0_charAt_5068e ∈ gd := gdc_3_4 5 rfl gw_methodLink
theorem m666 : Cond.instanceMethod yJ0_charAt_5068e ∈ gd := gdc_3_4 6 rfl gw_instanceMethod
theorem m667 : Cond.selects "java/lang/String" yJ0_charAt_5068e yJ0_charAt_5068e ∈ gd := gdc_3_4 7 rfl gw_selects
theorem m668 : Cond.code yJ0_charAt_5068e cJ0_charAt_5068e 2 (some .char) ∈ gd := gdc_3_4 8 rfl gw_code
theorem m703 : Cond.methodLink RX9 54 yX9_isDigit ∈ gd := gdc_3_6 11 rfl gw_methodLink
theorem m705 : Cond.instanceMethod yX9_isDigit ∈ gd := gdc_3_6 13 rfl gw_instanceMethod
theorem m706 : Cond.code yX9_isDigit cX9_isDigit 2 (some .boolean) ∈ gd := gdc_3_6 14 rfl gw_code
theorem m707 : Cond.methodLink RX9 57 yX9_cutNumber ∈ gd := gdc_3_6 15 rfl gw_methodLink
theorem m709 : Cond.instanceMethod yX9_cutNumber ∈ gd := gdc_3_7 1 rfl gw_instanceMethod
theorem m710 : Cond.code yX9_cutNumber cX9_cutNumber 1 none ∈ gd := gdc_3_7 2 rfl gw_code
theorem m712 : Cond.methodLink RX9 62 yJ0_indexOf_0f7a4 ∈ gd := gdc_3_7 4 rfl gw_methodLink
theorem m713 : Cond.instanceMethod yJ0_indexOf_0f7a4 ∈ gd := gdc_3_7 5 rfl gw_instanceMethod
theorem m714 : Cond.selects "java/lang/String" yJ0_indexOf_0f7a4 yJ0_indexOf_0f7a4 ∈ gd := gdc_3_7 6 rfl gw_selects
theorem m715 : Cond.code yJ0_indexOf_0f7a4 cJ0_indexOf_0f7a4 2 (some .int) ∈ gd := gdc_3_7 7 rfl gw_code
theorem m779 : Cond.instanceMethod yX9_refuse ∈ gd := gdc_3_11 7 rfl gw_instanceMethod
theorem m780 : Cond.selects RX9 yX9_refuse yX9_refuse ∈ gd := gdc_3_11 8 rfl gw_selects
theorem m781 : Cond.code yX9_refuse cX9_refuse 2 (some .boolean) ∈ gd := gdc_3_11 9 rfl gw_code
theorem m790 : Cond.methodLink RX9 44 yX9_refuse ∈ gd := gdc_3_12 2 rfl gw_methodLink
noncomputable def rbX9_advance_0 : List (Nat × List Nat) := [(0, [42]), (1, [180, 0, 28]), (4, [42]), (5, [180, 0, 25]), (8, [162, 0, 44]), (11, [42]), (12, [180, 0, 15]), (15, [42]), (16, [180, 0, 28]), (19, [51]), (20, [16, 32]), (22, [159, 0, 17]), (25, [42]), (26, [180, 0, 15]), (29, [42]), (30, [180, 0, 28]), (33, [51]), (34, [16, 10]), (36, [160, 0, 16]), (39, [42]), (40, [89]), (41, [180, 0, 28]), (44, [4]), (45, [96])]
theorem rcX9_advance_0 : dgo (lb cX9_advance) 0 rbX9_advance_0 = true := by decide +kernel
theorem dX9_advance_0 : decode cX9_advance 0 = .ok (.aload_n 0, 1) := dk_42 (dw rcX9_advance_0 0 rfl)
theorem dX9_advance_1 : decode cX9_advance 1 = .ok (.getfield 28, 3) := dk_180 (dw rcX9_advance_0 1 rfl) rfl
theorem dX9_advance_4 : decode cX9_advance 4 = .ok (.aload_n 0, 1) := dk_42 (dw rcX9_advance_0 2 rfl)
theorem dX9_advance_5 : decode cX9_advance 5 = .ok (.getfield 25, 3) := dk_180 (dw rcX9_advance_0 3 rfl) rfl
theorem dX9_advance_8 : decode cX9_advance 8 = .ok (.if_icmp .ge 44, 3) := dk_162 (dw rcX9_advance_0 4 rfl) rfl
theorem dX9_advance_11 : decode cX9_advance 11 = .ok (.aload_n 0, 1) := dk_42 (dw rcX9_advance_0 5 rfl)
theorem dX9_advance_12 : decode cX9_advance 12 = .ok (.getfield 15, 3) := dk_180 (dw rcX9_advance_0 6 rfl) rfl
theorem dX9_advance_15 : decode cX9_advance 15 = .ok (.aload_n 0, 1) := dk_42 (dw rcX9_advance_0 7 rfl)
theorem dX9_advance_16 : decode cX9_advance 16 = .ok (.getfield 28, 3) := dk_180 (dw rcX9_advance_0 8 rfl) rfl
theorem dX9_advance_19 : decode cX9_advance 19 = .ok (.baload, 1) := dk_51 (dw rcX9_advance_0 9 rfl)
theorem dX9_advance_20 : decode cX9_advance 20 = .ok (.bipush 32, 2) := dk_16 (dw rcX9_advance_0 10 rfl) rfl
theorem dX9_advance_22 : decode cX9_advance 22 = .ok (.if_icmp .eq 17, 3) := dk_159 (dw rcX9_advance_0 11 rfl) rfl
theorem dX9_advance_25 : decode cX9_advance 25 = .ok (.aload_n 0, 1) := dk_42 (dw rcX9_advance_0 12 rfl)
theorem dX9_advance_26 : decode cX9_advance 26 = .ok (.getfield 15, 3) := dk_180 (dw rcX9_advance_0 13 rfl) rfl
theorem dX9_advance_29 : decode cX9_advance 29 = .ok (.aload_n 0, 1) := dk_42 (dw rcX9_advance_0 14 rfl)
theorem dX9_advance_30 : decode cX9_advance 30 = .ok (.getfield 28, 3) := dk_180 (dw rcX9_advance_0 15 rfl) rfl
theorem dX9_advance_33 : decode cX9_advance 33 = .ok (.baload, 1) := dk_51 (dw rcX9_advance_0 16 rfl)
theorem dX9_advance_34 : decode cX9_advance 34 = .ok (.bipush 10, 2) := dk_16 (dw rcX9_advance_0 17 rfl) rfl
theorem dX9_advance_36 : decode cX9_advance 36 = .ok (.if_icmp .ne 16, 3) := dk_160 (dw rcX9_advance_0 18 rfl) rfl
theorem dX9_advance_39 : decode cX9_advance 39 = .ok (.aload_n 0, 1) := dk_42 (dw rcX9_advance_0 19 rfl)
theorem dX9_advance_40 : decode cX9_advance 40 = .ok (.dup, 1) := dk_89 (dw rcX9_advance_0 20 rfl)
theorem dX9_advance_41 : decode cX9_advance 41 = .ok (.getfield 28, 3) := dk_180 (dw rcX9_advance_0 21 rfl) rfl
theorem dX9_advance_44 : decode cX9_advance 44 = .ok (.iconst 1, 1) := dk_4 (dw rcX9_advance_0 22 rfl)
theorem dX9_advance_45 : decode cX9_advance 45 = .ok (.iadd, 1) := dk_96 (dw rcX9_advance_0 23 rfl)
noncomputable def rbX9_advance_46 : List (Nat × List Nat) := [(46, [181, 0, 28]), (49, [167, 255, 207]), (52, [42]), (53, [42]), (54, [180, 0, 28]), (57, [181, 0, 41]), (60, [42]), (61, [180, 0, 28]), (64, [42]), (65, [180, 0, 25]), (68, [161, 0, 13]), (71, [42]), (72, [17, 0, 203]), (75, [181, 0, 38]), (78, [167, 0, 81]), (81, [42]), (82, [42]), (83, [180, 0, 28]), (86, [182, 0, 48]), (89, [153, 0, 10]), (92, [42]), (93, [182, 0, 51]), (96, [167, 0, 63]), (99, [42])]
theorem rcX9_advance_46 : dgo (lb cX9_advance) 0 rbX9_advance_46 = true := by decide +kernel
theorem dX9_advance_46 : decode cX9_advance 46 = .ok (.putfield 28, 3) := dk_181 (dw rcX9_advance_46 0 rfl) rfl
theorem dX9_advance_49 : decode cX9_advance 49 = .ok (.goto (-49), 3) := dk_167 (dw rcX9_advance_46 1 rfl) rfl
theorem dX9_advance_52 : decode cX9_advance 52 = .ok (.aload_n 0, 1) := dk_42 (dw rcX9_advance_46 2 rfl)
theorem dX9_advance_53 : decode cX9_advance 53 = .ok (.aload_n 0, 1) := dk_42 (dw rcX9_advance_46 3 rfl)
theorem dX9_advance_54 : decode cX9_advance 54 = .ok (.getfield 28, 3) := dk_180 (dw rcX9_advance_46 4 rfl) rfl
theorem dX9_advance_57 : decode cX9_advance 57 = .ok (.putfield 41, 3) := dk_181 (dw rcX9_advance_46 5 rfl) rfl
theorem dX9_advance_60 : decode cX9_advance 60 = .ok (.aload_n 0, 1) := dk_42 (dw rcX9_advance_46 6 rfl)
theorem dX9_advance_61 : decode cX9_advance 61 = .ok (.getfield 28, 3) := dk_180 (dw rcX9_advance_46 7 rfl) rfl
theorem dX9_advance_64 : decode cX9_advance 64 = .ok (.aload_n 0, 1) := dk_42 (dw rcX9_advance_46 8 rfl)
theorem dX9_advance_65 : decode cX9_advance 65 = .ok (.getfield 25, 3) := dk_180 (dw rcX9_advance_46 9 rfl) rfl
theorem dX9_advance_68 : decode cX9_advance 68 = .ok (.if_icmp .lt 13, 3) := dk_161 (dw rcX9_advance_46 10 rfl) rfl
theorem dX9_advance_71 : decode cX9_advance 71 = .ok (.aload_n 0, 1) := dk_42 (dw rcX9_advance_46 11 rfl)
theorem dX9_advance_72 : decode cX9_advance 72 = .ok (.sipush 203, 3) := dk_17 (dw rcX9_advance_46 12 rfl) rfl
theorem dX9_advance_75 : decode cX9_advance 75 = .ok (.putfield 38, 3) := dk_181 (dw rcX9_advance_46 13 rfl) rfl
theorem dX9_advance_78 : decode cX9_advance 78 = .ok (.goto 81, 3) := dk_167 (dw rcX9_advance_46 14 rfl) rfl
theorem dX9_advance_81 : decode cX9_advance 81 = .ok (.aload_n 0, 1) := dk_42 (dw rcX9_advance_46 15 rfl)
theorem dX9_advance_82 : decode cX9_advance 82 = .ok (.aload_n 0, 1) := dk_42 (dw rcX9_advance_46 16 rfl)
theorem dX9_advance_83 : decode cX9_advance 83 = .ok (.getfield 28, 3) := dk_180 (dw rcX9_advance_46 17 rfl) rfl
theorem dX9_advance_86 : decode cX9_advance 86 = .ok (.invokevirtual 48, 3) := dk_182 (dw rcX9_advance_46 18 rfl) rfl
theorem dX9_advance_89 : decode cX9_advance 89 = .ok (.ifCond .eq 10, 3) := dk_153 (dw rcX9_advance_46 19 rfl) rfl
theorem dX9_advance_92 : decode cX9_advance 92 = .ok (.aload_n 0, 1) := dk_42 (dw rcX9_advance_46 20 rfl)
theorem dX9_advance_93 : decode cX9_advance 93 = .ok (.invokevirtual 51, 3) := dk_182 (dw rcX9_advance_46 21 rfl) rfl
theorem dX9_advance_96 : decode cX9_advance 96 = .ok (.goto 63, 3) := dk_167 (dw rcX9_advance_46 22 rfl) rfl
theorem dX9_advance_99 : decode cX9_advance 99 = .ok (.aload_n 0, 1) := dk_42 (dw rcX9_advance_46 23 rfl)
noncomputable def rbX9_advance_100 : List (Nat × List Nat) := [(100, [42]), (101, [180, 0, 28]), (104, [182, 0, 54]), (107, [153, 0, 10]), (110, [42]), (111, [182, 0, 57]), (114, [167, 0, 45]), (117, [42]), (118, [180, 0, 15]), (121, [42]), (122, [89]), (123, [180, 0, 28]), (126, [90]), (127, [4]), (128, [96]), (129, [181, 0, 28]), (132, [51]), (133, [17, 0, 255]), (136, [126]), (137, [60]), (138, [42]), (139, [18, 60]), (141, [27]), (142, [146])]
theorem rcX9_advance_100 : dgo (lb cX9_advance) 0 rbX9_advance_100 = true := by decide +kernel
theorem dX9_advance_100 : decode cX9_advance 100 = .ok (.aload_n 0, 1) := dk_42 (dw rcX9_advance_100 0 rfl)
theorem dX9_advance_101 : decode cX9_advance 101 = .ok (.getfield 28, 3) := dk_180 (dw rcX9_advance_100 1 rfl) rfl
theorem dX9_advance_104 : decode cX9_advance 104 = .ok (.invokevirtual 54, 3) := dk_182 (dw rcX9_advance_100 2 rfl) rfl
theorem dX9_advance_107 : decode cX9_advance 107 = .ok (.ifCond .eq 10, 3) := dk_153 (dw rcX9_advance_100 3 rfl) rfl
theorem dX9_advance_110 : decode cX9_advance 110 = .ok (.aload_n 0, 1) := dk_42 (dw rcX9_advance_100 4 rfl)
theorem dX9_advance_111 : decode cX9_advance 111 = .ok (.invokevirtual 57, 3) := dk_182 (dw rcX9_advance_100 5 rfl) rfl
theorem dX9_advance_114 : decode cX9_advance 114 = .ok (.goto 45, 3) := dk_167 (dw rcX9_advance_100 6 rfl) rfl
theorem dX9_advance_117 : decode cX9_advance 117 = .ok (.aload_n 0, 1) := dk_42 (dw rcX9_advance_100 7 rfl)
theorem dX9_advance_118 : decode cX9_advance 118 = .ok (.getfield 15, 3) := dk_180 (dw rcX9_advance_100 8 rfl) rfl
theorem dX9_advance_121 : decode cX9_advance 121 = .ok (.aload_n 0, 1) := dk_42 (dw rcX9_advance_100 9 rfl)
theorem dX9_advance_122 : decode cX9_advance 122 = .ok (.dup, 1) := dk_89 (dw rcX9_advance_100 10 rfl)
theorem dX9_advance_123 : decode cX9_advance 123 = .ok (.getfield 28, 3) := dk_180 (dw rcX9_advance_100 11 rfl) rfl
theorem dX9_advance_126 : decode cX9_advance 126 = .ok (.dup_x1, 1) := dk_90 (dw rcX9_advance_100 12 rfl)
theorem dX9_advance_127 : decode cX9_advance 127 = .ok (.iconst 1, 1) := dk_4 (dw rcX9_advance_100 13 rfl)
theorem dX9_advance_128 : decode cX9_advance 128 = .ok (.iadd, 1) := dk_96 (dw rcX9_advance_100 14 rfl)
theorem dX9_advance_129 : decode cX9_advance 129 = .ok (.putfield 28, 3) := dk_181 (dw rcX9_advance_100 15 rfl) rfl
theorem dX9_advance_132 : decode cX9_advance 132 = .ok (.baload, 1) := dk_51 (dw rcX9_advance_100 16 rfl)
theorem dX9_advance_133 : decode cX9_advance 133 = .ok (.sipush 255, 3) := dk_17 (dw rcX9_advance_100 17 rfl) rfl
theorem dX9_advance_136 : decode cX9_advance 136 = .ok (.iand, 1) := dk_126 (dw rcX9_advance_100 18 rfl)
theorem dX9_advance_137 : decode cX9_advance 137 = .ok (.istore_n 1, 1) := dk_60 (dw rcX9_advance_100 19 rfl)
theorem dX9_advance_138 : decode cX9_advance 138 = .ok (.aload_n 0, 1) := dk_42 (dw rcX9_advance_100 20 rfl)
theorem dX9_advance_139 : decode cX9_advance 139 = .ok (.ldc 60, 2) := dk_18 (dw rcX9_advance_100 21 rfl)
theorem dX9_advance_141 : decode cX9_advance 141 = .ok (.iload_n 1, 1) := dk_27 (dw rcX9_advance_100 22 rfl)
theorem dX9_advance_142 : decode cX9_advance 142 = .ok (.i2c, 1) := dk_146 (dw rcX9_advance_100 23 rfl)
noncomputable def rbX9_advance_143 : List (Nat × List Nat) := [(143, [182, 0, 62]), (146, [155, 0, 7]), (149, [27]), (150, [167, 0, 6]), (153, [17, 0, 202]), (156, [181, 0, 38]), (159, [4]), (160, [172])]
theorem rcX9_advance_143 : dgo (lb cX9_advance) 0 rbX9_advance_143 = true := by decide +kernel
theorem dX9_advance_143 : decode cX9_advance 143 = .ok (.invokevirtual 62, 3) := dk_182 (dw rcX9_advance_143 0 rfl) rfl
theorem dX9_advance_146 : decode cX9_advance 146 = .ok (.ifCond .lt 7, 3) := dk_155 (dw rcX9_advance_143 1 rfl) rfl
theorem dX9_advance_149 : decode cX9_advance 149 = .ok (.iload_n 1, 1) := dk_27 (dw rcX9_advance_143 2 rfl)
theorem dX9_advance_150 : decode cX9_advance 150 = .ok (.goto 6, 3) := dk_167 (dw rcX9_advance_143 3 rfl) rfl
theorem dX9_advance_153 : decode cX9_advance 153 = .ok (.sipush 202, 3) := dk_17 (dw rcX9_advance_143 4 rfl) rfl
theorem dX9_advance_156 : decode cX9_advance 156 = .ok (.putfield 38, 3) := dk_181 (dw rcX9_advance_143 5 rfl) rfl
theorem dX9_advance_159 : decode cX9_advance 159 = .ok (.iconst 1, 1) := dk_4 (dw rcX9_advance_143 6 rfl)
theorem dX9_advance_160 : decode cX9_advance 160 = .ok (.ireturn, 1) := dk_172 (dw rcX9_advance_143 7 rfl)
noncomputable def rbX9_cutNumber_0 : List (Nat × List Nat) := [(0, [42]), (1, [3]), (2, [181, 0, 85]), (5, [42]), (6, [180, 0, 28]), (9, [42]), (10, [180, 0, 25]), (13, [162, 0, 51]), (16, [42]), (17, [42]), (18, [180, 0, 28]), (21, [182, 0, 54]), (24, [153, 0, 40]), (27, [42]), (28, [42]), (29, [180, 0, 85]), (32, [16, 10]), (34, [104]), (35, [42]), (36, [180, 0, 15]), (39, [42]), (40, [180, 0, 28]), (43, [51]), (44, [96])]
theorem rcX9_cutNumber_0 : dgo (lb cX9_cutNumber) 0 rbX9_cutNumber_0 = true := by decide +kernel
theorem dX9_cutNumber_0 : decode cX9_cutNumber 0 = .ok (.aload_n 0, 1) := dk_42 (dw rcX9_cutNumber_0 0 rfl)
theorem dX9_cutNumber_1 : decode cX9_cutNumber 1 = .ok (.iconst 0, 1) := dk_3 (dw rcX9_cutNumber_0 1 rfl)
theorem dX9_cutNumber_2 : decode cX9_cutNumber 2 = .ok (.putfield 85, 3) := dk_181 (dw rcX9_cutNumber_0 2 rfl) rfl
theorem dX9_cutNumber_5 : decode cX9_cutNumber 5 = .ok (.aload_n 0, 1) := dk_42 (dw rcX9_cutNumber_0 3 rfl)
theorem dX9_cutNumber_6 : decode cX9_cutNumber 6 = .ok (.getfield 28, 3) := dk_180 (dw rcX9_cutNumber_0 4 rfl) rfl
theorem dX9_cutNumber_9 : decode cX9_cutNumber 9 = .ok (.aload_n 0, 1) := dk_42 (dw rcX9_cutNumber_0 5 rfl)
theorem dX9_cutNumber_10 : decode cX9_cutNumber 10 = .ok (.getfield 25, 3) := dk_180 (dw rcX9_cutNumber_0 6 rfl) rfl
theorem dX9_cutNumber_13 : decode cX9_cutNumber 13 = .ok (.if_icmp .ge 51, 3) := dk_162 (dw rcX9_cutNumber_0 7 rfl) rfl
theorem dX9_cutNumber_16 : decode cX9_cutNumber 16 = .ok (.aload_n 0, 1) := dk_42 (dw rcX9_cutNumber_0 8 rfl)
theorem dX9_cutNumber_17 : decode cX9_cutNumber 17 = .ok (.aload_n 0, 1) := dk_42 (dw rcX9_cutNumber_0 9 rfl)
theorem dX9_cutNumber_18 : decode cX9_cutNumber 18 = .ok (.getfield 28, 3) := dk_180 (dw rcX9_cutNumber_0 10 rfl) rfl
theorem dX9_cutNumber_21 : decode cX9_cutNumber 21 = .ok (.invokevirtual 54, 3) := dk_182 (dw rcX9_cutNumber_0 11 rfl) rfl
theorem dX9_cutNumber_24 : decode cX9_cutNumber 24 = .ok (.ifCond .eq 40, 3) := dk_153 (dw rcX9_cutNumber_0 12 rfl) rfl
theorem dX9_cutNumber_27 : decode cX9_cutNumber 27 = .ok (.aload_n 0, 1) := dk_42 (dw rcX9_cutNumber_0 13 rfl)
theorem dX9_cutNumber_28 : decode cX9_cutNumber 28 = .ok (.aload_n 0, 1) := dk_42 (dw rcX9_cutNumber_0 14 rfl)
theorem dX9_cutNumber_29 : decode cX9_cutNumber 29 = .ok (.getfield 85, 3) := dk_180 (dw rcX9_cutNumber_0 15 rfl) rfl
theorem dX9_cutNumber_32 : decode cX9_cutNumber 32 = .ok (.bipush 10, 2) := dk_16 (dw rcX9_cutNumber_0 16 rfl) rfl
theorem dX9_cutNumber_34 : decode cX9_cutNumber 34 = .ok (.imul, 1) := dk_104 (dw rcX9_cutNumber_0 17 rfl)
theorem dX9_cutNumber_35 : decode cX9_cutNumber 35 = .ok (.aload_n 0, 1) := dk_42 (dw rcX9_cutNumber_0 18 rfl)
theorem dX9_cutNumber_36 : decode cX9_cutNumber 36 = .ok (.getfield 15, 3) := dk_180 (dw rcX9_cutNumber_0 19 rfl) rfl
theorem dX9_cutNumber_39 : decode cX9_cutNumber 39 = .ok (.aload_n 0, 1) := dk_42 (dw rcX9_cutNumber_0 20 rfl)
theorem dX9_cutNumber_40 : decode cX9_cutNumber 40 = .ok (.getfield 28, 3) := dk_180 (dw rcX9_cutNumber_0 21 rfl) rfl
theorem dX9_cutNumber_43 : decode cX9_cutNumber 43 = .ok (.baload, 1) := dk_51 (dw rcX9_cutNumber_0 22 rfl)
theorem dX9_cutNumber_44 : decode cX9_cutNumber 44 = .ok (.iadd, 1) := dk_96 (dw rcX9_cutNumber_0 23 rfl)
noncomputable def rbX9_cutNumber_45 : List (Nat × List Nat) := [(45, [16, 48]), (47, [100]), (48, [181, 0, 85]), (51, [42]), (52, [89]), (53, [180, 0, 28]), (56, [4]), (57, [96]), (58, [181, 0, 28]), (61, [167, 255, 200]), (64, [42]), (65, [42]), (66, [180, 0, 28]), (69, [42]), (70, [180, 0, 41]), (73, [100]), (74, [7]), (75, [163, 0, 14]), (78, [42]), (79, [42]), (80, [180, 0, 28]), (83, [182, 0, 48]), (86, [153, 0, 9]), (89, [17, 0, 202])]
theorem rcX9_cutNumber_45 : dgo (lb cX9_cutNumber) 0 rbX9_cutNumber_45 = true := by decide +kernel
theorem dX9_cutNumber_45 : decode cX9_cutNumber 45 = .ok (.bipush 48, 2) := dk_16 (dw rcX9_cutNumber_45 0 rfl) rfl
theorem dX9_cutNumber_47 : decode cX9_cutNumber 47 = .ok (.isub, 1) := dk_100 (dw rcX9_cutNumber_45 1 rfl)
theorem dX9_cutNumber_48 : decode cX9_cutNumber 48 = .ok (.putfield 85, 3) := dk_181 (dw rcX9_cutNumber_45 2 rfl) rfl
theorem dX9_cutNumber_51 : decode cX9_cutNumber 51 = .ok (.aload_n 0, 1) := dk_42 (dw rcX9_cutNumber_45 3 rfl)
theorem dX9_cutNumber_52 : decode cX9_cutNumber 52 = .ok (.dup, 1) := dk_89 (dw rcX9_cutNumber_45 4 rfl)
theorem dX9_cutNumber_53 : decode cX9_cutNumber 53 = .ok (.getfield 28, 3) := dk_180 (dw rcX9_cutNumber_45 5 rfl) rfl
theorem dX9_cutNumber_56 : decode cX9_cutNumber 56 = .ok (.iconst 1, 1) := dk_4 (dw rcX9_cutNumber_45 6 rfl)
theorem dX9_cutNumber_57 : decode cX9_cutNumber 57 = .ok (.iadd, 1) := dk_96 (dw rcX9_cutNumber_45 7 rfl)
theorem dX9_cutNumber_58 : decode cX9_cutNumber 58 = .ok (.putfield 28, 3) := dk_181 (dw rcX9_cutNumber_45 8 rfl) rfl
theorem dX9_cutNumber_61 : decode cX9_cutNumber 61 = .ok (.goto (-56), 3) := dk_167 (dw rcX9_cutNumber_45 9 rfl) rfl
theorem dX9_cutNumber_64 : decode cX9_cutNumber 64 = .ok (.aload_n 0, 1) := dk_42 (dw rcX9_cutNumber_45 10 rfl)
theorem dX9_cutNumber_65 : decode cX9_cutNumber 65 = .ok (.aload_n 0, 1) := dk_42 (dw rcX9_cutNumber_45 11 rfl)
theorem dX9_cutNumber_66 : decode cX9_cutNumber 66 = .ok (.getfield 28, 3) := dk_180 (dw rcX9_cutNumber_45 12 rfl) rfl
theorem dX9_cutNumber_69 : decode cX9_cutNumber 69 = .ok (.aload_n 0, 1) := dk_42 (dw rcX9_cutNumber_45 13 rfl)
theorem dX9_cutNumber_70 : decode cX9_cutNumber 70 = .ok (.getfield 41, 3) := dk_180 (dw rcX9_cutNumber_45 14 rfl) rfl
theorem dX9_cutNumber_73 : decode cX9_cutNumber 73 = .ok (.isub, 1) := dk_100 (dw rcX9_cutNumber_45 15 rfl)
theorem dX9_cutNumber_74 : decode cX9_cutNumber 74 = .ok (.iconst 4, 1) := dk_7 (dw rcX9_cutNumber_45 16 rfl)
theorem dX9_cutNumber_75 : decode cX9_cutNumber 75 = .ok (.if_icmp .gt 14, 3) := dk_163 (dw rcX9_cutNumber_45 17 rfl) rfl
theorem dX9_cutNumber_78 : decode cX9_cutNumber 78 = .ok (.aload_n 0, 1) := dk_42 (dw rcX9_cutNumber_45 18 rfl)
theorem dX9_cutNumber_79 : decode cX9_cutNumber 79 = .ok (.aload_n 0, 1) := dk_42 (dw rcX9_cutNumber_45 19 rfl)
theorem dX9_cutNumber_80 : decode cX9_cutNumber 80 = .ok (.getfield 28, 3) := dk_180 (dw rcX9_cutNumber_45 20 rfl) rfl
theorem dX9_cutNumber_83 : decode cX9_cutNumber 83 = .ok (.invokevirtual 48, 3) := dk_182 (dw rcX9_cutNumber_45 21 rfl) rfl
theorem dX9_cutNumber_86 : decode cX9_cutNumber 86 = .ok (.ifCond .eq 9, 3) := dk_153 (dw rcX9_cutNumber_45 22 rfl) rfl
theorem dX9_cutNumber_89 : decode cX9_cutNumber 89 = .ok (.sipush 202, 3) := dk_17 (dw rcX9_cutNumber_45 23 rfl) rfl
noncomputable def rbX9_cutNumber_92 : List (Nat × List Nat) := [(92, [167, 0, 6]), (95, [17, 0, 201]), (98, [181, 0, 38]), (101, [177])]
theorem rcX9_cutNumber_92 : dgo (lb cX9_cutNumber) 0 rbX9_cutNumber_92 = true := by decide +kernel
theorem dX9_cutNumber_92 : decode cX9_cutNumber 92 = .ok (.goto 6, 3) := dk_167 (dw rcX9_cutNumber_92 0 rfl) rfl
theorem dX9_cutNumber_95 : decode cX9_cutNumber 95 = .ok (.sipush 201, 3) := dk_17 (dw rcX9_cutNumber_92 1 rfl) rfl
theorem dX9_cutNumber_98 : decode cX9_cutNumber 98 = .ok (.putfield 38, 3) := dk_181 (dw rcX9_cutNumber_92 2 rfl) rfl
theorem dX9_cutNumber_101 : decode cX9_cutNumber 101 = .ok (.return_, 1) := dk_177 (dw rcX9_cutNumber_92 3 rfl)
noncomputable def rbX9_cutWord_0 : List (Nat × List Nat) := [(0, [42]), (1, [9]), (2, [181, 0, 68]), (5, [42]), (6, [180, 0, 28]), (9, [42]), (10, [180, 0, 25]), (13, [162, 0, 53]), (16, [42]), (17, [42]), (18, [180, 0, 28]), (21, [182, 0, 48]), (24, [153, 0, 42]), (27, [42]), (28, [42]), (29, [180, 0, 68]), (32, [8]), (33, [121]), (34, [42]), (35, [180, 0, 15]), (38, [42]), (39, [180, 0, 28]), (42, [51]), (43, [16, 97])]
theorem rcX9_cutWord_0 : dgo (lb cX9_cutWord) 0 rbX9_cutWord_0 = true := by decide +kernel
theorem dX9_cutWord_0 : decode cX9_cutWord 0 = .ok (.aload_n 0, 1) := dk_42 (dw rcX9_cutWord_0 0 rfl)
theorem dX9_cutWord_1 : decode cX9_cutWord 1 = .ok (.lconst 0, 1) := dk_9 (dw rcX9_cutWord_0 1 rfl)
theorem dX9_cutWord_2 : decode cX9_cutWord 2 = .ok (.putfield 68, 3) := dk_181 (dw rcX9_cutWord_0 2 rfl) rfl
theorem dX9_cutWord_5 : decode cX9_cutWord 5 = .ok (.aload_n 0, 1) := dk_42 (dw rcX9_cutWord_0 3 rfl)
theorem dX9_cutWord_6 : decode cX9_cutWord 6 = .ok (.getfield 28, 3) := dk_180 (dw rcX9_cutWord_0 4 rfl) rfl
theorem dX9_cutWord_9 : decode cX9_cutWord 9 = .ok (.aload_n 0, 1) := dk_42 (dw rcX9_cutWord_0 5 rfl)
theorem dX9_cutWord_10 : decode cX9_cutWord 10 = .ok (.getfield 25, 3) := dk_180 (dw rcX9_cutWord_0 6 rfl) rfl
theorem dX9_cutWord_13 : decode cX9_cutWord 13 = .ok (.if_icmp .ge 53, 3) := dk_162 (dw rcX9_cutWord_0 7 rfl) rfl
theorem dX9_cutWord_16 : decode cX9_cutWord 16 = .ok (.aload_n 0, 1) := dk_42 (dw rcX9_cutWord_0 8 rfl)
theorem dX9_cutWord_17 : decode cX9_cutWord 17 = .ok (.aload_n 0, 1) := dk_42 (dw rcX9_cutWord_0 9 rfl)
theorem dX9_cutWord_18 : decode cX9_cutWord 18 = .ok (.getfield 28, 3) := dk_180 (dw rcX9_cutWord_0 10 rfl) rfl
theorem dX9_cutWord_21 : decode cX9_cutWord 21 = .ok (.invokevirtual 48, 3) := dk_182 (dw rcX9_cutWord_0 11 rfl) rfl
theorem dX9_cutWord_24 : decode cX9_cutWord 24 = .ok (.ifCond .eq 42, 3) := dk_153 (dw rcX9_cutWord_0 12 rfl) rfl
theorem dX9_cutWord_27 : decode cX9_cutWord 27 = .ok (.aload_n 0, 1) := dk_42 (dw rcX9_cutWord_0 13 rfl)
theorem dX9_cutWord_28 : decode cX9_cutWord 28 = .ok (.aload_n 0, 1) := dk_42 (dw rcX9_cutWord_0 14 rfl)
theorem dX9_cutWord_29 : decode cX9_cutWord 29 = .ok (.getfield 68, 3) := dk_180 (dw rcX9_cutWord_0 15 rfl) rfl
theorem dX9_cutWord_32 : decode cX9_cutWord 32 = .ok (.iconst 5, 1) := dk_8 (dw rcX9_cutWord_0 16 rfl)
theorem dX9_cutWord_33 : decode cX9_cutWord 33 = .ok (.lshl, 1) := dk_121 (dw rcX9_cutWord_0 17 rfl)
theorem dX9_cutWord_34 : decode cX9_cutWord 34 = .ok (.aload_n 0, 1) := dk_42 (dw rcX9_cutWord_0 18 rfl)
theorem dX9_cutWord_35 : decode cX9_cutWord 35 = .ok (.getfield 15, 3) := dk_180 (dw rcX9_cutWord_0 19 rfl) rfl
theorem dX9_cutWord_38 : decode cX9_cutWord 38 = .ok (.aload_n 0, 1) := dk_42 (dw rcX9_cutWord_0 20 rfl)
theorem dX9_cutWord_39 : decode cX9_cutWord 39 = .ok (.getfield 28, 3) := dk_180 (dw rcX9_cutWord_0 21 rfl) rfl
theorem dX9_cutWord_42 : decode cX9_cutWord 42 = .ok (.baload, 1) := dk_51 (dw rcX9_cutWord_0 22 rfl)
theorem dX9_cutWord_43 : decode cX9_cutWord 43 = .ok (.bipush 97, 2) := dk_16 (dw rcX9_cutWord_0 23 rfl) rfl
noncomputable def rbX9_cutWord_45 : List (Nat × List Nat) := [(45, [100]), (46, [4]), (47, [96]), (48, [133]), (49, [129]), (50, [181, 0, 68]), (53, [42]), (54, [89]), (55, [180, 0, 28]), (58, [4]), (59, [96]), (60, [181, 0, 28]), (63, [167, 255, 198]), (66, [42]), (67, [42]), (68, [180, 0, 28]), (71, [42]), (72, [180, 0, 41]), (75, [100]), (76, [16, 8]), (78, [164, 0, 9]), (81, [17, 0, 202]), (84, [167, 0, 7]), (87, [42])]
theorem rcX9_cutWord_45 : dgo (lb cX9_cutWord) 0 rbX9_cutWord_45 = true := by decide +kernel
theorem dX9_cutWord_45 : decode cX9_cutWord 45 = .ok (.isub, 1) := dk_100 (dw rcX9_cutWord_45 0 rfl)
theorem dX9_cutWord_46 : decode cX9_cutWord 46 = .ok (.iconst 1, 1) := dk_4 (dw rcX9_cutWord_45 1 rfl)
theorem dX9_cutWord_47 : decode cX9_cutWord 47 = .ok (.iadd, 1) := dk_96 (dw rcX9_cutWord_45 2 rfl)
theorem dX9_cutWord_48 : decode cX9_cutWord 48 = .ok (.i2l, 1) := dk_133 (dw rcX9_cutWord_45 3 rfl)
theorem dX9_cutWord_49 : decode cX9_cutWord 49 = .ok (.lor, 1) := dk_129 (dw rcX9_cutWord_45 4 rfl)
theorem dX9_cutWord_50 : decode cX9_cutWord 50 = .ok (.putfield 68, 3) := dk_181 (dw rcX9_cutWord_45 5 rfl) rfl
theorem dX9_cutWord_53 : decode cX9_cutWord 53 = .ok (.aload_n 0, 1) := dk_42 (dw rcX9_cutWord_45 6 rfl)
theorem dX9_cutWord_54 : decode cX9_cutWord 54 = .ok (.dup, 1) := dk_89 (dw rcX9_cutWord_45 7 rfl)
theorem dX9_cutWord_55 : decode cX9_cutWord 55 = .ok (.getfield 28, 3) := dk_180 (dw rcX9_cutWord_45 8 rfl) rfl
theorem dX9_cutWord_58 : decode cX9_cutWord 58 = .ok (.iconst 1, 1) := dk_4 (dw rcX9_cutWord_45 9 rfl)
theorem dX9_cutWord_59 : decode cX9_cutWord 59 = .ok (.iadd, 1) := dk_96 (dw rcX9_cutWord_45 10 rfl)
theorem dX9_cutWord_60 : decode cX9_cutWord 60 = .ok (.putfield 28, 3) := dk_181 (dw rcX9_cutWord_45 11 rfl) rfl
theorem dX9_cutWord_63 : decode cX9_cutWord 63 = .ok (.goto (-58), 3) := dk_167 (dw rcX9_cutWord_45 12 rfl) rfl
theorem dX9_cutWord_66 : decode cX9_cutWord 66 = .ok (.aload_n 0, 1) := dk_42 (dw rcX9_cutWord_45 13 rfl)
theorem dX9_cutWord_67 : decode cX9_cutWord 67 = .ok (.aload_n 0, 1) := dk_42 (dw rcX9_cutWord_45 14 rfl)
theorem dX9_cutWord_68 : decode cX9_cutWord 68 = .ok (.getfield 28, 3) := dk_180 (dw rcX9_cutWord_45 15 rfl) rfl
theorem dX9_cutWord_71 : decode cX9_cutWord 71 = .ok (.aload_n 0, 1) := dk_42 (dw rcX9_cutWord_45 16 rfl)
theorem dX9_cutWord_72 : decode cX9_cutWord 72 = .ok (.getfield 41, 3) := dk_180 (dw rcX9_cutWord_45 17 rfl) rfl
theorem dX9_cutWord_75 : decode cX9_cutWord 75 = .ok (.isub, 1) := dk_100 (dw rcX9_cutWord_45 18 rfl)
theorem dX9_cutWord_76 : decode cX9_cutWord 76 = .ok (.bipush 8, 2) := dk_16 (dw rcX9_cutWord_45 19 rfl) rfl
theorem dX9_cutWord_78 : decode cX9_cutWord 78 = .ok (.if_icmp .le 9, 3) := dk_164 (dw rcX9_cutWord_45 20 rfl) rfl
theorem dX9_cutWord_81 : decode cX9_cutWord 81 = .ok (.sipush 202, 3) := dk_17 (dw rcX9_cutWord_45 21 rfl) rfl
theorem dX9_cutWord_84 : decode cX9_cutWord 84 = .ok (.goto 7, 3) := dk_167 (dw rcX9_cutWord_45 22 rfl) rfl
theorem dX9_cutWord_87 : decode cX9_cutWord 87 = .ok (.aload_n 0, 1) := dk_42 (dw rcX9_cutWord_45 23 rfl)
noncomputable def rbX9_cutWord_88 : List (Nat × List Nat) := [(88, [182, 0, 72]), (91, [181, 0, 38]), (94, [177])]
theorem rcX9_cutWord_88 : dgo (lb cX9_cutWord) 0 rbX9_cutWord_88 = true := by decide +kernel
theorem dX9_cutWord_88 : decode cX9_cutWord 88 = .ok (.invokevirtual 72, 3) := dk_182 (dw rcX9_cutWord_88 0 rfl) rfl
theorem dX9_cutWord_91 : decode cX9_cutWord 91 = .ok (.putfield 38, 3) := dk_181 (dw rcX9_cutWord_88 1 rfl) rfl
theorem dX9_cutWord_94 : decode cX9_cutWord 94 = .ok (.return_, 1) := dk_177 (dw rcX9_cutWord_88 2 rfl)
noncomputable def rbX9_kindOfWord_0 : List (Nat × List Nat) := [(0, [3]), (1, [60]), (2, [27]), (3, [16, 8]), (5, [96]), (6, [18, 76]), (8, [182, 0, 78]), (11, [163, 0, 78]), (14, [3]), (15, [61]), (16, [28]), (17, [16, 8]), (19, [162, 0, 49]), (22, [18, 76]), (24, [27]), (25, [28]), (26, [96]), (27, [182, 0, 81]), (30, [42]), (31, [180, 0, 41]), (34, [28]), (35, [96]), (36, [42]), (37, [180, 0, 28])]
theorem rcX9_kindOfWord_0 : dgo (lb cX9_kindOfWord) 0 rbX9_kindOfWord_0 = true := by decide +kernel
theorem dX9_kindOfWord_0 : decode cX9_kindOfWord 0 = .ok (.iconst 0, 1) := dk_3 (dw rcX9_kindOfWord_0 0 rfl)
theorem dX9_kindOfWord_1 : decode cX9_kindOfWord 1 = .ok (.istore_n 1, 1) := dk_60 (dw rcX9_kindOfWord_0 1 rfl)
theorem dX9_kindOfWord_2 : decode cX9_kindOfWord 2 = .ok (.iload_n 1, 1) := dk_27 (dw rcX9_kindOfWord_0 2 rfl)
theorem dX9_kindOfWord_3 : decode cX9_kindOfWord 3 = .ok (.bipush 8, 2) := dk_16 (dw rcX9_kindOfWord_0 3 rfl) rfl
theorem dX9_kindOfWord_5 : decode cX9_kindOfWord 5 = .ok (.iadd, 1) := dk_96 (dw rcX9_kindOfWord_0 4 rfl)
theorem dX9_kindOfWord_6 : decode cX9_kindOfWord 6 = .ok (.ldc 76, 2) := dk_18 (dw rcX9_kindOfWord_0 5 rfl)
theorem dX9_kindOfWord_8 : decode cX9_kindOfWord 8 = .ok (.invokevirtual 78, 3) := dk_182 (dw rcX9_kindOfWord_0 6 rfl) rfl
theorem dX9_kindOfWord_11 : decode cX9_kindOfWord 11 = .ok (.if_icmp .gt 78, 3) := dk_163 (dw rcX9_kindOfWord_0 7 rfl) rfl
theorem dX9_kindOfWord_14 : decode cX9_kindOfWord 14 = .ok (.iconst 0, 1) := dk_3 (dw rcX9_kindOfWord_0 8 rfl)
theorem dX9_kindOfWord_15 : decode cX9_kindOfWord 15 = .ok (.istore_n 2, 1) := dk_61 (dw rcX9_kindOfWord_0 9 rfl)
theorem dX9_kindOfWord_16 : decode cX9_kindOfWord 16 = .ok (.iload_n 2, 1) := dk_28 (dw rcX9_kindOfWord_0 10 rfl)
theorem dX9_kindOfWord_17 : decode cX9_kindOfWord 17 = .ok (.bipush 8, 2) := dk_16 (dw rcX9_kindOfWord_0 11 rfl) rfl
theorem dX9_kindOfWord_19 : decode cX9_kindOfWord 19 = .ok (.if_icmp .ge 49, 3) := dk_162 (dw rcX9_kindOfWord_0 12 rfl) rfl
theorem dX9_kindOfWord_22 : decode cX9_kindOfWord 22 = .ok (.ldc 76, 2) := dk_18 (dw rcX9_kindOfWord_0 13 rfl)
theorem dX9_kindOfWord_24 : decode cX9_kindOfWord 24 = .ok (.iload_n 1, 1) := dk_27 (dw rcX9_kindOfWord_0 14 rfl)
theorem dX9_kindOfWord_25 : decode cX9_kindOfWord 25 = .ok (.iload_n 2, 1) := dk_28 (dw rcX9_kindOfWord_0 15 rfl)
theorem dX9_kindOfWord_26 : decode cX9_kindOfWord 26 = .ok (.iadd, 1) := dk_96 (dw rcX9_kindOfWord_0 16 rfl)
theorem dX9_kindOfWord_27 : decode cX9_kindOfWord 27 = .ok (.invokevirtual 81, 3) := dk_182 (dw rcX9_kindOfWord_0 17 rfl) rfl
theorem dX9_kindOfWord_30 : decode cX9_kindOfWord 30 = .ok (.aload_n 0, 1) := dk_42 (dw rcX9_kindOfWord_0 18 rfl)
theorem dX9_kindOfWord_31 : decode cX9_kindOfWord 31 = .ok (.getfield 41, 3) := dk_180 (dw rcX9_kindOfWord_0 19 rfl) rfl
theorem dX9_kindOfWord_34 : decode cX9_kindOfWord 34 = .ok (.iload_n 2, 1) := dk_28 (dw rcX9_kindOfWord_0 20 rfl)
theorem dX9_kindOfWord_35 : decode cX9_kindOfWord 35 = .ok (.iadd, 1) := dk_96 (dw rcX9_kindOfWord_0 21 rfl)
theorem dX9_kindOfWord_36 : decode cX9_kindOfWord 36 = .ok (.aload_n 0, 1) := dk_42 (dw rcX9_kindOfWord_0 22 rfl)
theorem dX9_kindOfWord_37 : decode cX9_kindOfWord 37 = .ok (.getfield 28, 3) := dk_180 (dw rcX9_kindOfWord_0 23 rfl) rfl
noncomputable def rbX9_kindOfWord_40 : List (Nat × List Nat) := [(40, [162, 0, 17]), (43, [42]), (44, [180, 0, 15]), (47, [42]), (48, [180, 0, 41]), (51, [28]), (52, [96]), (53, [51]), (54, [167, 0, 5]), (57, [16, 32]), (59, [160, 0, 9]), (62, [132, 2, 1]), (65, [167, 255, 207]), (68, [28]), (69, [16, 8]), (71, [160, 0, 12]), (74, [17, 0, 128]), (77, [27]), (78, [16, 8]), (80, [108]), (81, [96]), (82, [172]), (83, [132, 1, 8]), (86, [167, 255, 172])]
theorem rcX9_kindOfWord_40 : dgo (lb cX9_kindOfWord) 0 rbX9_kindOfWord_40 = true := by decide +kernel
theorem dX9_kindOfWord_40 : decode cX9_kindOfWord 40 = .ok (.if_icmp .ge 17, 3) := dk_162 (dw rcX9_kindOfWord_40 0 rfl) rfl
theorem dX9_kindOfWord_43 : decode cX9_kindOfWord 43 = .ok (.aload_n 0, 1) := dk_42 (dw rcX9_kindOfWord_40 1 rfl)
theorem dX9_kindOfWord_44 : decode cX9_kindOfWord 44 = .ok (.getfield 15, 3) := dk_180 (dw rcX9_kindOfWord_40 2 rfl) rfl
theorem dX9_kindOfWord_47 : decode cX9_kindOfWord 47 = .ok (.aload_n 0, 1) := dk_42 (dw rcX9_kindOfWord_40 3 rfl)
theorem dX9_kindOfWord_48 : decode cX9_kindOfWord 48 = .ok (.getfield 41, 3) := dk_180 (dw rcX9_kindOfWord_40 4 rfl) rfl
theorem dX9_kindOfWord_51 : decode cX9_kindOfWord 51 = .ok (.iload_n 2, 1) := dk_28 (dw rcX9_kindOfWord_40 5 rfl)
theorem dX9_kindOfWord_52 : decode cX9_kindOfWord 52 = .ok (.iadd, 1) := dk_96 (dw rcX9_kindOfWord_40 6 rfl)
theorem dX9_kindOfWord_53 : decode cX9_kindOfWord 53 = .ok (.baload, 1) := dk_51 (dw rcX9_kindOfWord_40 7 rfl)
theorem dX9_kindOfWord_54 : decode cX9_kindOfWord 54 = .ok (.goto 5, 3) := dk_167 (dw rcX9_kindOfWord_40 8 rfl) rfl
theorem dX9_kindOfWord_57 : decode cX9_kindOfWord 57 = .ok (.bipush 32, 2) := dk_16 (dw rcX9_kindOfWord_40 9 rfl) rfl
theorem dX9_kindOfWord_59 : decode cX9_kindOfWord 59 = .ok (.if_icmp .ne 9, 3) := dk_160 (dw rcX9_kindOfWord_40 10 rfl) rfl
theorem dX9_kindOfWord_62 : decode cX9_kindOfWord 62 = .ok (.iinc 2 1, 3) := dk_132 (dw rcX9_kindOfWord_40 11 rfl) rfl
theorem dX9_kindOfWord_65 : decode cX9_kindOfWord 65 = .ok (.goto (-49), 3) := dk_167 (dw rcX9_kindOfWord_40 12 rfl) rfl
theorem dX9_kindOfWord_68 : decode cX9_kindOfWord 68 = .ok (.iload_n 2, 1) := dk_28 (dw rcX9_kindOfWord_40 13 rfl)
theorem dX9_kindOfWord_69 : decode cX9_kindOfWord 69 = .ok (.bipush 8, 2) := dk_16 (dw rcX9_kindOfWord_40 14 rfl) rfl
theorem dX9_kindOfWord_71 : decode cX9_kindOfWord 71 = .ok (.if_icmp .ne 12, 3) := dk_160 (dw rcX9_kindOfWord_40 15 rfl) rfl
theorem dX9_kindOfWord_74 : decode cX9_kindOfWord 74 = .ok (.sipush 128, 3) := dk_17 (dw rcX9_kindOfWord_40 16 rfl) rfl
theorem dX9_kindOfWord_77 : decode cX9_kindOfWord 77 = .ok (.iload_n 1, 1) := dk_27 (dw rcX9_kindOfWord_40 17 rfl)
theorem dX9_kindOfWord_78 : decode cX9_kindOfWord 78 = .ok (.bipush 8, 2) := dk_16 (dw rcX9_kindOfWord_40 18 rfl) rfl
theorem dX9_kindOfWord_80 : decode cX9_kindOfWord 80 = .ok (.idiv, 1) := dk_108 (dw rcX9_kindOfWord_40 19 rfl)
theorem dX9_kindOfWord_81 : decode cX9_kindOfWord 81 = .ok (.iadd, 1) := dk_96 (dw rcX9_kindOfWord_40 20 rfl)
theorem dX9_kindOfWord_82 : decode cX9_kindOfWord 82 = .ok (.ireturn, 1) := dk_172 (dw rcX9_kindOfWord_40 21 rfl)
theorem dX9_kindOfWord_83 : decode cX9_kindOfWord 83 = .ok (.iinc 1 8, 3) := dk_132 (dw rcX9_kindOfWord_40 22 rfl) rfl
theorem dX9_kindOfWord_86 : decode cX9_kindOfWord 86 = .ok (.goto (-84), 3) := dk_167 (dw rcX9_kindOfWord_40 23 rfl) rfl
noncomputable def rbX9_kindOfWord_89 : List (Nat × List Nat) := [(89, [17, 0, 200]), (92, [172])]
theorem rcX9_kindOfWord_89 : dgo (lb cX9_kindOfWord) 0 rbX9_kindOfWord_89 = true := by decide +kernel
theorem dX9_kindOfWord_89 : decode cX9_kindOfWord 89 = .ok (.sipush 200, 3) := dk_17 (dw rcX9_kindOfWord_89 0 rfl) rfl
theorem dX9_kindOfWord_92 : decode cX9_kindOfWord 92 = .ok (.ireturn, 1) := dk_172 (dw rcX9_kindOfWord_89 1 rfl)
noncomputable def rbX9_open_0 : List (Nat × List Nat) := [(0, [42]), (1, [27]), (2, [42]), (3, [180, 0, 15]), (6, [190]), (7, [184, 0, 19]), (10, [181, 0, 25]), (13, [42]), (14, [3]), (15, [181, 0, 28]), (18, [42]), (19, [3]), (20, [181, 0, 31]), (23, [42]), (24, [2]), (25, [181, 0, 9]), (28, [42]), (29, [182, 0, 34]), (32, [87]), (33, [177])]
theorem rcX9_open_0 : dgo (lb cX9_open) 0 rbX9_open_0 = true := by decide +kernel
theorem dX9_open_0 : decode cX9_open 0 = .ok (.aload_n 0, 1) := dk_42 (dw rcX9_open_0 0 rfl)
theorem dX9_open_1 : decode cX9_open 1 = .ok (.iload_n 1, 1) := dk_27 (dw rcX9_open_0 1 rfl)
theorem dX9_open_2 : decode cX9_open 2 = .ok (.aload_n 0, 1) := dk_42 (dw rcX9_open_0 2 rfl)
theorem dX9_open_3 : decode cX9_open 3 = .ok (.getfield 15, 3) := dk_180 (dw rcX9_open_0 3 rfl) rfl
theorem dX9_open_6 : decode cX9_open 6 = .ok (.arraylength, 1) := dk_190 (dw rcX9_open_0 4 rfl)
theorem dX9_open_7 : decode cX9_open 7 = .ok (.invokestatic 19, 3) := dk_184 (dw rcX9_open_0 5 rfl) rfl
theorem dX9_open_10 : decode cX9_open 10 = .ok (.putfield 25, 3) := dk_181 (dw rcX9_open_0 6 rfl) rfl
theorem dX9_open_13 : decode cX9_open 13 = .ok (.aload_n 0, 1) := dk_42 (dw rcX9_open_0 7 rfl)
theorem dX9_open_14 : decode cX9_open 14 = .ok (.iconst 0, 1) := dk_3 (dw rcX9_open_0 8 rfl)
theorem dX9_open_15 : decode cX9_open 15 = .ok (.putfield 28, 3) := dk_181 (dw rcX9_open_0 9 rfl) rfl
theorem dX9_open_18 : decode cX9_open 18 = .ok (.aload_n 0, 1) := dk_42 (dw rcX9_open_0 10 rfl)
theorem dX9_open_19 : decode cX9_open 19 = .ok (.iconst 0, 1) := dk_3 (dw rcX9_open_0 11 rfl)
theorem dX9_open_20 : decode cX9_open 20 = .ok (.putfield 31, 3) := dk_181 (dw rcX9_open_0 12 rfl) rfl
theorem dX9_open_23 : decode cX9_open 23 = .ok (.aload_n 0, 1) := dk_42 (dw rcX9_open_0 13 rfl)
theorem dX9_open_24 : decode cX9_open 24 = .ok (.iconst (-1), 1) := dk_2 (dw rcX9_open_0 14 rfl)
theorem dX9_open_25 : decode cX9_open 25 = .ok (.putfield 9, 3) := dk_181 (dw rcX9_open_0 15 rfl) rfl
theorem dX9_open_28 : decode cX9_open 28 = .ok (.aload_n 0, 1) := dk_42 (dw rcX9_open_0 16 rfl)
theorem dX9_open_29 : decode cX9_open 29 = .ok (.invokevirtual 34, 3) := dk_182 (dw rcX9_open_0 17 rfl) rfl
theorem dX9_open_32 : decode cX9_open 32 = .ok (.pop, 1) := dk_87 (dw rcX9_open_0 18 rfl)
theorem dX9_open_33 : decode cX9_open 33 = .ok (.return_, 1) := dk_177 (dw rcX9_open_0 19 rfl)
noncomputable def rbX9_pass_0 : List (Nat × List Nat) := [(0, [42]), (1, [180, 0, 38]), (4, [27]), (5, [160, 0, 10]), (8, [42]), (9, [182, 0, 34]), (12, [167, 0, 8]), (15, [42]), (16, [5]), (17, [182, 0, 44]), (20, [172])]
theorem rcX9_pass_0 : dgo (lb cX9_pass) 0 rbX9_pass_0 = true := by decide +kernel
theorem dX9_pass_0 : decode cX9_pass 0 = .ok (.aload_n 0, 1) := dk_42 (dw rcX9_pass_0 0 rfl)
theorem dX9_pass_1 : decode cX9_pass 1 = .ok (.getfield 38, 3) := dk_180 (dw rcX9_pass_0 1 rfl) rfl
theorem dX9_pass_4 : decode cX9_pass 4 = .ok (.iload_n 1, 1) := dk_27 (dw rcX9_pass_0 2 rfl)
theorem dX9_pass_5 : decode cX9_pass 5 = .ok (.if_icmp .ne 10, 3) := dk_160 (dw rcX9_pass_0 3 rfl) rfl
theorem dX9_pass_8 : decode cX9_pass 8 = .ok (.aload_n 0, 1) := dk_42 (dw rcX9_pass_0 4 rfl)
theorem dX9_pass_9 : decode cX9_pass 9 = .ok (.invokevirtual 34, 3) := dk_182 (dw rcX9_pass_0 5 rfl) rfl
theorem dX9_pass_12 : decode cX9_pass 12 = .ok (.goto 8, 3) := dk_167 (dw rcX9_pass_0 6 rfl) rfl
theorem dX9_pass_15 : decode cX9_pass 15 = .ok (.aload_n 0, 1) := dk_42 (dw rcX9_pass_0 7 rfl)
theorem dX9_pass_16 : decode cX9_pass 16 = .ok (.iconst 2, 1) := dk_5 (dw rcX9_pass_0 8 rfl)
theorem dX9_pass_17 : decode cX9_pass 17 = .ok (.invokevirtual 44, 3) := dk_182 (dw rcX9_pass_0 9 rfl) rfl
theorem dX9_pass_20 : decode cX9_pass 20 = .ok (.ireturn, 1) := dk_172 (dw rcX9_pass_0 10 rfl)
set_option maxHeartbeats 4000000 in
set_option maxRecDepth 100000 in
theorem k_tKind (l : Launch) (D : va_G) (k : KT) (A : Nat → Prop) (a : Nat → Nat) (z : SK) (G : GS)   : Met l yX9_kindOfWord (WS yX9_kindOfWord cX9_kindOfWord 3 (some .int)) ({ frames := 4, cells := 0, slots := 0, locals := 85 }) (va_Pc [.ref (a 3)] (cW D k A a z G)) (va_Qi (fun (r : Int32) (G1 : GS) => P_tKind G r G1) (fun (G1 : GS) t => Wd D k A a G1 t.heap) A) 0 0 A := by
  refine Met.ofW (cc := cX9_kindOfWord) (maxL := 3) (ret := (some .int)) (by decide) rfl ?_
  intro p e s m args below meth c s₁ B hml hv
  obtain ⟨rfl, hW, hB_G, hK, hZ⟩ := hv
  have hx := B.exec
  have hb := B.bytes
  have hr := B.returns
  have hts := atoms_spec (ws := WS yX9_kindOfWord cX9_kindOfWord 3 (some .int)) B.pre
  have hgd : ∀ w ∈ gd, w ∈ WS yX9_kindOfWord cX9_kindOfWord 3 (some .int) := fun w h => List.mem_cons_of_mem _ h
  have hg : ∀ w ∈ gd, w.before _ s = true := fun w h => hts w (hgd w h)
  have hown : s.vm.findClass RX9 = some m.cls := findClass_of_methodNamed B.named
  have hS : va_S A s.heap s.heap [] := va_S.rf
  have hF : Fr [] [] G G := Fr.rf
  have hl := lv_entry ([.ref (a 3)]) (n := 3) (Nat.le_of_ble_eq_true rfl)
  rw [lg_entry_eq]
  generalize (lg_sl ([.ref (a 3)]) ++ List.replicate (3 - (lg_sl ([.ref (a 3)])).length) Slot.unset).toArray = ls at hl ⊢
  have hl : lv_has ls 3 [(0, .ref (a 3))] := hl
  refine ic_0 hx hb dX9_kindOfWord_0 ?_
  refine lv_istore_n (lv' := [(1, .int 0), (0, .ref (a 3))]) hx hb dX9_kindOfWord_1 rfl hl (lt_b rfl) rfl (fun ls hl => ?_)
  have qc_7 : (0 : Int32).toInt = 0 := rfl
  refine loop_N (Inv := fun n H locs ls => ∃ (G_1 : GS) (x_5 : Int32), (n : Int) = 184 - x_5.toInt ∧ (0 ≤ x_5.toInt ∧ x_5.toInt ≤ 184) ∧ Rc (St_k_tKind_1 G) (0, G) (x_5, G_1) ∧ Wd D k A a G_1 H ∧ Bd G_1 ∧ Fr [] [] G G_1 ∧ Fr [] [] G G_1 ∧ va_S A s.heap H locs ∧ lv_has ls 3 [(1, .int x_5), (0, .ref (a 3))]) (fun n_4 H locs ls ih_3 hI => ?_) (184 - 0 : Int).toNat ⟨G, 0, (Int.toNat_of_nonneg ((by decide))), ⟨(by decide), (by decide)⟩, Rc.rf, hW, hB_G, hF, Fr.rf, hS, lv_sub hl [0, 1] rfl⟩
  obtain ⟨G_1, x_5, hn_9, f_8, hX_6, hW, hB_G_1, hF, hq_2, hS, hl⟩ := hI
  refine lv_iload_n hx hb dX9_kindOfWord_2 rfl (lv_at hl 0 rfl) ?_
  refine lv_bipush (v := 8) hx hb dX9_kindOfWord_3 (by decide) ?_
  refine lv_iadd hx hb dX9_kindOfWord_5 ?_
  refine lv_topi (fun y_10 ey_10 => ?_)
  have ty_10 : y_10.toInt = x_5.toInt + 8 := xI_add rfl rfl ey_10 ((by first | exact ok_97 f_8.1 | omega)) ((by first | exact ok_98 f_8.2 | omega))
  refine va_ldcS hx hb hown hZ.2.1 dX9_kindOfWord_6 ?_
  refine S_calli (va_runV (As := []) (rest := [.int y_10]) ⟨hx, hb, hml, hown, hts⟩ (k_jLen_0 l D k A a z G_1  ) (cwV 0 hts (gd_V hgd m655 m656 m657 m133 m658) rfl rfl rfl hd_J0_length_8abf5 ⟨Nat.le_of_ble_eq_true rfl, Nat.le_of_ble_eq_true rfl⟩) (pre_VS hW hB_G_1 hK hZ hS 0 (by decide)) rfl rfl hl.1 rfl (lv_room (Nat.le_of_ble_eq_true rfl)) dX9_kindOfWord_8 ⟨Nat.le_of_ble_eq_true rfl, Nat.le_of_ble_eq_true rfl⟩) hS (fun r_11 G_12 H locs hpo hW hS => ?_)
  have hX_15 : P_jLen_0 G_1 r_11 G_12 := hpo
  obtain ⟨hB_G_12, hq_13, f_16, -⟩ := hpo
  have hF := hF.call9 hq_13 rfl rfl
  refine lv_icmp_gt (tgt := 89) hx hb dX9_kindOfWord_11 rfl (fun c_17 => ?_) (fun c_17 => ?_)
  · have c_17 : r_11.toInt < y_10.toInt := xI_lt rfl rfl c_17
    refine lv_sipush (v := 200) hx hb dX9_kindOfWord_89 (by decide) ?_
    exact W.iret (v := 200) hx hb hr (fun t ht _ => ⟨⟨200, G_12, rfl, (P_tKind_mk ⟨hB_G_12, hF, ⟨by decide, by decide⟩, ⟨x_5, G_1, hX_6, f_8, hB_G_1, hq_2, ⟨y_10, ty_10, ⟨r_11, G_12, hX_15, (Or.inl ⟨c_17, ⟨rfl, rfl⟩⟩)⟩⟩⟩⟩), wd_t ht hW⟩, hS.F ht⟩) hS.2.2 dX9_kindOfWord_92
  · have c_17 : y_10.toInt ≤ r_11.toInt := xI_nlt rfl rfl c_17
    refine ic_0 hx hb dX9_kindOfWord_14 ?_
    refine lv_istore_n (lv' := [(2, .int 0), (1, .int x_5), (0, .ref (a 3))]) hx hb dX9_kindOfWord_15 rfl hl (lt_b rfl) rfl (fun ls hl => ?_)
    have qc_24 : (0 : Int32).toInt = 0 := rfl
    refine loop_N (Inv := fun n H locs ls => ∃ (G_18 : GS) (x_22 : Int32), (n : Int) = 8 - x_22.toInt ∧ (0 ≤ x_22.toInt ∧ x_22.toInt ≤ 8) ∧ Rc (St_k_tKind_2 x_5 G) (0, G_12) (x_22, G_18) ∧ Wd D k A a G_18 H ∧ Bd G_18 ∧ Fr [] [] G G_18 ∧ Fr [] [] G_12 G_18 ∧ va_S A s.heap H locs ∧ lv_has ls 3 [(2, .int x_22), (1, .int x_5), (0, .ref (a 3))]) (fun n_21 H locs ls ih_20 hI => ?_) (8 - 0 : Int).toNat ⟨G_12, 0, (Int.toNat_of_nonneg ((by decide))), ⟨(by decide), (by decide)⟩, Rc.rf, hW, hB_G_12, hF, Fr.rf, hS, lv_sub hl [0, 1, 2] rfl⟩
    obtain ⟨G_18, x_22, hn_26, f_25, hX_23, hW, hB_G_18, hF, hq_19, hS, hl⟩ := hI
    refine lv_iload_n hx hb dX9_kindOfWord_16 rfl (lv_at hl 0 rfl) ?_
    refine lv_bipush (v := 8) hx hb dX9_kindOfWord_17 (by decide) ?_
    refine lv_icmp_ge (tgt := 68) hx hb dX9_kindOfWord_19 rfl (fun c_27 => ?_) (fun c_27 => ?_)
    · have c_27 : 8 ≤ x_22.toInt := xI_le rfl rfl c_27
      refine lv_iload_n hx hb dX9_kindOfWord_68 rfl (lv_at hl 0 rfl) ?_
      refine lv_bipush (v := 8) hx hb dX9_kindOfWord_69 (by decide) ?_
      refine lv_icmp_ne (tgt := 83) hx hb dX9_kindOfWord_71 rfl (fun c_28 => ?_) (fun c_28 => ?_)
      · have c_28 : x_22.toInt ≠ 8 := xI_ne rfl rfl c_28
        exfalso; first | exact ok_99 f_25.2 c_27 c_28 | omega
      · have c_28 : x_22.toInt = 8 := xI_eq rfl rfl c_28
        refine lv_sipush (v := 128) hx hb dX9_kindOfWord_74 (by decide) ?_
        refine lv_iload_n hx hb dX9_kindOfWord_77 rfl (lv_at hl 1 rfl) ?_
        refine lv_bipush (v := 8) hx hb dX9_kindOfWord_78 (by decide) ?_
        refine lv_idiv hx hb dX9_kindOfWord_80 (by decide) ?_
        refine lv_topi (fun y_29 ey_29 => ?_)
        have ty_29 : y_29.toInt = x_5.toInt / 8 := xI_div rfl ey_29 (by decide) ((by first | exact f_8.1 | omega))
        refine lv_iadd hx hb dX9_kindOfWord_81 ?_
        refine lv_topi (fun y_30 ey_30 => ?_)
        have ty_30 : y_30.toInt = 128 + y_29.toInt := xI_add rfl rfl ey_30 ((by first | exact ok_100 f_8.1 ty_29 | omega)) ((by first | exact ok_101 f_8.2 ty_29 | omega))
        exact W.iret (v := y_30) hx hb hr (fun t ht _ => ⟨⟨y_30, G_18, rfl, (P_tKind_mk ⟨hB_G_18, hF, ⟨(by first | exact ok_102 f_8.1 ty_29 ty_30 | omega), (by first | exact ok_103 f_8.2 ty_29 ty_30 | omega)⟩, ⟨x_5, G_1, hX_6, f_8, hB_G_1, hq_2, ⟨y_10, ty_10, ⟨r_11, G_12, hX_15, (Or.inr ⟨c_17, ⟨x_22, G_18, hX_23, f_25, hB_G_18, hq_19, ⟨c_27, ⟨y_29, ty_29, ⟨y_30, ty_30, ⟨rfl, rfl⟩⟩⟩⟩⟩⟩)⟩⟩⟩⟩), wd_t ht hW⟩, hS.F ht⟩) hS.2.2 dX9_kindOfWord_82
    · have c_27 : x_22.toInt < 8 := xI_nle rfl rfl c_27
      refine va_ldcS hx hb hown hZ.2.1 dX9_kindOfWord_22 ?_
      refine lv_iload_n hx hb dX9_kindOfWord_24 rfl (lv_at hl 1 rfl) ?_
      refine lv_iload_n hx hb dX9_kindOfWord_25 rfl (lv_at hl 0 rfl) ?_
      refine lv_iadd hx hb dX9_kindOfWord_26 ?_
      refine lv_topi (fun y_31 ey_31 => ?_)
      have ty_31 : y_31.toInt = x_5.toInt + x_22.toInt := xI_add rfl rfl ey_31 ((by first | exact ok_15 f_8.1 f_25.1 | omega)) ((by first | exact ok_104 f_8.2 c_27 | omega))
      refine S_calli (va_runV (As := [.int y_31]) (rest := []) ⟨hx, hb, hml, hown, hts⟩ (k_jCharAt_0 l D k A a z G_18 y_31 ⟨(by first | exact ok_105 f_8.1 f_25.1 ty_31 | omega), (by first | exact ok_106 f_8.2 ty_10 f_16.2 c_17 c_27 ty_31 | omega)⟩) (cwV 1 hts (gd_V hgd m665 m666 m667 m133 m668) rfl rfl rfl hd_J0_charAt_5068e ⟨Nat.le_of_ble_eq_true rfl, Nat.le_of_ble_eq_true rfl⟩) (pre_VS hW hB_G_18 hK hZ hS 0 (by decide)) rfl rfl hl.1 rfl (lv_room (Nat.le_of_ble_eq_true rfl)) dX9_kindOfWord_27 ⟨Nat.le_of_ble_eq_true rfl, Nat.le_of_ble_eq_true rfl⟩) hS (fun r_32 G_33 H locs hpo hW hS => ?_)
      have hX_36 : P_jCharAt_0 y_31 G_18 r_32 G_33 := hpo
      obtain ⟨hB_G_33, hq_34, f_37, -⟩ := hpo
      have hF := hF.call9 hq_34 rfl rfl
      refine lv_aload_n hx hb dX9_kindOfWord_30 rfl (lv_at hl 2 rfl) ?_
      have b_38 : 0 ≤ (G.1 3 4).toInt ∧ (G.1 3 4).toInt ≤ 1600 := bd_3_4 hB_G
      refine S_getI (v := (G.1 3 4)) (C := RX9) (T := TX9) (N := 9) hx hb hg iX9 hown hK hW kd_3 rfl 4 (lt_b rfl) (hg (Cond.fieldLink RX9 41 "SlabWalk$Tokens" "place" "I") m264) (fun _ h9 => h9) rfl ((hq_34.i9 3 4 rfl rfl).trans ((hq_19.i9 3 4 rfl rfl).trans ((hq_13.i9 3 4 rfl rfl).trans (hq_2.i9 3 4 rfl rfl)))) dX9_kindOfWord_31 ?_
      refine lv_iload_n hx hb dX9_kindOfWord_34 rfl (lv_at hl 0 rfl) ?_
      refine lv_iadd hx hb dX9_kindOfWord_35 ?_
      refine lv_topi (fun y_39 ey_39 => ?_)
      have ty_39 : y_39.toInt = (G.1 3 4).toInt + x_22.toInt := xI_add rfl rfl ey_39 ((by first | exact ok_27 f_25.1 b_38.1 | omega)) ((by first | exact ok_107 f_25.2 b_38.2 | omega))
      refine lv_aload_n hx hb dX9_kindOfWord_36 rfl (lv_at hl 2 rfl) ?_
      have b_40 : 0 ≤ (G.1 3 2).toInt ∧ (G.1 3 2).toInt ≤ 1600 := bd_3_2 hB_G
      refine S_getI (v := (G.1 3 2)) (C := RX9) (T := TX9) (N := 9) hx hb hg iX9 hown hK hW kd_3 rfl 2 (lt_b rfl) (hg (Cond.fieldLink RX9 28 "SlabWalk$Tokens" "at" "I") m260) (fun _ h9 => h9) rfl ((hq_34.i9 3 2 rfl rfl).trans ((hq_19.i9 3 2 rfl rfl).trans ((hq_13.i9 3 2 rfl rfl).trans (hq_2.i9 3 2 rfl rfl)))) dX9_kindOfWord_37 ?_
      refine lv_icmp_ge (tgt := 57) hx hb dX9_kindOfWord_40 rfl (fun c_41 => ?_) (fun c_41 => ?_)
      · have c_41 : (G.1 3 2).toInt ≤ y_39.toInt := xI_le rfl rfl c_41
        refine lv_bipush (v := 32) hx hb dX9_kindOfWord_57 (by decide) ?_
        refine lv_icmp_ne (tgt := 68) hx hb dX9_kindOfWord_59 rfl (fun c_42 => ?_) (fun c_42 => ?_)
        · have c_42 : r_32.toInt ≠ 32 := xI_ne rfl rfl c_42
          refine lv_iload_n hx hb dX9_kindOfWord_68 rfl (lv_at hl 0 rfl) ?_
          refine lv_bipush (v := 8) hx hb dX9_kindOfWord_69 (by decide) ?_
          refine lv_icmp_ne (tgt := 83) hx hb dX9_kindOfWord_71 rfl (fun c_43 => ?_) (fun c_43 => ?_)
          · have c_43 : x_22.toInt ≠ 8 := xI_ne rfl rfl c_43
            obtain ⟨y_44, ey_44⟩ : ∃ q, q = x_5 + 8 := ⟨_, rfl⟩
            have ty_44 : y_44.toInt = x_5.toInt + 8 := xI_add rfl rfl ey_44 ((by first | exact ok_97 f_8.1 | omega)) ((by first | exact ok_98 f_8.2 | omega))
            refine lv_iinc (v := y_44) (lv' := [(1, .int y_44), (2, .int x_22), (0, .ref (a 3))]) hx hb dX9_kindOfWord_83 hl (k := 1) rfl (by rw [ey_44]; rfl) (lt_b rfl) rfl (fun ls hl => ?_)
            refine lv_goto (tgt := 2) hx hb dX9_kindOfWord_86 rfl ?_
            exact ih_3 (184 - y_44.toInt : Int).toNat (by omega) _ _ _ ⟨G_33, y_44, (Int.toNat_of_nonneg ((by first | exact ok_108 f_8.2 ty_10 f_16.2 c_17 ty_44 | omega))), ⟨(by first | exact ok_109 f_8.1 ty_44 | omega), (by first | exact ok_110 f_8.2 ty_10 f_16.2 c_17 ty_44 | omega)⟩, (hX_6.st (St_k_tKind_1_mk ⟨x_5, G_1, y_44, G_33, rfl, rfl, f_8, hB_G_1, ⟨y_10, ty_10, ⟨r_11, G_12, hX_15, ⟨c_17, ⟨x_22, G_18, hX_23, f_25, hB_G_18, hq_19, ⟨c_27, ⟨y_31, ty_31, ⟨r_32, G_33, hX_36, ⟨y_39, ty_39, (Or.inl ⟨c_41, ⟨c_42, ⟨y_44, ty_44, ⟨rfl, rfl⟩⟩⟩⟩)⟩⟩⟩⟩⟩⟩⟩⟩⟩)), hW, hB_G_33, hF, (Fr.call9 (rs := []) (fs := []) (Fr.call9 (rs := []) (fs := []) (Fr.call9 (rs := []) (fs := []) (Fr.call9 (rs := []) (fs := []) Fr.rf hq_2 rfl rfl) hq_13 rfl rfl) hq_19 rfl rfl) hq_34 rfl rfl), hS, lv_sub hl [0, 2] rfl⟩
          · have c_43 : x_22.toInt = 8 := xI_eq rfl rfl c_43
            exfalso; first | exact ok_111 c_27 c_43 | omega
        · have c_42 : r_32.toInt = 32 := xI_eq rfl rfl c_42
          obtain ⟨y_45, ey_45⟩ : ∃ q, q = x_22 + 1 := ⟨_, rfl⟩
          have ty_45 : y_45.toInt = x_22.toInt + 1 := xI_add rfl rfl ey_45 ((by first | exact ok_21 f_25.1 | omega)) ((by first | exact ok_112 f_25.2 | omega))
          refine lv_iinc (v := y_45) (lv' := [(2, .int y_45), (1, .int x_5), (0, .ref (a 3))]) hx hb dX9_kindOfWord_62 hl (k := 0) rfl (by rw [ey_45]; rfl) (lt_b rfl) rfl (fun ls hl => ?_)
          refine lv_goto (tgt := 16) hx hb dX9_kindOfWord_65 rfl ?_
          exact ih_20 (8 - y_45.toInt : Int).toNat (by omega) _ _ _ ⟨G_33, y_45, (Int.toNat_of_nonneg ((by first | exact ok_113 f_25.2 c_27 ty_45 | omega))), ⟨(by first | exact ok_23 f_25.1 ty_45 | omega), (by first | exact ok_114 f_25.2 c_27 ty_45 | omega)⟩, (hX_23.st (St_k_tKind_2_mk ⟨x_22, G_18, y_45, G_33, rfl, rfl, f_25, hB_G_18, ⟨c_27, ⟨y_31, ty_31, ⟨r_32, G_33, hX_36, ⟨y_39, ty_39, (Or.inl ⟨c_41, ⟨c_42, ⟨y_45, ty_45, ⟨rfl, rfl⟩⟩⟩⟩)⟩⟩⟩⟩⟩)), hW, hB_G_33, hF, (Fr.call9 (rs := []) (fs := []) (Fr.call9 (rs := []) (fs := []) Fr.rf hq_19 rfl rfl) hq_34 rfl rfl), hS, lv_sub hl [0, 1, 2] rfl⟩
      · have c_41 : y_39.toInt < (G.1 3 2).toInt := xI_nle rfl rfl c_41
        refine lv_aload_n hx hb dX9_kindOfWord_43 rfl (lv_at hl 2 rfl) ?_
        refine S_getR (n := 32) (C := RX9) (T := TX9) (N := 9) hx hb hg iX9 hown hK hW kd_3 rfl 0 (lt_b rfl) (hg (Cond.fieldLink RX9 15 "SlabWalk$Tokens" "text" "[B") m258) (fun _ h9 => h9) rfl dX9_kindOfWord_44 ?_
        refine lv_aload_n hx hb dX9_kindOfWord_47 rfl (lv_at hl 2 rfl) ?_
        refine S_getI (v := (G.1 3 4)) (C := RX9) (T := TX9) (N := 9) hx hb hg iX9 hown hK hW kd_3 rfl 4 (lt_b rfl) (hg (Cond.fieldLink RX9 41 "SlabWalk$Tokens" "place" "I") m264) (fun _ h9 => h9) rfl ((hq_34.i9 3 4 rfl rfl).trans ((hq_19.i9 3 4 rfl rfl).trans ((hq_13.i9 3 4 rfl rfl).trans ((hq_2.i9 3 4 rfl rfl).trans (rfl))))) dX9_kindOfWord_48 ?_
        refine lv_iload_n hx hb dX9_kindOfWord_51 rfl (lv_at hl 0 rfl) ?_
        refine lv_iadd hx hb dX9_kindOfWord_52 ?_
        refine lv_topi (fun y_46 ey_46 => ?_)
        have ty_46 : y_46.toInt = (G.1 3 4).toInt + x_22.toInt := xI_add rfl rfl ey_46 ((by first | exact ok_27 f_25.1 b_38.1 | omega)) ((by first | exact ok_115 c_27 b_38.2 | omega))
        refine S_bald hx hb hK hW kd_32 (vin ((by first | exact ok_116 f_25.1 b_38.1 ty_46 | omega)) ((by first | exact ok_117 c_27 b_38.2 ty_39 b_40.2 c_41 ty_46 | omega))) dX9_kindOfWord_53 (fun y_47 ey_47 => ?_)
        have ty_47 : (-128) ≤ y_47.toInt ∧ y_47.toInt ≤ 127 := bv_32 hB_G_33 ey_47
        refine lv_goto (tgt := 59) hx hb dX9_kindOfWord_54 rfl ?_
        refine lv_icmp_ne (tgt := 68) hx hb dX9_kindOfWord_59 rfl (fun c_48 => ?_) (fun c_48 => ?_)
        · have c_48 : r_32.toInt ≠ y_47.toInt := xI_ne rfl rfl c_48
          refine lv_iload_n hx hb dX9_kindOfWord_68 rfl (lv_at hl 0 rfl) ?_
          refine lv_bipush (v := 8) hx hb dX9_kindOfWord_69 (by decide) ?_
          refine lv_icmp_ne (tgt := 83) hx hb dX9_kindOfWord_71 rfl (fun c_49 => ?_) (fun c_49 => ?_)
          · have c_49 : x_22.toInt ≠ 8 := xI_ne rfl rfl c_49
            obtain ⟨y_50, ey_50⟩ : ∃ q, q = x_5 + 8 := ⟨_, rfl⟩
            have ty_50 : y_50.toInt = x_5.toInt + 8 := xI_add rfl rfl ey_50 ((by first | exact ok_97 f_8.1 | omega)) ((by first | exact ok_98 f_8.2 | omega))
            refine lv_iinc (v := y_50) (lv' := [(1, .int y_50), (2, .int x_22), (0, .ref (a 3))]) hx hb dX9_kindOfWord_83 hl (k := 1) rfl (by rw [ey_50]; rfl) (lt_b rfl) rfl (fun ls hl => ?_)
            refine lv_goto (tgt := 2) hx hb dX9_kindOfWord_86 rfl ?_
            exact ih_3 (184 - y_50.toInt : Int).toNat ((by first | (clear f_37 ty_47 c_48; omega) | omega)) _ _ _ ⟨G_33, y_50, (Int.toNat_of_nonneg ((by first | exact ok_108 f_8.2 ty_10 f_16.2 c_17 ty_50 | omega))), ⟨(by first | exact ok_109 f_8.1 ty_50 | omega), (by first | exact ok_110 f_8.2 ty_10 f_16.2 c_17 ty_50 | omega)⟩, (hX_6.st (St_k_tKind_1_mk ⟨x_5, G_1, y_50, G_33, rfl, rfl, f_8, hB_G_1, ⟨y_10, ty_10, ⟨r_11, G_12, hX_15, ⟨c_17, ⟨x_22, G_18, hX_23, f_25, hB_G_18, hq_19, ⟨c_27, ⟨y_31, ty_31, ⟨r_32, G_33, hX_36, ⟨y_39, ty_39, (Or.inr ⟨c_41, ⟨y_46, ty_46, ⟨y_47, ey_47, ⟨c_48, ⟨y_50, ty_50, ⟨rfl, rfl⟩⟩⟩⟩⟩⟩)⟩⟩⟩⟩⟩⟩⟩⟩⟩)), hW, hB_G_33, hF, (Fr.call9 (rs := []) (fs := []) (Fr.call9 (rs := []) (fs := []) (Fr.call9 (rs := []) (fs := []) (Fr.call9 (rs := []) (fs := []) Fr.rf hq_2 rfl rfl) hq_13 rfl rfl) hq_19 rfl rfl) hq_34 rfl rfl), hS, lv_sub hl [0, 2] rfl⟩
          · have c_49 : x_22.toInt = 8 := xI_eq rfl rfl c_49
            exfalso; first | exact ok_111 c_27 c_49 | omega
        · have c_48 : r_32.toInt = y_47.toInt := xI_eq rfl rfl c_48
          obtain ⟨y_51, ey_51⟩ : ∃ q, q = x_22 + 1 := ⟨_, rfl⟩
          have ty_51 : y_51.toInt = x_22.toInt + 1 := xI_add rfl rfl ey_51 ((by first | exact ok_21 f_25.1 | omega)) ((by first | exact ok_112 f_25.2 | omega))
          refine lv_iinc (v := y_51) (lv' := [(2, .int y_51), (1, .int x_5), (0, .ref (a 3))]) hx hb dX9_kindOfWord_62 hl (k := 0) rfl (by rw [ey_51]; rfl) (lt_b rfl) rfl (fun ls hl => ?_)
          refine lv_goto (tgt := 16) hx hb dX9_kindOfWord_65 rfl ?_
          exact ih_20 (8 - y_51.toInt : Int).toNat ((by first | (clear f_37 ty_47 c_48; omega) | omega)) _ _ _ ⟨G_33, y_51, (Int.toNat_of_nonneg ((by first | exact ok_113 f_25.2 c_27 ty_51 | omega))), ⟨(by first | exact ok_23 f_25.1 ty_51 | omega), (by first | exact ok_114 f_25.2 c_27 ty_51 | omega)⟩, (hX_23.st (St_k_tKind_2_mk ⟨x_22, G_18, y_51, G_33, rfl, rfl, f_25, hB_G_18, ⟨c_27, ⟨y_31, ty_31, ⟨r_32, G_33, hX_36, ⟨y_39, ty_39, (Or.inr ⟨c_41, ⟨y_46, ty_46, ⟨y_47, ey_47, ⟨c_48, ⟨y_51, ty_51, ⟨rfl, rfl⟩⟩⟩⟩⟩⟩)⟩⟩⟩⟩⟩)), hW, hB_G_33, hF, (Fr.call9 (rs := []) (fs := []) (Fr.call9 (rs := []) (fs := []) Fr.rf hq_19 rfl rfl) hq_34 rfl rfl), hS, lv_sub hl [0, 1, 2] rfl⟩

set_option maxHeartbeats 4000000 in
set_option maxRecDepth 100000 in
theorem k_tCutNumber (l : Launch) (D : va_G) (k : KT) (A : Nat → Prop) (a : Nat → Nat) (z : SK) (G : GS)   : Met l yX9_cutNumber (WS yX9_cutNumber cX9_cutNumber 1 none) ({ frames := 1, cells := 0, slots := 0, locals := 21 }) (va_Pc [.ref (a 3)] (cW D k A a z G)) (va_Qv (fun (G1 : GS) => P_tCutNumber G G1) (fun (G1 : GS) t => Wd D k A a G1 t.heap) A) 0 0 A := by
  refine Met.ofW (cc := cX9_cutNumber) (maxL := 1) (ret := none) (by decide) rfl ?_
  intro p e s m args below meth c s₁ B hml hv
  obtain ⟨rfl, hW, hB_G, hK, hZ⟩ := hv
  have hx := B.exec
  have hb := B.bytes
  have hr := B.returns
  have hts := atoms_spec (ws := WS yX9_cutNumber cX9_cutNumber 1 none) B.pre
  have hgd : ∀ w ∈ gd, w ∈ WS yX9_cutNumber cX9_cutNumber 1 none := fun w h => List.mem_cons_of_mem _ h
  have hg : ∀ w ∈ gd, w.before _ s = true := fun w h => hts w (hgd w h)
  have hown : s.vm.findClass RX9 = some m.cls := findClass_of_methodNamed B.named
  have hS : va_S A s.heap s.heap [] := va_S.rf
  have hF : Fr [] [(3, 2), (3, 3), (3, 5)] G G := Fr.rf
  have hl := lv_entry ([.ref (a 3)]) (n := 1) (Nat.le_of_ble_eq_true rfl)
  rw [lg_entry_eq]
  generalize (lg_sl ([.ref (a 3)]) ++ List.replicate (1 - (lg_sl ([.ref (a 3)])).length) Slot.unset).toArray = ls at hl ⊢
  have hl : lv_has ls 1 [(0, .ref (a 3))] := hl
  refine lv_aload_n hx hb dX9_cutNumber_0 rfl (lv_at hl 0 rfl) ?_
  refine ic_0 hx hb dX9_cutNumber_1 ?_
  refine S_putI (ty := .int) (C := RX9) (T := TX9) (N := 9) hx hb hg iX9 tyX9 tyX9_ok nmX9 hown hK hW hS kd_3 rfl 5 (lt_b rfl) (hg (Cond.fieldLink RX9 85 "SlabWalk$Tokens" "number" "I") m266) (fun _ h9 => h9) rfl (by decide +kernel) rfl rfl rfl dX9_cutNumber_2 (fun G_1 H locs eG_1 hW hS => ?_)
  have hB_G_1 : Bd G_1 := hB_G.put (lo := (-2147483648)) (hi := 2147483647) eG_1 rfl rfl rfl (tI_rng _).1 (tI_rng _).2 (hB_G.2.put eG_1 rfl)
  have hF := hF.put eG_1 (Or.inr (by decide))
  have b_7 : 0 ≤ (G.1 3 2).toInt ∧ (G.1 3 2).toInt ≤ 1600 := bd_3_2 hB_G
  have g_8 : (G_1.1 3 2).toInt = (G.1 3 2).toInt := (congrArg Int32.toInt (show G_1.1 3 2 = (G.1 3 2) from (gp_ne eG_1 (by decide))))
  refine loop_N (Inv := fun n H locs ls => ∃ (G_2 : GS), (n : Int) = 1600 - (G_2.1 3 2).toInt ∧ Rc (St_k_tCutNumber_1 G) G_1 G_2 ∧ Wd D k A a G_2 H ∧ Bd G_2 ∧ Fr [] [(3, 2), (3, 3), (3, 5)] G G_2 ∧ Fr [] [(3, 2), (3, 5)] G_1 G_2 ∧ va_S A s.heap H locs ∧ lv_has ls 1 [(0, .ref (a 3))]) (fun n_5 H locs ls ih_4 hI => ?_) (1600 - (G_1.1 3 2).toInt : Int).toNat ⟨G_1, (Int.toNat_of_nonneg ((by first | exact ok_118 b_7.2 g_8 | omega))), Rc.rf, hW, hB_G_1, hF, Fr.rf, hS, lv_sub hl [0] rfl⟩
  obtain ⟨G_2, hn_9, hX_6, hW, hB_G_2, hF, hq_3, hS, hl⟩ := hI
  refine lv_aload_n hx hb dX9_cutNumber_5 rfl (lv_at hl 0 rfl) ?_
  have b_10 : 0 ≤ (G_2.1 3 2).toInt ∧ (G_2.1 3 2).toInt ≤ 1600 := bd_3_2 hB_G_2
  refine S_getI (v := (G_2.1 3 2)) (C := RX9) (T := TX9) (N := 9) hx hb hg iX9 hown hK hW kd_3 rfl 2 (lt_b rfl) (hg (Cond.fieldLink RX9 28 "SlabWalk$Tokens" "at" "I") m260) (fun _ h9 => h9) rfl rfl dX9_cutNumber_6 ?_
  refine lv_aload_n hx hb dX9_cutNumber_9 rfl (lv_at hl 0 rfl) ?_
  have b_11 : 0 ≤ (G.1 3 1).toInt ∧ (G.1 3 1).toInt ≤ 1600 := bd_3_1 hB_G
  refine S_getI (v := (G.1 3 1)) (C := RX9) (T := TX9) (N := 9) hx hb hg iX9 hown hK hW kd_3 rfl 1 (lt_b rfl) (hg (Cond.fieldLink RX9 25 "SlabWalk$Tokens" "size" "I") m259) (fun _ h9 => h9) rfl ((hq_3.i9 3 1 rfl rfl).trans (gp_ne eG_1 (by decide))) dX9_cutNumber_10 ?_
  refine W.cut (σ := Unit) (pcJ := 64) (J := fun y H locs ls => ∃ (G_13 : GS), Jn_k_tCutNumber_2 G G_2 G_13 ∧ Wd D k A a G_13 H ∧ Bd G_13 ∧ Fr [] [(3, 2), (3, 3), (3, 5)] G G_13 ∧ Fr [] [] G_2 G_13 ∧ va_S A s.heap H locs ∧ lv_has ls 1 [(0, .ref (a 3))]) (stJ := fun _ => []) ?_ (fun hJ_14 => ?_)
  · intro y H locs ls hI
    obtain ⟨G_13, hX_16, hW, hB_G_13, hF, hq_15, hS, hl⟩ := hI
    refine lv_aload_n hx hb dX9_cutNumber_64 rfl (lv_at hl 0 rfl) ?_
    refine lv_aload_n hx hb dX9_cutNumber_65 rfl (lv_at hl 0 rfl) ?_
    refine S_getI (v := (G_2.1 3 2)) (C := RX9) (T := TX9) (N := 9) hx hb hg iX9 hown hK hW kd_3 rfl 2 (lt_b rfl) (hg (Cond.fieldLink RX9 28 "SlabWalk$Tokens" "at" "I") m260) (fun _ h9 => h9) rfl ((hq_15.i9 3 2 rfl rfl).trans (rfl)) dX9_cutNumber_66 ?_
    refine lv_aload_n hx hb dX9_cutNumber_69 rfl (lv_at hl 0 rfl) ?_
    have b_17 : 0 ≤ (G.1 3 4).toInt ∧ (G.1 3 4).toInt ≤ 1600 := bd_3_4 hB_G
    refine S_getI (v := (G.1 3 4)) (C := RX9) (T := TX9) (N := 9) hx hb hg iX9 hown hK hW kd_3 rfl 4 (lt_b rfl) (hg (Cond.fieldLink RX9 41 "SlabWalk$Tokens" "place" "I") m264) (fun _ h9 => h9) rfl ((hq_15.i9 3 4 rfl rfl).trans ((hq_3.i9 3 4 rfl rfl).trans (gp_ne eG_1 (by decide)))) dX9_cutNumber_70 ?_
    refine lv_isub hx hb dX9_cutNumber_73 ?_
    refine lv_topi (fun y_18 ey_18 => ?_)
    have ty_18 : y_18.toInt = (G_2.1 3 2).toInt - (G.1 3 4).toInt := xI_sub rfl rfl ey_18 ((by first | exact ok_119 b_10.1 b_17.2 | omega)) ((by first | exact ok_120 b_10.2 b_17.1 | omega))
    refine ic_4 hx hb dX9_cutNumber_74 ?_
    refine lv_icmp_gt (tgt := 89) hx hb dX9_cutNumber_75 rfl (fun c_19 => ?_) (fun c_19 => ?_)
    · have c_19 : 4 < y_18.toInt := xI_lt rfl rfl c_19
      refine lv_sipush (v := 202) hx hb dX9_cutNumber_89 (by decide) ?_
      refine lv_goto (tgt := 98) hx hb dX9_cutNumber_92 rfl ?_
      refine S_putI (ty := .int) (C := RX9) (T := TX9) (N := 9) hx hb hg iX9 tyX9 tyX9_ok nmX9 hown hK hW hS kd_3 rfl 3 (lt_b rfl) (hg (Cond.fieldLink RX9 38 "SlabWalk$Tokens" "kind" "I") m262) (fun _ h9 => h9) rfl (by decide +kernel) rfl rfl rfl dX9_cutNumber_98 (fun G_20 H locs eG_20 hW hS => ?_)
      have hB_G_20 : Bd G_20 := hB_G_13.put (lo := (-2147483648)) (hi := 2147483647) eG_20 rfl rfl rfl (tI_rng _).1 (tI_rng _).2 (hB_G_13.2.put eG_20 rfl)
      have hF := hF.put eG_20 (Or.inr (by decide))
      exact W.vret hx hb hr (fun t ht _ => ⟨⟨G_20, rfl, (P_tCutNumber_mk ⟨hB_G_20, hF, ⟨G_1, hB_G_1, (Fr.put (rs := []) (fs := [(3, 5)]) Fr.rf eG_1 (Or.inr (by decide))), (gp_eq eG_1), ⟨G_2, hX_6, hB_G_2, hq_3, ⟨G_13, hX_16, hB_G_13, hq_15, ⟨y_18, ty_18, (Or.inl ⟨c_19, ⟨(Fr.put (rs := []) (fs := [(3, 3)]) Fr.rf eG_20 (Or.inr (by decide))), (gp_eq eG_20)⟩⟩)⟩⟩⟩⟩⟩), wd_t ht hW⟩, hS.F ht⟩) hS.2.2 dX9_cutNumber_101
    · have c_19 : y_18.toInt ≤ 4 := xI_nlt rfl rfl c_19
      refine lv_aload_n hx hb dX9_cutNumber_78 rfl (lv_at hl 0 rfl) ?_
      refine lv_aload_n hx hb dX9_cutNumber_79 rfl (lv_at hl 0 rfl) ?_
      refine S_getI (v := (G_2.1 3 2)) (C := RX9) (T := TX9) (N := 9) hx hb hg iX9 hown hK hW kd_3 rfl 2 (lt_b rfl) (hg (Cond.fieldLink RX9 28 "SlabWalk$Tokens" "at" "I") m260) (fun _ h9 => h9) rfl ((hq_15.i9 3 2 rfl rfl).trans (rfl)) dX9_cutNumber_80 ?_
      refine S_calli (va_runV (As := [.int (G_2.1 3 2)]) (rest := [.ref (a 3)]) ⟨hx, hb, hml, hown, hts⟩ (k_tLetter l D k A a z G_13 (G_2.1 3 2) ((by first | exact b_10.1 | omega))) (cwV 1 hts (gd_V hgd m642 m644 m3 m120 m645) rfl rfl rfl hd_X9_isLetter ⟨Nat.le_of_ble_eq_true rfl, Nat.le_of_ble_eq_true rfl⟩) (pre_W hW hB_G_13 hK hZ hS kd_3 rfl) rfl rfl hl.1 rfl (lv_room (Nat.le_of_ble_eq_true rfl)) dX9_cutNumber_83 ⟨Nat.le_of_ble_eq_true rfl, Nat.le_of_ble_eq_true rfl⟩) hS (fun r_21 G_22 H locs hpo hW hS => ?_)
      have hX_25 : P_tLetter (G_2.1 3 2) G_13 r_21 G_22 := hpo
      obtain ⟨hB_G_22, hq_23, f_26, -⟩ := hpo
      have hF := hF.call9 hq_23 rfl rfl
      refine lv_if_eq (tgt := 95) hx hb dX9_cutNumber_86 rfl (fun c_27 => ?_) (fun c_27 => ?_)
      · have c_27 : r_21.toInt = 0 := xI_eq rfl rfl c_27
        refine lv_sipush (v := 201) hx hb dX9_cutNumber_95 (by decide) ?_
        refine S_putI (ty := .int) (C := RX9) (T := TX9) (N := 9) hx hb hg iX9 tyX9 tyX9_ok nmX9 hown hK hW hS kd_3 rfl 3 (lt_b rfl) (hg (Cond.fieldLink RX9 38 "SlabWalk$Tokens" "kind" "I") m262) (fun _ h9 => h9) rfl (by decide +kernel) rfl rfl rfl dX9_cutNumber_98 (fun G_28 H locs eG_28 hW hS => ?_)
        have hB_G_28 : Bd G_28 := hB_G_22.put (lo := (-2147483648)) (hi := 2147483647) eG_28 rfl rfl rfl (tI_rng _).1 (tI_rng _).2 (hB_G_22.2.put eG_28 rfl)
        have hF := hF.put eG_28 (Or.inr (by decide))
        exact W.vret hx hb hr (fun t ht _ => ⟨⟨G_28, rfl, (P_tCutNumber_mk ⟨hB_G_28, hF, ⟨G_1, hB_G_1, (Fr.put (rs := []) (fs := [(3, 5)]) Fr.rf eG_1 (Or.inr (by decide))), (gp_eq eG_1), ⟨G_2, hX_6, hB_G_2, hq_3, ⟨G_13, hX_16, hB_G_13, hq_15, ⟨y_18, ty_18, (Or.inr ⟨c_19, ⟨r_21, G_22, hX_25, (Or.inl ⟨c_27, ⟨(Fr.put (rs := []) (fs := [(3, 3)]) Fr.rf eG_28 (Or.inr (by decide))), (gp_eq eG_28)⟩⟩)⟩⟩)⟩⟩⟩⟩⟩), wd_t ht hW⟩, hS.F ht⟩) hS.2.2 dX9_cutNumber_101
      · have c_27 : r_21.toInt ≠ 0 := xI_ne rfl rfl c_27
        refine lv_sipush (v := 202) hx hb dX9_cutNumber_89 (by decide) ?_
        refine lv_goto (tgt := 98) hx hb dX9_cutNumber_92 rfl ?_
        refine S_putI (ty := .int) (C := RX9) (T := TX9) (N := 9) hx hb hg iX9 tyX9 tyX9_ok nmX9 hown hK hW hS kd_3 rfl 3 (lt_b rfl) (hg (Cond.fieldLink RX9 38 "SlabWalk$Tokens" "kind" "I") m262) (fun _ h9 => h9) rfl (by decide +kernel) rfl rfl rfl dX9_cutNumber_98 (fun G_29 H locs eG_29 hW hS => ?_)
        have hB_G_29 : Bd G_29 := hB_G_22.put (lo := (-2147483648)) (hi := 2147483647) eG_29 rfl rfl rfl (tI_rng _).1 (tI_rng _).2 (hB_G_22.2.put eG_29 rfl)
        have hF := hF.put eG_29 (Or.inr (by decide))
        exact W.vret hx hb hr (fun t ht _ => ⟨⟨G_29, rfl, (P_tCutNumber_mk ⟨hB_G_29, hF, ⟨G_1, hB_G_1, (Fr.put (rs := []) (fs := [(3, 5)]) Fr.rf eG_1 (Or.inr (by decide))), (gp_eq eG_1), ⟨G_2, hX_6, hB_G_2, hq_3, ⟨G_13, hX_16, hB_G_13, hq_15, ⟨y_18, ty_18, (Or.inr ⟨c_19, ⟨r_21, G_22, hX_25, (Or.inr ⟨c_27, ⟨(Fr.put (rs := []) (fs := [(3, 3)]) Fr.rf eG_29 (Or.inr (by decide))), (gp_eq eG_29)⟩⟩)⟩⟩)⟩⟩⟩⟩⟩), wd_t ht hW⟩, hS.F ht⟩) hS.2.2 dX9_cutNumber_101
  refine lv_icmp_ge (tgt := 64) hx hb dX9_cutNumber_13 rfl (fun c_30 => ?_) (fun c_30 => ?_)
  · have c_30 : (G.1 3 1).toInt ≤ (G_2.1 3 2).toInt := xI_le rfl rfl c_30
    exact hJ_14 () _ _ _ ⟨G_2, (Jn_k_tCutNumber_2_mk (Or.inl ⟨c_30, rfl⟩)), hW, hB_G_2, hF, (Fr.rf (rs := []) (fs := [])), hS, lv_sub hl [0] rfl⟩
  · have c_30 : (G_2.1 3 2).toInt < (G.1 3 1).toInt := xI_nle rfl rfl c_30
    refine lv_aload_n hx hb dX9_cutNumber_16 rfl (lv_at hl 0 rfl) ?_
    refine lv_aload_n hx hb dX9_cutNumber_17 rfl (lv_at hl 0 rfl) ?_
    refine S_getI (v := (G_2.1 3 2)) (C := RX9) (T := TX9) (N := 9) hx hb hg iX9 hown hK hW kd_3 rfl 2 (lt_b rfl) (hg (Cond.fieldLink RX9 28 "SlabWalk$Tokens" "at" "I") m260) (fun _ h9 => h9) rfl rfl dX9_cutNumber_18 ?_
    refine S_calli (va_runV (As := [.int (G_2.1 3 2)]) (rest := []) ⟨hx, hb, hml, hown, hts⟩ (k_tDigit l D k A a z G_2 (G_2.1 3 2) ((by first | exact b_10.1 | omega))) (cwV 1 hts (gd_V hgd m703 m705 m6 m120 m706) rfl rfl rfl hd_X9_isDigit ⟨Nat.le_of_ble_eq_true rfl, Nat.le_of_ble_eq_true rfl⟩) (pre_W hW hB_G_2 hK hZ hS kd_3 rfl) rfl rfl hl.1 rfl (lv_room (Nat.le_of_ble_eq_true rfl)) dX9_cutNumber_21 ⟨Nat.le_of_ble_eq_true rfl, Nat.le_of_ble_eq_true rfl⟩) hS (fun r_31 G_32 H locs hpo hW hS => ?_)
    have hX_35 : P_tDigit (G_2.1 3 2) G_2 r_31 G_32 := hpo
    obtain ⟨hB_G_32, hq_33, f_36, -⟩ := hpo
    have hF := hF.call9 hq_33 rfl rfl
    refine lv_if_eq (tgt := 64) hx hb dX9_cutNumber_24 rfl (fun c_37 => ?_) (fun c_37 => ?_)
    · have c_37 : r_31.toInt = 0 := xI_eq rfl rfl c_37
      exact hJ_14 () _ _ _ ⟨G_32, (Jn_k_tCutNumber_2_mk (Or.inr ⟨c_30, ⟨r_31, G_32, hX_35, ⟨c_37, rfl⟩⟩⟩)), hW, hB_G_32, hF, (Fr.call9 (rs := []) (fs := []) Fr.rf hq_33 rfl rfl), hS, lv_sub hl [0] rfl⟩
    · have c_37 : r_31.toInt ≠ 0 := xI_ne rfl rfl c_37
      refine lv_aload_n hx hb dX9_cutNumber_27 rfl (lv_at hl 0 rfl) ?_
      refine lv_aload_n hx hb dX9_cutNumber_28 rfl (lv_at hl 0 rfl) ?_
      refine S_getI (v := (G_2.1 3 5)) (C := RX9) (T := TX9) (N := 9) hx hb hg iX9 hown hK hW kd_3 rfl 5 (lt_b rfl) (hg (Cond.fieldLink RX9 85 "SlabWalk$Tokens" "number" "I") m266) (fun _ h9 => h9) rfl (hq_33.i9 3 5 rfl rfl) dX9_cutNumber_29 ?_
      refine lv_bipush (v := 10) hx hb dX9_cutNumber_32 (by decide) ?_
      refine lv_imul hx hb dX9_cutNumber_34 ?_
      refine lv_topi (fun y_38 ey_38 => ?_)
      refine lv_aload_n hx hb dX9_cutNumber_35 rfl (lv_at hl 0 rfl) ?_
      refine S_getR (n := 32) (C := RX9) (T := TX9) (N := 9) hx hb hg iX9 hown hK hW kd_3 rfl 0 (lt_b rfl) (hg (Cond.fieldLink RX9 15 "SlabWalk$Tokens" "text" "[B") m258) (fun _ h9 => h9) rfl dX9_cutNumber_36 ?_
      refine lv_aload_n hx hb dX9_cutNumber_39 rfl (lv_at hl 0 rfl) ?_
      refine S_getI (v := (G_2.1 3 2)) (C := RX9) (T := TX9) (N := 9) hx hb hg iX9 hown hK hW kd_3 rfl 2 (lt_b rfl) (hg (Cond.fieldLink RX9 28 "SlabWalk$Tokens" "at" "I") m260) (fun _ h9 => h9) rfl ((hq_33.i9 3 2 rfl rfl).trans (rfl)) dX9_cutNumber_40 ?_
      refine S_bald hx hb hK hW kd_32 (vin ((by first | exact b_10.1 | omega)) ((by first | exact ok_121 b_10.2 b_11.2 c_30 | omega))) dX9_cutNumber_43 (fun y_39 ey_39 => ?_)
      have ty_39 : (-128) ≤ y_39.toInt ∧ y_39.toInt ≤ 127 := bv_32 hB_G_32 ey_39
      refine lv_iadd hx hb dX9_cutNumber_44 ?_
      refine lv_topi (fun y_40 ey_40 => ?_)
      refine lv_bipush (v := 48) hx hb dX9_cutNumber_45 (by decide) ?_
      refine lv_isub hx hb dX9_cutNumber_47 ?_
      refine lv_topi (fun y_41 ey_41 => ?_)
      refine S_putI (ty := .int) (C := RX9) (T := TX9) (N := 9) hx hb hg iX9 tyX9 tyX9_ok nmX9 hown hK hW hS kd_3 rfl 5 (lt_b rfl) (hg (Cond.fieldLink RX9 85 "SlabWalk$Tokens" "number" "I") m266) (fun _ h9 => h9) rfl (by decide +kernel) rfl rfl rfl dX9_cutNumber_48 (fun G_42 H locs eG_42 hW hS => ?_)
      have hB_G_42 : Bd G_42 := hB_G_32.put (lo := (-2147483648)) (hi := 2147483647) eG_42 rfl rfl rfl (tI_rng _).1 (tI_rng _).2 (hB_G_32.2.put eG_42 rfl)
      have hF := hF.put eG_42 (Or.inr (by decide))
      refine lv_aload_n hx hb dX9_cutNumber_51 rfl (lv_at hl 0 rfl) ?_
      refine lv_dup hx hb dX9_cutNumber_52 rfl ?_
      refine S_getI (v := (G_2.1 3 2)) (C := RX9) (T := TX9) (N := 9) hx hb hg iX9 hown hK hW kd_3 rfl 2 (lt_b rfl) (hg (Cond.fieldLink RX9 28 "SlabWalk$Tokens" "at" "I") m260) (fun _ h9 => h9) rfl ((gp_ne eG_42 (by decide)).trans ((hq_33.i9 3 2 rfl rfl).trans (rfl))) dX9_cutNumber_53 ?_
      refine ic_1 hx hb dX9_cutNumber_56 ?_
      refine lv_iadd hx hb dX9_cutNumber_57 ?_
      refine lv_topi (fun y_43 ey_43 => ?_)
      have ty_43 : y_43.toInt = (G_2.1 3 2).toInt + 1 := xI_add rfl rfl ey_43 ((by first | exact ok_21 b_10.1 | omega)) ((by first | exact ok_122 b_10.2 | omega))
      refine S_putI (ty := .int) (C := RX9) (T := TX9) (N := 9) hx hb hg iX9 tyX9 tyX9_ok nmX9 hown hK hW hS kd_3 rfl 2 (lt_b rfl) (hg (Cond.fieldLink RX9 28 "SlabWalk$Tokens" "at" "I") m260) (fun _ h9 => h9) rfl (by decide +kernel) rfl rfl rfl dX9_cutNumber_58 (fun G_44 H locs eG_44 hW hS => ?_)
      have hB_G_44 : Bd G_44 := hB_G_42.put (V := y_43.toInt) (lo := 0) (hi := 1600) eG_44 rfl rfl rfl ((by first | exact ok_23 b_10.1 ty_43 | omega)) ((by first | exact ok_123 b_10.2 b_11.2 c_30 ty_43 | omega)) (hB_G_42.2.put eG_44 rfl)
      have hF := hF.put eG_44 (Or.inr (by decide))
      refine lv_goto (tgt := 5) hx hb dX9_cutNumber_61 rfl ?_
      have g_45 : (G_44.1 3 2).toInt = y_43.toInt := (congrArg Int32.toInt (show G_44.1 3 2 = y_43 from (gp_eq eG_44)))
      exact ih_4 (1600 - (G_44.1 3 2).toInt : Int).toNat ((by first | (clear b_7 g_8 f_36 c_37 ty_39; omega) | omega)) _ _ _ ⟨G_44, (Int.toNat_of_nonneg ((by first | exact ok_124 b_10.2 b_11.2 c_30 ty_43 g_45 | omega))), (hX_6.st (St_k_tCutNumber_1_mk ⟨G_2, G_44, rfl, rfl, hB_G_2, ⟨c_30, ⟨r_31, G_32, hX_35, ⟨c_37, ⟨y_38, ey_38, ⟨y_39, ey_39, ⟨y_40, ey_40, ⟨y_41, ey_41, ⟨y_43, ty_43, ⟨(Fr.put (rs := []) (fs := [(3, 2), (3, 5)]) (Fr.put (rs := []) (fs := [(3, 2), (3, 5)]) Fr.rf eG_42 (Or.inr (by decide))) eG_44 (Or.inr (by decide))), (gp_eq eG_44), ((gp_ne eG_44 (by decide)).trans (gp_eq eG_42))⟩⟩⟩⟩⟩⟩⟩⟩⟩⟩)), hW, hB_G_44, hF, (Fr.put (rs := []) (fs := [(3, 2), (3, 5)]) (Fr.put (rs := []) (fs := [(3, 2), (3, 5)]) (Fr.call9 (rs := []) (fs := [(3, 2), (3, 5)]) (Fr.call9 (rs := []) (fs := [(3, 2), (3, 5)]) Fr.rf hq_3 rfl rfl) hq_33 rfl rfl) eG_42 (Or.inr (by decide))) eG_44 (Or.inr (by decide))), hS, lv_sub hl [0] rfl⟩

set_option maxHeartbeats 4000000 in
set_option maxRecDepth 100000 in
theorem k_tCutWord (l : Launch) (D : va_G) (k : KT) (A : Nat → Prop) (a : Nat → Nat) (z : SK) (G : GS)   : Met l yX9_cutWord (WS yX9_cutWord cX9_cutWord 1 none) ({ frames := 5, cells := 0, slots := 0, locals := 107 }) (va_Pc [.ref (a 3)] (cW D k A a z G)) (va_Qv (fun (G1 : GS) => P_tCutWord G G1) (fun (G1 : GS) t => Wd D k A a G1 t.heap) A) 0 0 A := by
  refine Met.ofW (cc := cX9_cutWord) (maxL := 1) (ret := none) (by decide) rfl ?_
  intro p e s m args below meth c s₁ B hml hv
  obtain ⟨rfl, hW, hB_G, hK, hZ⟩ := hv
  have hx := B.exec
  have hb := B.bytes
  have hr := B.returns
  have hts := atoms_spec (ws := WS yX9_cutWord cX9_cutWord 1 none) B.pre
  have hgd : ∀ w ∈ gd, w ∈ WS yX9_cutWord cX9_cutWord 1 none := fun w h => List.mem_cons_of_mem _ h
  have hg : ∀ w ∈ gd, w.before _ s = true := fun w h => hts w (hgd w h)
  have hown : s.vm.findClass RX9 = some m.cls := findClass_of_methodNamed B.named
  have hS : va_S A s.heap s.heap [] := va_S.rf
  have hF : Fr [] [(3, 2), (3, 3), (3, 6)] G G := Fr.rf
  have hl := lv_entry ([.ref (a 3)]) (n := 1) (Nat.le_of_ble_eq_true rfl)
  rw [lg_entry_eq]
  generalize (lg_sl ([.ref (a 3)]) ++ List.replicate (1 - (lg_sl ([.ref (a 3)])).length) Slot.unset).toArray = ls at hl ⊢
  have hl : lv_has ls 1 [(0, .ref (a 3))] := hl
  refine lv_aload_n hx hb dX9_cutWord_0 rfl (lv_at hl 0 rfl) ?_
  refine lv_lconst (v := 0) hx hb dX9_cutWord_1 (by decide) ?_
  refine S_putL (C := RX9) (T := TX9) (N := 9) hx hb hg iX9 tyX9 tyX9_ok nmX9 hown hK hW hS kd_3 rfl 6 (lt_b rfl) (hg (Cond.fieldLink RX9 68 "SlabWalk$Tokens" "word" "J") m269) (fun _ h9 => h9) rfl (by decide +kernel) rfl dX9_cutWord_2 (fun G_1 H locs eG_1 hW hS => ?_)
  have hB_G_1 : Bd G_1 := hB_G.putl eG_1
  have hF := hF.putl eG_1 (Or.inr (by decide))
  have b_7 : 0 ≤ (G.1 3 2).toInt ∧ (G.1 3 2).toInt ≤ 1600 := bd_3_2 hB_G
  have g_8 : (G_1.1 3 2).toInt = (G.1 3 2).toInt := (congrArg Int32.toInt (show G_1.1 3 2 = (G.1 3 2) from (congrFun (congrFun (gp_l eG_1).1 3) 2)))
  refine loop_N (Inv := fun n H locs ls => ∃ (G_2 : GS), (n : Int) = 1600 - (G_2.1 3 2).toInt ∧ Rc (St_k_tCutWord_1 G) G_1 G_2 ∧ Wd D k A a G_2 H ∧ Bd G_2 ∧ Fr [] [(3, 2), (3, 3), (3, 6)] G G_2 ∧ Fr [] [(3, 2), (3, 6)] G_1 G_2 ∧ va_S A s.heap H locs ∧ lv_has ls 1 [(0, .ref (a 3))]) (fun n_5 H locs ls ih_4 hI => ?_) (1600 - (G_1.1 3 2).toInt : Int).toNat ⟨G_1, (Int.toNat_of_nonneg ((by first | exact ok_118 b_7.2 g_8 | omega))), Rc.rf, hW, hB_G_1, hF, Fr.rf, hS, lv_sub hl [0] rfl⟩
  obtain ⟨G_2, hn_9, hX_6, hW, hB_G_2, hF, hq_3, hS, hl⟩ := hI
  refine lv_aload_n hx hb dX9_cutWord_5 rfl (lv_at hl 0 rfl) ?_
  have b_10 : 0 ≤ (G_2.1 3 2).toInt ∧ (G_2.1 3 2).toInt ≤ 1600 := bd_3_2 hB_G_2
  refine S_getI (v := (G_2.1 3 2)) (C := RX9) (T := TX9) (N := 9) hx hb hg iX9 hown hK hW kd_3 rfl 2 (lt_b rfl) (hg (Cond.fieldLink RX9 28 "SlabWalk$Tokens" "at" "I") m260) (fun _ h9 => h9) rfl rfl dX9_cutWord_6 ?_
  refine lv_aload_n hx hb dX9_cutWord_9 rfl (lv_at hl 0 rfl) ?_
  have b_11 : 0 ≤ (G.1 3 1).toInt ∧ (G.1 3 1).toInt ≤ 1600 := bd_3_1 hB_G
  refine S_getI (v := (G.1 3 1)) (C := RX9) (T := TX9) (N := 9) hx hb hg iX9 hown hK hW kd_3 rfl 1 (lt_b rfl) (hg (Cond.fieldLink RX9 25 "SlabWalk$Tokens" "size" "I") m259) (fun _ h9 => h9) rfl ((hq_3.i9 3 1 rfl rfl).trans (congrFun (congrFun (gp_l eG_1).1 3) 1)) dX9_cutWord_10 ?_
  refine lv_icmp_ge (tgt := 66) hx hb dX9_cutWord_13 rfl (fun c_12 => ?_) (fun c_12 => ?_)
  · have c_12 : (G.1 3 1).toInt ≤ (G_2.1 3 2).toInt := xI_le rfl rfl c_12
    refine lv_aload_n hx hb dX9_cutWord_66 rfl (lv_at hl 0 rfl) ?_
    refine lv_aload_n hx hb dX9_cutWord_67 rfl (lv_at hl 0 rfl) ?_
    refine S_getI (v := (G_2.1 3 2)) (C := RX9) (T := TX9) (N := 9) hx hb hg iX9 hown hK hW kd_3 rfl 2 (lt_b rfl) (hg (Cond.fieldLink RX9 28 "SlabWalk$Tokens" "at" "I") m260) (fun _ h9 => h9) rfl rfl dX9_cutWord_68 ?_
    refine lv_aload_n hx hb dX9_cutWord_71 rfl (lv_at hl 0 rfl) ?_
    have b_13 : 0 ≤ (G.1 3 4).toInt ∧ (G.1 3 4).toInt ≤ 1600 := bd_3_4 hB_G
    refine S_getI (v := (G.1 3 4)) (C := RX9) (T := TX9) (N := 9) hx hb hg iX9 hown hK hW kd_3 rfl 4 (lt_b rfl) (hg (Cond.fieldLink RX9 41 "SlabWalk$Tokens" "place" "I") m264) (fun _ h9 => h9) rfl ((hq_3.i9 3 4 rfl rfl).trans (congrFun (congrFun (gp_l eG_1).1 3) 4)) dX9_cutWord_72 ?_
    refine lv_isub hx hb dX9_cutWord_75 ?_
    refine lv_topi (fun y_14 ey_14 => ?_)
    have ty_14 : y_14.toInt = (G_2.1 3 2).toInt - (G.1 3 4).toInt := xI_sub rfl rfl ey_14 ((by first | exact ok_119 b_10.1 b_13.2 | omega)) ((by first | exact ok_120 b_10.2 b_13.1 | omega))
    refine lv_bipush (v := 8) hx hb dX9_cutWord_76 (by decide) ?_
    refine lv_icmp_le (tgt := 87) hx hb dX9_cutWord_78 rfl (fun c_15 => ?_) (fun c_15 => ?_)
    · have c_15 : y_14.toInt ≤ 8 := xI_le rfl rfl c_15
      refine lv_aload_n hx hb dX9_cutWord_87 rfl (lv_at hl 0 rfl) ?_
      refine S_calli (va_runV (As := []) (rest := [.ref (a 3)]) ⟨hx, hb, hml, hown, hts⟩ (k_tKind l D k A a z G_2  ) (cwV 0 hts (gd_V hgd m650 m652 m5 m120 m653) rfl rfl rfl hd_X9_kindOfWord ⟨Nat.le_of_ble_eq_true rfl, Nat.le_of_ble_eq_true rfl⟩) (pre_W hW hB_G_2 hK hZ hS kd_3 rfl) rfl rfl hl.1 rfl (lv_room (Nat.le_of_ble_eq_true rfl)) dX9_cutWord_88 ⟨Nat.le_of_ble_eq_true rfl, Nat.le_of_ble_eq_true rfl⟩) hS (fun r_16 G_17 H locs hpo hW hS => ?_)
      have hX_20 : P_tKind G_2 r_16 G_17 := hpo
      obtain ⟨hB_G_17, hq_18, f_21, -⟩ := hpo
      have hF := hF.call9 hq_18 rfl rfl
      refine S_putI (ty := .int) (C := RX9) (T := TX9) (N := 9) hx hb hg iX9 tyX9 tyX9_ok nmX9 hown hK hW hS kd_3 rfl 3 (lt_b rfl) (hg (Cond.fieldLink RX9 38 "SlabWalk$Tokens" "kind" "I") m262) (fun _ h9 => h9) rfl (by decide +kernel) rfl rfl rfl dX9_cutWord_91 (fun G_22 H locs eG_22 hW hS => ?_)
      have hB_G_22 : Bd G_22 := hB_G_17.put (lo := (-2147483648)) (hi := 2147483647) eG_22 rfl rfl rfl (tI_rng _).1 (tI_rng _).2 (hB_G_17.2.put eG_22 rfl)
      have hF := hF.put eG_22 (Or.inr (by decide))
      exact W.vret hx hb hr (fun t ht _ => ⟨⟨G_22, rfl, (P_tCutWord_mk ⟨hB_G_22, hF, ⟨G_1, hB_G_1, (Fr.putl (rs := []) (fs := [(3, 6)]) Fr.rf eG_1 (Or.inr (by decide))), (gpl_eq eG_1), ⟨G_2, hX_6, hB_G_2, hq_3, (Or.inl ⟨c_12, ⟨y_14, ty_14, (Or.inl ⟨c_15, ⟨r_16, G_17, hX_20, ⟨(Fr.put (rs := []) (fs := [(3, 3)]) Fr.rf eG_22 (Or.inr (by decide))), (gp_eq eG_22)⟩⟩⟩)⟩⟩)⟩⟩⟩), wd_t ht hW⟩, hS.F ht⟩) hS.2.2 dX9_cutWord_94
    · have c_15 : 8 < y_14.toInt := xI_nle rfl rfl c_15
      refine lv_sipush (v := 202) hx hb dX9_cutWord_81 (by decide) ?_
      refine lv_goto (tgt := 91) hx hb dX9_cutWord_84 rfl ?_
      refine S_putI (ty := .int) (C := RX9) (T := TX9) (N := 9) hx hb hg iX9 tyX9 tyX9_ok nmX9 hown hK hW hS kd_3 rfl 3 (lt_b rfl) (hg (Cond.fieldLink RX9 38 "SlabWalk$Tokens" "kind" "I") m262) (fun _ h9 => h9) rfl (by decide +kernel) rfl rfl rfl dX9_cutWord_91 (fun G_23 H locs eG_23 hW hS => ?_)
      have hB_G_23 : Bd G_23 := hB_G_2.put (lo := (-2147483648)) (hi := 2147483647) eG_23 rfl rfl rfl (tI_rng _).1 (tI_rng _).2 (hB_G_2.2.put eG_23 rfl)
      have hF := hF.put eG_23 (Or.inr (by decide))
      exact W.vret hx hb hr (fun t ht _ => ⟨⟨G_23, rfl, (P_tCutWord_mk ⟨hB_G_23, hF, ⟨G_1, hB_G_1, (Fr.putl (rs := []) (fs := [(3, 6)]) Fr.rf eG_1 (Or.inr (by decide))), (gpl_eq eG_1), ⟨G_2, hX_6, hB_G_2, hq_3, (Or.inl ⟨c_12, ⟨y_14, ty_14, (Or.inr ⟨c_15, ⟨(Fr.put (rs := []) (fs := [(3, 3)]) Fr.rf eG_23 (Or.inr (by decide))), (gp_eq eG_23)⟩⟩)⟩⟩)⟩⟩⟩), wd_t ht hW⟩, hS.F ht⟩) hS.2.2 dX9_cutWord_94
  · have c_12 : (G_2.1 3 2).toInt < (G.1 3 1).toInt := xI_nle rfl rfl c_12
    refine lv_aload_n hx hb dX9_cutWord_16 rfl (lv_at hl 0 rfl) ?_
    refine lv_aload_n hx hb dX9_cutWord_17 rfl (lv_at hl 0 rfl) ?_
    refine S_getI (v := (G_2.1 3 2)) (C := RX9) (T := TX9) (N := 9) hx hb hg iX9 hown hK hW kd_3 rfl 2 (lt_b rfl) (hg (Cond.fieldLink RX9 28 "SlabWalk$Tokens" "at" "I") m260) (fun _ h9 => h9) rfl rfl dX9_cutWord_18 ?_
    refine S_calli (va_runV (As := [.int (G_2.1 3 2)]) (rest := []) ⟨hx, hb, hml, hown, hts⟩ (k_tLetter l D k A a z G_2 (G_2.1 3 2) ((by first | exact b_10.1 | omega))) (cwV 1 hts (gd_V hgd m642 m644 m3 m120 m645) rfl rfl rfl hd_X9_isLetter ⟨Nat.le_of_ble_eq_true rfl, Nat.le_of_ble_eq_true rfl⟩) (pre_W hW hB_G_2 hK hZ hS kd_3 rfl) rfl rfl hl.1 rfl (lv_room (Nat.le_of_ble_eq_true rfl)) dX9_cutWord_21 ⟨Nat.le_of_ble_eq_true rfl, Nat.le_of_ble_eq_true rfl⟩) hS (fun r_24 G_25 H locs hpo hW hS => ?_)
    have hX_28 : P_tLetter (G_2.1 3 2) G_2 r_24 G_25 := hpo
    obtain ⟨hB_G_25, hq_26, f_29, -⟩ := hpo
    have hF := hF.call9 hq_26 rfl rfl
    refine lv_if_eq (tgt := 66) hx hb dX9_cutWord_24 rfl (fun c_30 => ?_) (fun c_30 => ?_)
    · have c_30 : r_24.toInt = 0 := xI_eq rfl rfl c_30
      refine lv_aload_n hx hb dX9_cutWord_66 rfl (lv_at hl 0 rfl) ?_
      refine lv_aload_n hx hb dX9_cutWord_67 rfl (lv_at hl 0 rfl) ?_
      refine S_getI (v := (G_2.1 3 2)) (C := RX9) (T := TX9) (N := 9) hx hb hg iX9 hown hK hW kd_3 rfl 2 (lt_b rfl) (hg (Cond.fieldLink RX9 28 "SlabWalk$Tokens" "at" "I") m260) (fun _ h9 => h9) rfl ((hq_26.i9 3 2 rfl rfl).trans (rfl)) dX9_cutWord_68 ?_
      refine lv_aload_n hx hb dX9_cutWord_71 rfl (lv_at hl 0 rfl) ?_
      have b_31 : 0 ≤ (G.1 3 4).toInt ∧ (G.1 3 4).toInt ≤ 1600 := bd_3_4 hB_G
      refine S_getI (v := (G.1 3 4)) (C := RX9) (T := TX9) (N := 9) hx hb hg iX9 hown hK hW kd_3 rfl 4 (lt_b rfl) (hg (Cond.fieldLink RX9 41 "SlabWalk$Tokens" "place" "I") m264) (fun _ h9 => h9) rfl ((hq_26.i9 3 4 rfl rfl).trans ((hq_3.i9 3 4 rfl rfl).trans (congrFun (congrFun (gp_l eG_1).1 3) 4))) dX9_cutWord_72 ?_
      refine lv_isub hx hb dX9_cutWord_75 ?_
      refine lv_topi (fun y_32 ey_32 => ?_)
      have ty_32 : y_32.toInt = (G_2.1 3 2).toInt - (G.1 3 4).toInt := xI_sub rfl rfl ey_32 ((by first | exact ok_119 b_10.1 b_31.2 | omega)) ((by first | exact ok_120 b_10.2 b_31.1 | omega))
      refine lv_bipush (v := 8) hx hb dX9_cutWord_76 (by decide) ?_
      refine lv_icmp_le (tgt := 87) hx hb dX9_cutWord_78 rfl (fun c_33 => ?_) (fun c_33 => ?_)
      · have c_33 : y_32.toInt ≤ 8 := xI_le rfl rfl c_33
        refine lv_aload_n hx hb dX9_cutWord_87 rfl (lv_at hl 0 rfl) ?_
        refine S_calli (va_runV (As := []) (rest := [.ref (a 3)]) ⟨hx, hb, hml, hown, hts⟩ (k_tKind l D k A a z G_25  ) (cwV 0 hts (gd_V hgd m650 m652 m5 m120 m653) rfl rfl rfl hd_X9_kindOfWord ⟨Nat.le_of_ble_eq_true rfl, Nat.le_of_ble_eq_true rfl⟩) (pre_W hW hB_G_25 hK hZ hS kd_3 rfl) rfl rfl hl.1 rfl (lv_room (Nat.le_of_ble_eq_true rfl)) dX9_cutWord_88 ⟨Nat.le_of_ble_eq_true rfl, Nat.le_of_ble_eq_true rfl⟩) hS (fun r_34 G_35 H locs hpo hW hS => ?_)
        have hX_38 : P_tKind G_25 r_34 G_35 := hpo
        obtain ⟨hB_G_35, hq_36, f_39, -⟩ := hpo
        have hF := hF.call9 hq_36 rfl rfl
        refine S_putI (ty := .int) (C := RX9) (T := TX9) (N := 9) hx hb hg iX9 tyX9 tyX9_ok nmX9 hown hK hW hS kd_3 rfl 3 (lt_b rfl) (hg (Cond.fieldLink RX9 38 "SlabWalk$Tokens" "kind" "I") m262) (fun _ h9 => h9) rfl (by decide +kernel) rfl rfl rfl dX9_cutWord_91 (fun G_40 H locs eG_40 hW hS => ?_)
        have hB_G_40 : Bd G_40 := hB_G_35.put (lo := (-2147483648)) (hi := 2147483647) eG_40 rfl rfl rfl (tI_rng _).1 (tI_rng _).2 (hB_G_35.2.put eG_40 rfl)
        have hF := hF.put eG_40 (Or.inr (by decide))
        exact W.vret hx hb hr (fun t ht _ => ⟨⟨G_40, rfl, (P_tCutWord_mk ⟨hB_G_40, hF, ⟨G_1, hB_G_1, (Fr.putl (rs := []) (fs := [(3, 6)]) Fr.rf eG_1 (Or.inr (by decide))), (gpl_eq eG_1), ⟨G_2, hX_6, hB_G_2, hq_3, (Or.inr ⟨c_12, ⟨r_24, G_25, hX_28, ⟨c_30, ⟨y_32, ty_32, (Or.inl ⟨c_33, ⟨r_34, G_35, hX_38, ⟨(Fr.put (rs := []) (fs := [(3, 3)]) Fr.rf eG_40 (Or.inr (by decide))), (gp_eq eG_40)⟩⟩⟩)⟩⟩⟩⟩)⟩⟩⟩), wd_t ht hW⟩, hS.F ht⟩) hS.2.2 dX9_cutWord_94
      · have c_33 : 8 < y_32.toInt := xI_nle rfl rfl c_33
        refine lv_sipush (v := 202) hx hb dX9_cutWord_81 (by decide) ?_
        refine lv_goto (tgt := 91) hx hb dX9_cutWord_84 rfl ?_
        refine S_putI (ty := .int) (C := RX9) (T := TX9) (N := 9) hx hb hg iX9 tyX9 tyX9_ok nmX9 hown hK hW hS kd_3 rfl 3 (lt_b rfl) (hg (Cond.fieldLink RX9 38 "SlabWalk$Tokens" "kind" "I") m262) (fun _ h9 => h9) rfl (by decide +kernel) rfl rfl rfl dX9_cutWord_91 (fun G_41 H locs eG_41 hW hS => ?_)
        have hB_G_41 : Bd G_41 := hB_G_25.put (lo := (-2147483648)) (hi := 2147483647) eG_41 rfl rfl rfl (tI_rng _).1 (tI_rng _).2 (hB_G_25.2.put eG_41 rfl)
        have hF := hF.put eG_41 (Or.inr (by decide))
        exact W.vret hx hb hr (fun t ht _ => ⟨⟨G_41, rfl, (P_tCutWord_mk ⟨hB_G_41, hF, ⟨G_1, hB_G_1, (Fr.putl (rs := []) (fs := [(3, 6)]) Fr.rf eG_1 (Or.inr (by decide))), (gpl_eq eG_1), ⟨G_2, hX_6, hB_G_2, hq_3, (Or.inr ⟨c_12, ⟨r_24, G_25, hX_28, ⟨c_30, ⟨y_32, ty_32, (Or.inr ⟨c_33, ⟨(Fr.put (rs := []) (fs := [(3, 3)]) Fr.rf eG_41 (Or.inr (by decide))), (gp_eq eG_41)⟩⟩)⟩⟩⟩⟩)⟩⟩⟩), wd_t ht hW⟩, hS.F ht⟩) hS.2.2 dX9_cutWord_94
    · have c_30 : r_24.toInt ≠ 0 := xI_ne rfl rfl c_30
      refine lv_aload_n hx hb dX9_cutWord_27 rfl (lv_at hl 0 rfl) ?_
      refine lv_aload_n hx hb dX9_cutWord_28 rfl (lv_at hl 0 rfl) ?_
      obtain ⟨y_42, ey_42⟩ : ∃ q, G_25.2.1 3 6 = q := ⟨_, rfl⟩
      refine S_getL (v := y_42) (C := RX9) (T := TX9) (N := 9) hx hb hg iX9 hown hK hW kd_3 rfl 6 (lt_b rfl) (hg (Cond.fieldLink RX9 68 "SlabWalk$Tokens" "word" "J") m269) (fun _ h9 => h9) rfl ey_42 dX9_cutWord_29 ?_
      refine ic_5 hx hb dX9_cutWord_32 ?_
      refine lv_lshl hx hb dX9_cutWord_33 rfl ?_
      refine lv_topl (fun y_43 ey_43 => ?_)
      refine lv_aload_n hx hb dX9_cutWord_34 rfl (lv_at hl 0 rfl) ?_
      refine S_getR (n := 32) (C := RX9) (T := TX9) (N := 9) hx hb hg iX9 hown hK hW kd_3 rfl 0 (lt_b rfl) (hg (Cond.fieldLink RX9 15 "SlabWalk$Tokens" "text" "[B") m258) (fun _ h9 => h9) rfl dX9_cutWord_35 ?_
      refine lv_aload_n hx hb dX9_cutWord_38 rfl (lv_at hl 0 rfl) ?_
      refine S_getI (v := (G_2.1 3 2)) (C := RX9) (T := TX9) (N := 9) hx hb hg iX9 hown hK hW kd_3 rfl 2 (lt_b rfl) (hg (Cond.fieldLink RX9 28 "SlabWalk$Tokens" "at" "I") m260) (fun _ h9 => h9) rfl ((hq_26.i9 3 2 rfl rfl).trans (rfl)) dX9_cutWord_39 ?_
      refine S_bald hx hb hK hW kd_32 (vin ((by first | exact b_10.1 | omega)) ((by first | exact ok_121 b_10.2 b_11.2 c_12 | omega))) dX9_cutWord_42 (fun y_44 ey_44 => ?_)
      have ty_44 : (-128) ≤ y_44.toInt ∧ y_44.toInt ≤ 127 := bv_32 hB_G_25 ey_44
      refine lv_bipush (v := 97) hx hb dX9_cutWord_43 (by decide) ?_
      refine lv_isub hx hb dX9_cutWord_45 ?_
      refine lv_topi (fun y_45 ey_45 => ?_)
      have ty_45 : y_45.toInt = y_44.toInt - 97 := xI_sub rfl rfl ey_45 ((by first | exact ok_125 ty_44.1 | omega)) ((by first | exact ok_126 ty_44.2 | omega))
      refine ic_1 hx hb dX9_cutWord_46 ?_
      refine lv_iadd hx hb dX9_cutWord_47 ?_
      refine lv_topi (fun y_46 ey_46 => ?_)
      have ty_46 : y_46.toInt = y_45.toInt + 1 := xI_add rfl rfl ey_46 ((by first | exact ok_127 ty_44.1 ty_45 | omega)) ((by first | exact ok_128 ty_44.2 ty_45 | omega))
      refine lv_i2l hx hb dX9_cutWord_48 rfl ?_
      refine lv_topl (fun y_47 ey_47 => ?_)
      refine lv_lor hx hb dX9_cutWord_49 ?_
      refine lv_topl (fun y_48 ey_48 => ?_)
      refine S_putL (C := RX9) (T := TX9) (N := 9) hx hb hg iX9 tyX9 tyX9_ok nmX9 hown hK hW hS kd_3 rfl 6 (lt_b rfl) (hg (Cond.fieldLink RX9 68 "SlabWalk$Tokens" "word" "J") m269) (fun _ h9 => h9) rfl (by decide +kernel) rfl dX9_cutWord_50 (fun G_49 H locs eG_49 hW hS => ?_)
      have hB_G_49 : Bd G_49 := hB_G_25.putl eG_49
      have hF := hF.putl eG_49 (Or.inr (by decide))
      refine lv_aload_n hx hb dX9_cutWord_53 rfl (lv_at hl 0 rfl) ?_
      refine lv_dup hx hb dX9_cutWord_54 rfl ?_
      refine S_getI (v := (G_2.1 3 2)) (C := RX9) (T := TX9) (N := 9) hx hb hg iX9 hown hK hW kd_3 rfl 2 (lt_b rfl) (hg (Cond.fieldLink RX9 28 "SlabWalk$Tokens" "at" "I") m260) (fun _ h9 => h9) rfl ((congrFun (congrFun (gp_l eG_49).1 3) 2).trans ((hq_26.i9 3 2 rfl rfl).trans (rfl))) dX9_cutWord_55 ?_
      refine ic_1 hx hb dX9_cutWord_58 ?_
      refine lv_iadd hx hb dX9_cutWord_59 ?_
      refine lv_topi (fun y_50 ey_50 => ?_)
      have ty_50 : y_50.toInt = (G_2.1 3 2).toInt + 1 := xI_add rfl rfl ey_50 ((by first | exact ok_21 b_10.1 | omega)) ((by first | exact ok_122 b_10.2 | omega))
      refine S_putI (ty := .int) (C := RX9) (T := TX9) (N := 9) hx hb hg iX9 tyX9 tyX9_ok nmX9 hown hK hW hS kd_3 rfl 2 (lt_b rfl) (hg (Cond.fieldLink RX9 28 "SlabWalk$Tokens" "at" "I") m260) (fun _ h9 => h9) rfl (by decide +kernel) rfl rfl rfl dX9_cutWord_60 (fun G_51 H locs eG_51 hW hS => ?_)
      have hB_G_51 : Bd G_51 := hB_G_49.put (V := y_50.toInt) (lo := 0) (hi := 1600) eG_51 rfl rfl rfl ((by first | exact ok_23 b_10.1 ty_50 | omega)) ((by first | exact ok_123 b_10.2 b_11.2 c_12 ty_50 | omega)) (hB_G_49.2.put eG_51 rfl)
      have hF := hF.put eG_51 (Or.inr (by decide))
      refine lv_goto (tgt := 5) hx hb dX9_cutWord_63 rfl ?_
      have g_52 : (G_51.1 3 2).toInt = y_50.toInt := (congrArg Int32.toInt (show G_51.1 3 2 = y_50 from (gp_eq eG_51)))
      exact ih_4 (1600 - (G_51.1 3 2).toInt : Int).toNat ((by first | (clear b_7 g_8 f_29 c_30 ty_44 ty_45 ty_46; omega) | omega)) _ _ _ ⟨G_51, (Int.toNat_of_nonneg ((by first | exact ok_124 b_10.2 b_11.2 c_12 ty_50 g_52 | omega))), (hX_6.st (St_k_tCutWord_1_mk ⟨G_2, G_51, rfl, rfl, hB_G_2, ⟨c_12, ⟨r_24, G_25, hX_28, ⟨c_30, ⟨y_42, ey_42.symm.trans ((hq_26.l9 3 6 rfl rfl)), ⟨y_43, ey_43, ⟨y_44, ey_44, ⟨y_45, ty_45, ⟨y_46, ty_46, ⟨y_47, ey_47, ⟨y_48, ey_48, ⟨y_50, ty_50, ⟨(Fr.put (rs := []) (fs := [(3, 2), (3, 6)]) (Fr.putl (rs := []) (fs := [(3, 2), (3, 6)]) Fr.rf eG_49 (Or.inr (by decide))) eG_51 (Or.inr (by decide))), (gp_eq eG_51), ((congrFun (congrFun (congrArg (fun q => q.2.1) eG_51) 3) 6).trans (gpl_eq eG_49))⟩⟩⟩⟩⟩⟩⟩⟩⟩⟩⟩⟩⟩)), hW, hB_G_51, hF, (Fr.put (rs := []) (fs := [(3, 2), (3, 6)]) (Fr.putl (rs := []) (fs := [(3, 2), (3, 6)]) (Fr.call9 (rs := []) (fs := [(3, 2), (3, 6)]) (Fr.call9 (rs := []) (fs := [(3, 2), (3, 6)]) Fr.rf hq_3 rfl rfl) hq_26 rfl rfl) eG_49 (Or.inr (by decide))) eG_51 (Or.inr (by decide))), hS, lv_sub hl [0] rfl⟩

set_option maxHeartbeats 4000000 in
set_option maxRecDepth 100000 in
theorem k_tAdvance (l : Launch) (D : va_G) (k : KT) (A : Nat → Prop) (a : Nat → Nat) (z : SK) (G : GS)   : Met l yX9_advance (WS yX9_advance cX9_advance 2 (some .boolean)) ({ frames := 6, cells := 0, slots := 0, locals := 127 }) (va_Pc [.ref (a 3)] (cW D k A a z G)) (va_Qi (fun (r : Int32) (G1 : GS) => P_tAdvance G r G1) (fun (G1 : GS) t => Wd D k A a G1 t.heap) A) 0 0 A := by
  refine Met.ofW (cc := cX9_advance) (maxL := 2) (ret := (some .boolean)) (by decide) rfl ?_
  intro p e s m args below meth c s₁ B hml hv
  obtain ⟨rfl, hW, hB_G, hK, hZ⟩ := hv
  have hx := B.exec
  have hb := B.bytes
  have hr := B.returns
  have hts := atoms_spec (ws := WS yX9_advance cX9_advance 2 (some .boolean)) B.pre
  have hgd : ∀ w ∈ gd, w ∈ WS yX9_advance cX9_advance 2 (some .boolean) := fun w h => List.mem_cons_of_mem _ h
  have hg : ∀ w ∈ gd, w.before _ s = true := fun w h => hts w (hgd w h)
  have hown : s.vm.findClass RX9 = some m.cls := findClass_of_methodNamed B.named
  have hS : va_S A s.heap s.heap [] := va_S.rf
  have hF : Fr [] [(3, 2), (3, 3), (3, 4), (3, 5), (3, 6)] G G := Fr.rf
  have hl := lv_entry ([.ref (a 3)]) (n := 2) (Nat.le_of_ble_eq_true rfl)
  rw [lg_entry_eq]
  generalize (lg_sl ([.ref (a 3)]) ++ List.replicate (2 - (lg_sl ([.ref (a 3)])).length) Slot.unset).toArray = ls at hl ⊢
  have hl : lv_has ls 2 [(0, .ref (a 3))] := hl
  have b_6 : 0 ≤ (G.1 3 2).toInt ∧ (G.1 3 2).toInt ≤ 1600 := bd_3_2 hB_G
  refine loop_N (Inv := fun n H locs ls => ∃ (G_1 : GS), (n : Int) = 1600 - (G_1.1 3 2).toInt ∧ Rc (St_k_tAdvance_1 G) G G_1 ∧ Wd D k A a G_1 H ∧ Bd G_1 ∧ Fr [] [(3, 2), (3, 3), (3, 4), (3, 5), (3, 6)] G G_1 ∧ Fr [] [(3, 2)] G G_1 ∧ va_S A s.heap H locs ∧ lv_has ls 2 [(0, .ref (a 3))]) (fun n_4 H locs ls ih_3 hI => ?_) (1600 - (G.1 3 2).toInt : Int).toNat ⟨G, (Int.toNat_of_nonneg ((by first | exact ok_129 b_6.2 | omega))), Rc.rf, hW, hB_G, hF, Fr.rf, hS, lv_sub hl [0] rfl⟩
  obtain ⟨G_1, hn_7, hX_5, hW, hB_G_1, hF, hq_2, hS, hl⟩ := hI
  refine lv_aload_n hx hb dX9_advance_0 rfl (lv_at hl 0 rfl) ?_
  have b_8 : 0 ≤ (G_1.1 3 2).toInt ∧ (G_1.1 3 2).toInt ≤ 1600 := bd_3_2 hB_G_1
  refine S_getI (v := (G_1.1 3 2)) (C := RX9) (T := TX9) (N := 9) hx hb hg iX9 hown hK hW kd_3 rfl 2 (lt_b rfl) (hg (Cond.fieldLink RX9 28 "SlabWalk$Tokens" "at" "I") m260) (fun _ h9 => h9) rfl rfl dX9_advance_1 ?_
  refine lv_aload_n hx hb dX9_advance_4 rfl (lv_at hl 0 rfl) ?_
  have b_9 : 0 ≤ (G.1 3 1).toInt ∧ (G.1 3 1).toInt ≤ 1600 := bd_3_1 hB_G
  refine S_getI (v := (G.1 3 1)) (C := RX9) (T := TX9) (N := 9) hx hb hg iX9 hown hK hW kd_3 rfl 1 (lt_b rfl) (hg (Cond.fieldLink RX9 25 "SlabWalk$Tokens" "size" "I") m259) (fun _ h9 => h9) rfl (hq_2.i9 3 1 rfl rfl) dX9_advance_5 ?_
  refine W.cut (σ := Unit) (pcJ := 52) (J := fun y H locs ls => ∃ (G_11 : GS), Jn_k_tAdvance_2 G G_1 G_11 ∧ Wd D k A a G_11 H ∧ Bd G_11 ∧ Fr [] [(3, 2), (3, 3), (3, 4), (3, 5), (3, 6)] G G_11 ∧ Fr [] [] G_1 G_11 ∧ va_S A s.heap H locs ∧ lv_has ls 2 [(0, .ref (a 3))]) (stJ := fun _ => []) ?_ (fun hJ_12 => ?_)
  · intro y H locs ls hI
    obtain ⟨G_11, hX_14, hW, hB_G_11, hF, hq_13, hS, hl⟩ := hI
    refine lv_aload_n hx hb dX9_advance_52 rfl (lv_at hl 0 rfl) ?_
    refine lv_aload_n hx hb dX9_advance_53 rfl (lv_at hl 0 rfl) ?_
    refine S_getI (v := (G_1.1 3 2)) (C := RX9) (T := TX9) (N := 9) hx hb hg iX9 hown hK hW kd_3 rfl 2 (lt_b rfl) (hg (Cond.fieldLink RX9 28 "SlabWalk$Tokens" "at" "I") m260) (fun _ h9 => h9) rfl ((hq_13.i9 3 2 rfl rfl).trans (rfl)) dX9_advance_54 ?_
    refine S_putI (ty := .int) (C := RX9) (T := TX9) (N := 9) hx hb hg iX9 tyX9 tyX9_ok nmX9 hown hK hW hS kd_3 rfl 4 (lt_b rfl) (hg (Cond.fieldLink RX9 41 "SlabWalk$Tokens" "place" "I") m264) (fun _ h9 => h9) rfl (by decide +kernel) rfl rfl rfl dX9_advance_57 (fun G_15 H locs eG_15 hW hS => ?_)
    have hB_G_15 : Bd G_15 := hB_G_11.put (V := (G_1.1 3 2).toInt) (lo := 0) (hi := 1600) eG_15 rfl rfl rfl ((by first | exact b_8.1 | omega)) ((by first | exact b_8.2 | omega)) (hB_G_11.2.put eG_15 rfl)
    have hF := hF.put eG_15 (Or.inr (by decide))
    refine lv_aload_n hx hb dX9_advance_60 rfl (lv_at hl 0 rfl) ?_
    refine S_getI (v := (G_1.1 3 2)) (C := RX9) (T := TX9) (N := 9) hx hb hg iX9 hown hK hW kd_3 rfl 2 (lt_b rfl) (hg (Cond.fieldLink RX9 28 "SlabWalk$Tokens" "at" "I") m260) (fun _ h9 => h9) rfl ((gp_ne eG_15 (by decide)).trans ((hq_13.i9 3 2 rfl rfl).trans (rfl))) dX9_advance_61 ?_
    refine lv_aload_n hx hb dX9_advance_64 rfl (lv_at hl 0 rfl) ?_
    refine S_getI (v := (G.1 3 1)) (C := RX9) (T := TX9) (N := 9) hx hb hg iX9 hown hK hW kd_3 rfl 1 (lt_b rfl) (hg (Cond.fieldLink RX9 25 "SlabWalk$Tokens" "size" "I") m259) (fun _ h9 => h9) rfl ((gp_ne eG_15 (by decide)).trans ((hq_13.i9 3 1 rfl rfl).trans ((hq_2.i9 3 1 rfl rfl).trans (rfl)))) dX9_advance_65 ?_
    refine lv_icmp_lt (tgt := 81) hx hb dX9_advance_68 rfl (fun c_16 => ?_) (fun c_16 => ?_)
    · have c_16 : (G_1.1 3 2).toInt < (G.1 3 1).toInt := xI_lt rfl rfl c_16
      refine lv_aload_n hx hb dX9_advance_81 rfl (lv_at hl 0 rfl) ?_
      refine lv_aload_n hx hb dX9_advance_82 rfl (lv_at hl 0 rfl) ?_
      refine S_getI (v := (G_1.1 3 2)) (C := RX9) (T := TX9) (N := 9) hx hb hg iX9 hown hK hW kd_3 rfl 2 (lt_b rfl) (hg (Cond.fieldLink RX9 28 "SlabWalk$Tokens" "at" "I") m260) (fun _ h9 => h9) rfl ((gp_ne eG_15 (by decide)).trans ((hq_13.i9 3 2 rfl rfl).trans (rfl))) dX9_advance_83 ?_
      refine S_calli (va_runV (As := [.int (G_1.1 3 2)]) (rest := []) ⟨hx, hb, hml, hown, hts⟩ (k_tLetter l D k A a z G_15 (G_1.1 3 2) ((by first | exact b_8.1 | omega))) (cwV 1 hts (gd_V hgd m642 m644 m3 m120 m645) rfl rfl rfl hd_X9_isLetter ⟨Nat.le_of_ble_eq_true rfl, Nat.le_of_ble_eq_true rfl⟩) (pre_W hW hB_G_15 hK hZ hS kd_3 rfl) rfl rfl hl.1 rfl (lv_room (Nat.le_of_ble_eq_true rfl)) dX9_advance_86 ⟨Nat.le_of_ble_eq_true rfl, Nat.le_of_ble_eq_true rfl⟩) hS (fun r_17 G_18 H locs hpo hW hS => ?_)
      have hX_21 : P_tLetter (G_1.1 3 2) G_15 r_17 G_18 := hpo
      obtain ⟨hB_G_18, hq_19, f_22, -⟩ := hpo
      have hF := hF.call9 hq_19 rfl rfl
      refine lv_if_eq (tgt := 99) hx hb dX9_advance_89 rfl (fun c_23 => ?_) (fun c_23 => ?_)
      · have c_23 : r_17.toInt = 0 := xI_eq rfl rfl c_23
        refine lv_aload_n hx hb dX9_advance_99 rfl (lv_at hl 0 rfl) ?_
        refine lv_aload_n hx hb dX9_advance_100 rfl (lv_at hl 0 rfl) ?_
        refine S_getI (v := (G_1.1 3 2)) (C := RX9) (T := TX9) (N := 9) hx hb hg iX9 hown hK hW kd_3 rfl 2 (lt_b rfl) (hg (Cond.fieldLink RX9 28 "SlabWalk$Tokens" "at" "I") m260) (fun _ h9 => h9) rfl ((hq_19.i9 3 2 rfl rfl).trans ((gp_ne eG_15 (by decide)).trans ((hq_13.i9 3 2 rfl rfl).trans (rfl)))) dX9_advance_101 ?_
        refine S_calli (va_runV (As := [.int (G_1.1 3 2)]) (rest := []) ⟨hx, hb, hml, hown, hts⟩ (k_tDigit l D k A a z G_18 (G_1.1 3 2) ((by first | exact b_8.1 | omega))) (cwV 1 hts (gd_V hgd m703 m705 m6 m120 m706) rfl rfl rfl hd_X9_isDigit ⟨Nat.le_of_ble_eq_true rfl, Nat.le_of_ble_eq_true rfl⟩) (pre_W hW hB_G_18 hK hZ hS kd_3 rfl) rfl rfl hl.1 rfl (lv_room (Nat.le_of_ble_eq_true rfl)) dX9_advance_104 ⟨Nat.le_of_ble_eq_true rfl, Nat.le_of_ble_eq_true rfl⟩) hS (fun r_24 G_25 H locs hpo hW hS => ?_)
        have hX_28 : P_tDigit (G_1.1 3 2) G_18 r_24 G_25 := hpo
        obtain ⟨hB_G_25, hq_26, f_29, -⟩ := hpo
        have hF := hF.call9 hq_26 rfl rfl
        refine lv_if_eq (tgt := 117) hx hb dX9_advance_107 rfl (fun c_30 => ?_) (fun c_30 => ?_)
        · have c_30 : r_24.toInt = 0 := xI_eq rfl rfl c_30
          refine lv_aload_n hx hb dX9_advance_117 rfl (lv_at hl 0 rfl) ?_
          refine S_getR (n := 32) (C := RX9) (T := TX9) (N := 9) hx hb hg iX9 hown hK hW kd_3 rfl 0 (lt_b rfl) (hg (Cond.fieldLink RX9 15 "SlabWalk$Tokens" "text" "[B") m258) (fun _ h9 => h9) rfl dX9_advance_118 ?_
          refine lv_aload_n hx hb dX9_advance_121 rfl (lv_at hl 0 rfl) ?_
          refine lv_dup hx hb dX9_advance_122 rfl ?_
          refine S_getI (v := (G_1.1 3 2)) (C := RX9) (T := TX9) (N := 9) hx hb hg iX9 hown hK hW kd_3 rfl 2 (lt_b rfl) (hg (Cond.fieldLink RX9 28 "SlabWalk$Tokens" "at" "I") m260) (fun _ h9 => h9) rfl ((hq_26.i9 3 2 rfl rfl).trans ((hq_19.i9 3 2 rfl rfl).trans ((gp_ne eG_15 (by decide)).trans ((hq_13.i9 3 2 rfl rfl).trans (rfl))))) dX9_advance_123 ?_
          refine lv_dup_x1 hx hb dX9_advance_126 rfl rfl ?_
          refine ic_1 hx hb dX9_advance_127 ?_
          refine lv_iadd hx hb dX9_advance_128 ?_
          refine lv_topi (fun y_31 ey_31 => ?_)
          have ty_31 : y_31.toInt = (G_1.1 3 2).toInt + 1 := xI_add rfl rfl ey_31 ((by first | exact ok_21 b_8.1 | omega)) ((by first | exact ok_122 b_8.2 | omega))
          refine S_putI (ty := .int) (C := RX9) (T := TX9) (N := 9) hx hb hg iX9 tyX9 tyX9_ok nmX9 hown hK hW hS kd_3 rfl 2 (lt_b rfl) (hg (Cond.fieldLink RX9 28 "SlabWalk$Tokens" "at" "I") m260) (fun _ h9 => h9) rfl (by decide +kernel) rfl rfl rfl dX9_advance_129 (fun G_32 H locs eG_32 hW hS => ?_)
          have hB_G_32 : Bd G_32 := hB_G_25.put (V := y_31.toInt) (lo := 0) (hi := 1600) eG_32 rfl rfl rfl ((by first | exact ok_23 b_8.1 ty_31 | omega)) ((by first | exact ok_123 b_8.2 b_9.2 c_16 ty_31 | omega)) (hB_G_25.2.put eG_32 rfl)
          have hF := hF.put eG_32 (Or.inr (by decide))
          refine S_bald hx hb hK hW kd_32 (vin ((by first | exact b_8.1 | omega)) ((by first | exact ok_121 b_8.2 b_9.2 c_16 | omega))) dX9_advance_132 (fun y_33 ey_33 => ?_)
          have ty_33 : (-128) ≤ y_33.toInt ∧ y_33.toInt ≤ 127 := bv_32 hB_G_32 ey_33
          refine lv_sipush (v := 255) hx hb dX9_advance_133 (by decide) ?_
          refine lv_iand hx hb dX9_advance_136 ?_
          refine lv_topi (fun y_34 ey_34 => ?_)
          have ty_34 := xI_and (Y := 255) rfl ey_34 (by decide)
          refine lv_istore_n (lv' := [(1, .int y_34), (0, .ref (a 3))]) hx hb dX9_advance_137 rfl hl (lt_b rfl) rfl (fun ls hl => ?_)
          refine lv_aload_n hx hb dX9_advance_138 rfl (lv_at hl 1 rfl) ?_
          refine va_ldcS hx hb hown hZ.2.2.1 dX9_advance_139 ?_
          refine lv_iload_n hx hb dX9_advance_141 rfl (lv_at hl 0 rfl) ?_
          refine lv_i2c hx hb dX9_advance_142 rfl ?_
          refine lv_topi (fun y_35 ey_35 => ?_)
          refine S_calli (va_runV (As := [.int y_35]) (rest := [.ref (a 3)]) ⟨hx, hb, hml, hown, hts⟩ (k_jIdx_1 l D k A a z G_32 y_35 ) (cwV 1 hts (gd_V hgd m712 m713 m714 m133 m715) rfl rfl rfl hd_J0_indexOf_0f7a4 ⟨Nat.le_of_ble_eq_true rfl, Nat.le_of_ble_eq_true rfl⟩) (pre_VS hW hB_G_32 hK hZ hS 1 (by decide)) rfl rfl hl.1 rfl (lv_room (Nat.le_of_ble_eq_true rfl)) dX9_advance_143 ⟨Nat.le_of_ble_eq_true rfl, Nat.le_of_ble_eq_true rfl⟩) hS (fun r_36 G_37 H locs hpo hW hS => ?_)
          have hX_40 : P_jIdx_1 y_35 G_32 r_36 G_37 := hpo
          obtain ⟨hB_G_37, hq_38, -⟩ := hpo
          have hF := hF.call9 hq_38 rfl rfl
          refine lv_if_lt (tgt := 153) hx hb dX9_advance_146 rfl (fun c_41 => ?_) (fun c_41 => ?_)
          · have c_41 : r_36.toInt < 0 := xI_lt rfl rfl c_41
            refine lv_sipush (v := 202) hx hb dX9_advance_153 (by decide) ?_
            refine S_putI (ty := .int) (C := RX9) (T := TX9) (N := 9) hx hb hg iX9 tyX9 tyX9_ok nmX9 hown hK hW hS kd_3 rfl 3 (lt_b rfl) (hg (Cond.fieldLink RX9 38 "SlabWalk$Tokens" "kind" "I") m262) (fun _ h9 => h9) rfl (by decide +kernel) rfl rfl rfl dX9_advance_156 (fun G_42 H locs eG_42 hW hS => ?_)
            have hB_G_42 : Bd G_42 := hB_G_37.put (lo := (-2147483648)) (hi := 2147483647) eG_42 rfl rfl rfl (tI_rng _).1 (tI_rng _).2 (hB_G_37.2.put eG_42 rfl)
            have hF := hF.put eG_42 (Or.inr (by decide))
            refine ic_1 hx hb dX9_advance_159 ?_
            exact W.zret (v := 1) hx hb hr (by decide) (fun t ht _ => ⟨⟨1, G_42, rfl, (P_tAdvance_mk ⟨hB_G_42, hF, ⟨by decide, by decide⟩, ⟨G_1, hX_5, hB_G_1, hq_2, ⟨G_11, hX_14, hB_G_11, hq_13, (Or.inl ⟨c_16, ⟨G_15, hB_G_15, (Fr.put (rs := []) (fs := [(3, 4)]) Fr.rf eG_15 (Or.inr (by decide))), (gp_eq eG_15), ⟨r_17, G_18, hX_21, (Or.inl ⟨c_23, ⟨r_24, G_25, hX_28, (Or.inl ⟨c_30, ⟨y_31, ty_31, ⟨y_33, ey_33.trans (congrFun (rw_put eG_32 (by decide)) _), ⟨y_34, ey_34, ⟨y_35, ey_35, ⟨G_32, hB_G_32, (Fr.put (rs := []) (fs := [(3, 2)]) Fr.rf eG_32 (Or.inr (by decide))), (gp_eq eG_32), ⟨r_36, G_37, hX_40, (Or.inl ⟨c_41, ⟨rfl, (Fr.put (rs := []) (fs := [(3, 3)]) Fr.rf eG_42 (Or.inr (by decide))), (gp_eq eG_42)⟩⟩)⟩⟩⟩⟩⟩⟩⟩)⟩⟩)⟩⟩⟩)⟩⟩⟩), wd_t ht hW⟩, hS.F ht⟩) hS.2.2 dX9_advance_160
          · have c_41 : 0 ≤ r_36.toInt := xI_nlt rfl rfl c_41
            refine lv_iload_n hx hb dX9_advance_149 rfl (lv_at hl 0 rfl) ?_
            refine lv_goto (tgt := 156) hx hb dX9_advance_150 rfl ?_
            refine S_putI (ty := .int) (C := RX9) (T := TX9) (N := 9) hx hb hg iX9 tyX9 tyX9_ok nmX9 hown hK hW hS kd_3 rfl 3 (lt_b rfl) (hg (Cond.fieldLink RX9 38 "SlabWalk$Tokens" "kind" "I") m262) (fun _ h9 => h9) rfl (by decide +kernel) rfl rfl rfl dX9_advance_156 (fun G_43 H locs eG_43 hW hS => ?_)
            have hB_G_43 : Bd G_43 := hB_G_37.put (lo := (-2147483648)) (hi := 2147483647) eG_43 rfl rfl rfl (tI_rng _).1 (tI_rng _).2 (hB_G_37.2.put eG_43 rfl)
            have hF := hF.put eG_43 (Or.inr (by decide))
            refine ic_1 hx hb dX9_advance_159 ?_
            exact W.zret (v := 1) hx hb hr (by decide) (fun t ht _ => ⟨⟨1, G_43, rfl, (P_tAdvance_mk ⟨hB_G_43, hF, ⟨by decide, by decide⟩, ⟨G_1, hX_5, hB_G_1, hq_2, ⟨G_11, hX_14, hB_G_11, hq_13, (Or.inl ⟨c_16, ⟨G_15, hB_G_15, (Fr.put (rs := []) (fs := [(3, 4)]) Fr.rf eG_15 (Or.inr (by decide))), (gp_eq eG_15), ⟨r_17, G_18, hX_21, (Or.inl ⟨c_23, ⟨r_24, G_25, hX_28, (Or.inl ⟨c_30, ⟨y_31, ty_31, ⟨y_33, ey_33.trans (congrFun (rw_put eG_32 (by decide)) _), ⟨y_34, ey_34, ⟨y_35, ey_35, ⟨G_32, hB_G_32, (Fr.put (rs := []) (fs := [(3, 2)]) Fr.rf eG_32 (Or.inr (by decide))), (gp_eq eG_32), ⟨r_36, G_37, hX_40, (Or.inr ⟨c_41, ⟨rfl, (Fr.put (rs := []) (fs := [(3, 3)]) Fr.rf eG_43 (Or.inr (by decide))), (gp_eq eG_43)⟩⟩)⟩⟩⟩⟩⟩⟩⟩)⟩⟩)⟩⟩⟩)⟩⟩⟩), wd_t ht hW⟩, hS.F ht⟩) hS.2.2 dX9_advance_160
        · have c_30 : r_24.toInt ≠ 0 := xI_ne rfl rfl c_30
          refine lv_aload_n hx hb dX9_advance_110 rfl (lv_at hl 0 rfl) ?_
          refine S_callv (va_runV (As := []) (rest := []) ⟨hx, hb, hml, hown, hts⟩ (k_tCutNumber l D k A a z G_25  ) (cwV 0 hts (gd_V hgd m707 m709 m7 m120 m710) rfl rfl rfl hd_X9_cutNumber ⟨Nat.le_of_ble_eq_true rfl, Nat.le_of_ble_eq_true rfl⟩) (pre_W hW hB_G_25 hK hZ hS kd_3 rfl) rfl rfl hl.1 rfl (lv_room (Nat.le_of_ble_eq_true rfl)) dX9_advance_111 ⟨Nat.le_of_ble_eq_true rfl, Nat.le_of_ble_eq_true rfl⟩) hS (fun G_45 H locs hpo hW hS => ?_)
          have hX_48 : P_tCutNumber G_25 G_45 := hpo
          obtain ⟨hB_G_45, hq_46, -⟩ := hpo
          have hF := hF.call9 hq_46 rfl rfl
          refine lv_goto (tgt := 159) hx hb dX9_advance_114 rfl ?_
          refine ic_1 hx hb dX9_advance_159 ?_
          exact W.zret (v := 1) hx hb hr (by decide) (fun t ht _ => ⟨⟨1, G_45, rfl, (P_tAdvance_mk ⟨hB_G_45, hF, ⟨by decide, by decide⟩, ⟨G_1, hX_5, hB_G_1, hq_2, ⟨G_11, hX_14, hB_G_11, hq_13, (Or.inl ⟨c_16, ⟨G_15, hB_G_15, (Fr.put (rs := []) (fs := [(3, 4)]) Fr.rf eG_15 (Or.inr (by decide))), (gp_eq eG_15), ⟨r_17, G_18, hX_21, (Or.inl ⟨c_23, ⟨r_24, G_25, hX_28, (Or.inr ⟨c_30, ⟨G_45, hX_48, ⟨rfl, rfl⟩⟩⟩)⟩⟩)⟩⟩⟩)⟩⟩⟩), wd_t ht hW⟩, hS.F ht⟩) hS.2.2 dX9_advance_160
      · have c_23 : r_17.toInt ≠ 0 := xI_ne rfl rfl c_23
        refine lv_aload_n hx hb dX9_advance_92 rfl (lv_at hl 0 rfl) ?_
        refine S_callv (va_runV (As := []) (rest := []) ⟨hx, hb, hml, hown, hts⟩ (k_tCutWord l D k A a z G_18  ) (cwV 0 hts (gd_V hgd m646 m648 m4 m120 m649) rfl rfl rfl hd_X9_cutWord ⟨Nat.le_of_ble_eq_true rfl, Nat.le_of_ble_eq_true rfl⟩) (pre_W hW hB_G_18 hK hZ hS kd_3 rfl) rfl rfl hl.1 rfl (lv_room (Nat.le_of_ble_eq_true rfl)) dX9_advance_93 ⟨Nat.le_of_ble_eq_true rfl, Nat.le_of_ble_eq_true rfl⟩) hS (fun G_50 H locs hpo hW hS => ?_)
        have hX_53 : P_tCutWord G_18 G_50 := hpo
        obtain ⟨hB_G_50, hq_51, -⟩ := hpo
        have hF := hF.call9 hq_51 rfl rfl
        refine lv_goto (tgt := 159) hx hb dX9_advance_96 rfl ?_
        refine ic_1 hx hb dX9_advance_159 ?_
        exact W.zret (v := 1) hx hb hr (by decide) (fun t ht _ => ⟨⟨1, G_50, rfl, (P_tAdvance_mk ⟨hB_G_50, hF, ⟨by decide, by decide⟩, ⟨G_1, hX_5, hB_G_1, hq_2, ⟨G_11, hX_14, hB_G_11, hq_13, (Or.inl ⟨c_16, ⟨G_15, hB_G_15, (Fr.put (rs := []) (fs := [(3, 4)]) Fr.rf eG_15 (Or.inr (by decide))), (gp_eq eG_15), ⟨r_17, G_18, hX_21, (Or.inr ⟨c_23, ⟨G_50, hX_53, ⟨rfl, rfl⟩⟩⟩)⟩⟩⟩)⟩⟩⟩), wd_t ht hW⟩, hS.F ht⟩) hS.2.2 dX9_advance_160
    · have c_16 : (G.1 3 1).toInt ≤ (G_1.1 3 2).toInt := xI_nlt rfl rfl c_16
      refine lv_aload_n hx hb dX9_advance_71 rfl (lv_at hl 0 rfl) ?_
      refine lv_sipush (v := 203) hx hb dX9_advance_72 (by decide) ?_
      refine S_putI (ty := .int) (C := RX9) (T := TX9) (N := 9) hx hb hg iX9 tyX9 tyX9_ok nmX9 hown hK hW hS kd_3 rfl 3 (lt_b rfl) (hg (Cond.fieldLink RX9 38 "SlabWalk$Tokens" "kind" "I") m262) (fun _ h9 => h9) rfl (by decide +kernel) rfl rfl rfl dX9_advance_75 (fun G_54 H locs eG_54 hW hS => ?_)
      have hB_G_54 : Bd G_54 := hB_G_15.put (lo := (-2147483648)) (hi := 2147483647) eG_54 rfl rfl rfl (tI_rng _).1 (tI_rng _).2 (hB_G_15.2.put eG_54 rfl)
      have hF := hF.put eG_54 (Or.inr (by decide))
      refine lv_goto (tgt := 159) hx hb dX9_advance_78 rfl ?_
      refine ic_1 hx hb dX9_advance_159 ?_
      exact W.zret (v := 1) hx hb hr (by decide) (fun t ht _ => ⟨⟨1, G_54, rfl, (P_tAdvance_mk ⟨hB_G_54, hF, ⟨by decide, by decide⟩, ⟨G_1, hX_5, hB_G_1, hq_2, ⟨G_11, hX_14, hB_G_11, hq_13, (Or.inr ⟨c_16, ⟨rfl, (Fr.put (rs := []) (fs := [(3, 3), (3, 4)]) (Fr.put (rs := []) (fs := [(3, 3), (3, 4)]) Fr.rf eG_15 (Or.inr (by decide))) eG_54 (Or.inr (by decide))), (gp_eq eG_54), ((gp_ne eG_54 (by decide)).trans (gp_eq eG_15))⟩⟩)⟩⟩⟩), wd_t ht hW⟩, hS.F ht⟩) hS.2.2 dX9_advance_160
  refine lv_icmp_ge (tgt := 52) hx hb dX9_advance_8 rfl (fun c_55 => ?_) (fun c_55 => ?_)
  · have c_55 : (G.1 3 1).toInt ≤ (G_1.1 3 2).toInt := xI_le rfl rfl c_55
    exact hJ_12 () _ _ _ ⟨G_1, (Jn_k_tAdvance_2_mk (Or.inl ⟨c_55, rfl⟩)), hW, hB_G_1, hF, (Fr.rf (rs := []) (fs := [])), hS, lv_sub hl [0] rfl⟩
  · have c_55 : (G_1.1 3 2).toInt < (G.1 3 1).toInt := xI_nle rfl rfl c_55
    refine lv_aload_n hx hb dX9_advance_11 rfl (lv_at hl 0 rfl) ?_
    refine S_getR (n := 32) (C := RX9) (T := TX9) (N := 9) hx hb hg iX9 hown hK hW kd_3 rfl 0 (lt_b rfl) (hg (Cond.fieldLink RX9 15 "SlabWalk$Tokens" "text" "[B") m258) (fun _ h9 => h9) rfl dX9_advance_12 ?_
    refine lv_aload_n hx hb dX9_advance_15 rfl (lv_at hl 0 rfl) ?_
    refine S_getI (v := (G_1.1 3 2)) (C := RX9) (T := TX9) (N := 9) hx hb hg iX9 hown hK hW kd_3 rfl 2 (lt_b rfl) (hg (Cond.fieldLink RX9 28 "SlabWalk$Tokens" "at" "I") m260) (fun _ h9 => h9) rfl rfl dX9_advance_16 ?_
    refine S_bald hx hb hK hW kd_32 (vin ((by first | exact b_8.1 | omega)) ((by first | exact ok_121 b_8.2 b_9.2 c_55 | omega))) dX9_advance_19 (fun y_56 ey_56 => ?_)
    have ty_56 : (-128) ≤ y_56.toInt ∧ y_56.toInt ≤ 127 := bv_32 hB_G_1 ey_56
    refine lv_bipush (v := 32) hx hb dX9_advance_20 (by decide) ?_
    refine lv_icmp_eq (tgt := 39) hx hb dX9_advance_22 rfl (fun c_57 => ?_) (fun c_57 => ?_)
    · have c_57 : y_56.toInt = 32 := xI_eq rfl rfl c_57
      refine lv_aload_n hx hb dX9_advance_39 rfl (lv_at hl 0 rfl) ?_
      refine lv_dup hx hb dX9_advance_40 rfl ?_
      refine S_getI (v := (G_1.1 3 2)) (C := RX9) (T := TX9) (N := 9) hx hb hg iX9 hown hK hW kd_3 rfl 2 (lt_b rfl) (hg (Cond.fieldLink RX9 28 "SlabWalk$Tokens" "at" "I") m260) (fun _ h9 => h9) rfl rfl dX9_advance_41 ?_
      refine ic_1 hx hb dX9_advance_44 ?_
      refine lv_iadd hx hb dX9_advance_45 ?_
      refine lv_topi (fun y_58 ey_58 => ?_)
      have ty_58 : y_58.toInt = (G_1.1 3 2).toInt + 1 := xI_add rfl rfl ey_58 ((by first | exact ok_21 b_8.1 | omega)) ((by first | exact ok_122 b_8.2 | omega))
      refine S_putI (ty := .int) (C := RX9) (T := TX9) (N := 9) hx hb hg iX9 tyX9 tyX9_ok nmX9 hown hK hW hS kd_3 rfl 2 (lt_b rfl) (hg (Cond.fieldLink RX9 28 "SlabWalk$Tokens" "at" "I") m260) (fun _ h9 => h9) rfl (by decide +kernel) rfl rfl rfl dX9_advance_46 (fun G_59 H locs eG_59 hW hS => ?_)
      have hB_G_59 : Bd G_59 := hB_G_1.put (V := y_58.toInt) (lo := 0) (hi := 1600) eG_59 rfl rfl rfl ((by first | exact ok_23 b_8.1 ty_58 | omega)) ((by first | exact ok_123 b_8.2 b_9.2 c_55 ty_58 | omega)) (hB_G_1.2.put eG_59 rfl)
      have hF := hF.put eG_59 (Or.inr (by decide))
      refine lv_goto (tgt := 0) hx hb dX9_advance_49 rfl ?_
      have g_60 : (G_59.1 3 2).toInt = y_58.toInt := (congrArg Int32.toInt (show G_59.1 3 2 = y_58 from (gp_eq eG_59)))
      exact ih_3 (1600 - (G_59.1 3 2).toInt : Int).toNat ((by first | (clear b_6 ty_56 c_57; omega) | omega)) _ _ _ ⟨G_59, (Int.toNat_of_nonneg ((by first | exact ok_124 b_8.2 b_9.2 c_55 ty_58 g_60 | omega))), (hX_5.st (St_k_tAdvance_1_mk ⟨G_1, G_59, rfl, rfl, hB_G_1, ⟨c_55, ⟨y_56, ey_56, (Or.inl ⟨c_57, ⟨y_58, ty_58, ⟨(Fr.put (rs := []) (fs := [(3, 2)]) Fr.rf eG_59 (Or.inr (by decide))), (gp_eq eG_59)⟩⟩⟩)⟩⟩⟩)), hW, hB_G_59, hF, (Fr.put (rs := []) (fs := [(3, 2)]) (Fr.call9 (rs := []) (fs := [(3, 2)]) Fr.rf hq_2 rfl rfl) eG_59 (Or.inr (by decide))), hS, lv_sub hl [0] rfl⟩
    · have c_57 : y_56.toInt ≠ 32 := xI_ne rfl rfl c_57
      refine lv_aload_n hx hb dX9_advance_25 rfl (lv_at hl 0 rfl) ?_
      refine S_getR (n := 32) (C := RX9) (T := TX9) (N := 9) hx hb hg iX9 hown hK hW kd_3 rfl 0 (lt_b rfl) (hg (Cond.fieldLink RX9 15 "SlabWalk$Tokens" "text" "[B") m258) (fun _ h9 => h9) rfl dX9_advance_26 ?_
      refine lv_aload_n hx hb dX9_advance_29 rfl (lv_at hl 0 rfl) ?_
      refine S_getI (v := (G_1.1 3 2)) (C := RX9) (T := TX9) (N := 9) hx hb hg iX9 hown hK hW kd_3 rfl 2 (lt_b rfl) (hg (Cond.fieldLink RX9 28 "SlabWalk$Tokens" "at" "I") m260) (fun _ h9 => h9) rfl rfl dX9_advance_30 ?_
      refine S_bald hx hb hK hW kd_32 (vin ((by first | exact b_8.1 | omega)) ((by first | exact ok_121 b_8.2 b_9.2 c_55 | omega))) dX9_advance_33 (fun y_61 ey_61 => ?_)
      have ty_61 : (-128) ≤ y_61.toInt ∧ y_61.toInt ≤ 127 := bv_32 hB_G_1 ey_61
      refine lv_bipush (v := 10) hx hb dX9_advance_34 (by decide) ?_
      refine lv_icmp_ne (tgt := 52) hx hb dX9_advance_36 rfl (fun c_62 => ?_) (fun c_62 => ?_)
      · have c_62 : y_61.toInt ≠ 10 := xI_ne rfl rfl c_62
        exact hJ_12 () _ _ _ ⟨G_1, (Jn_k_tAdvance_2_mk (Or.inr ⟨c_55, ⟨y_56, ey_56, ⟨c_57, ⟨y_61, ey_61, ⟨c_62, rfl⟩⟩⟩⟩⟩)), hW, hB_G_1, hF, (Fr.rf (rs := []) (fs := [])), hS, lv_sub hl [0] rfl⟩
      · have c_62 : y_61.toInt = 10 := xI_eq rfl rfl c_62
        refine lv_aload_n hx hb dX9_advance_39 rfl (lv_at hl 0 rfl) ?_
        refine lv_dup hx hb dX9_advance_40 rfl ?_
        refine S_getI (v := (G_1.1 3 2)) (C := RX9) (T := TX9) (N := 9) hx hb hg iX9 hown hK hW kd_3 rfl 2 (lt_b rfl) (hg (Cond.fieldLink RX9 28 "SlabWalk$Tokens" "at" "I") m260) (fun _ h9 => h9) rfl rfl dX9_advance_41 ?_
        refine ic_1 hx hb dX9_advance_44 ?_
        refine lv_iadd hx hb dX9_advance_45 ?_
        refine lv_topi (fun y_63 ey_63 => ?_)
        have ty_63 : y_63.toInt = (G_1.1 3 2).toInt + 1 := xI_add rfl rfl ey_63 ((by first | exact ok_21 b_8.1 | omega)) ((by first | exact ok_122 b_8.2 | omega))
        refine S_putI (ty := .int) (C := RX9) (T := TX9) (N := 9) hx hb hg iX9 tyX9 tyX9_ok nmX9 hown hK hW hS kd_3 rfl 2 (lt_b rfl) (hg (Cond.fieldLink RX9 28 "SlabWalk$Tokens" "at" "I") m260) (fun _ h9 => h9) rfl (by decide +kernel) rfl rfl rfl dX9_advance_46 (fun G_64 H locs eG_64 hW hS => ?_)
        have hB_G_64 : Bd G_64 := hB_G_1.put (V := y_63.toInt) (lo := 0) (hi := 1600) eG_64 rfl rfl rfl ((by first | exact ok_23 b_8.1 ty_63 | omega)) ((by first | exact ok_123 b_8.2 b_9.2 c_55 ty_63 | omega)) (hB_G_1.2.put eG_64 rfl)
        have hF := hF.put eG_64 (Or.inr (by decide))
        refine lv_goto (tgt := 0) hx hb dX9_advance_49 rfl ?_
        have g_65 : (G_64.1 3 2).toInt = y_63.toInt := (congrArg Int32.toInt (show G_64.1 3 2 = y_63 from (gp_eq eG_64)))
        exact ih_3 (1600 - (G_64.1 3 2).toInt : Int).toNat ((by first | (clear b_6 ty_56 c_57 ty_61 c_62; omega) | omega)) _ _ _ ⟨G_64, (Int.toNat_of_nonneg ((by first | exact ok_124 b_8.2 b_9.2 c_55 ty_63 g_65 | omega))), (hX_5.st (St_k_tAdvance_1_mk ⟨G_1, G_64, rfl, rfl, hB_G_1, ⟨c_55, ⟨y_56, ey_56, (Or.inr ⟨c_57, ⟨y_61, ey_61, ⟨c_62, ⟨y_63, ty_63, ⟨(Fr.put (rs := []) (fs := [(3, 2)]) Fr.rf eG_64 (Or.inr (by decide))), (gp_eq eG_64)⟩⟩⟩⟩⟩)⟩⟩⟩)), hW, hB_G_64, hF, (Fr.put (rs := []) (fs := [(3, 2)]) (Fr.call9 (rs := []) (fs := [(3, 2)]) Fr.rf hq_2 rfl rfl) eG_64 (Or.inr (by decide))), hS, lv_sub hl [0] rfl⟩

set_option maxHeartbeats 4000000 in
set_option maxRecDepth 100000 in
theorem k_tPass (l : Launch) (D : va_G) (k : KT) (A : Nat → Prop) (a : Nat → Nat) (z : SK) (G : GS) (p0 : Int32)  : Met l yX9_pass (WS yX9_pass cX9_pass 2 (some .boolean)) ({ frames := 7, cells := 0, slots := 0, locals := 148 }) (va_Pc [.ref (a 3), .int p0] (cW D k A a z G)) (va_Qi (fun (r : Int32) (G1 : GS) => P_tPass p0 G r G1) (fun (G1 : GS) t => Wd D k A a G1 t.heap) A) 0 0 A := by
  refine Met.ofW (cc := cX9_pass) (maxL := 2) (ret := (some .boolean)) (by decide) rfl ?_
  intro p e s m args below meth c s₁ B hml hv
  obtain ⟨rfl, hW, hB_G, hK, hZ⟩ := hv
  have hx := B.exec
  have hb := B.bytes
  have hr := B.returns
  have hts := atoms_spec (ws := WS yX9_pass cX9_pass 2 (some .boolean)) B.pre
  have hgd : ∀ w ∈ gd, w ∈ WS yX9_pass cX9_pass 2 (some .boolean) := fun w h => List.mem_cons_of_mem _ h
  have hg : ∀ w ∈ gd, w.before _ s = true := fun w h => hts w (hgd w h)
  have hown : s.vm.findClass RX9 = some m.cls := findClass_of_methodNamed B.named
  have hS : va_S A s.heap s.heap [] := va_S.rf
  have hF : Fr [] [(3, 2), (3, 3), (3, 4), (3, 5), (3, 6), (3, 7), (3, 8)] G G := Fr.rf
  have hl := lv_entry ([.ref (a 3), .int p0]) (n := 2) (Nat.le_of_ble_eq_true rfl)
  rw [lg_entry_eq]
  generalize (lg_sl ([.ref (a 3), .int p0]) ++ List.replicate (2 - (lg_sl ([.ref (a 3), .int p0])).length) Slot.unset).toArray = ls at hl ⊢
  have hl : lv_has ls 2 [(0, .ref (a 3)), (1, .int p0)] := hl
  refine lv_aload_n hx hb dX9_pass_0 rfl (lv_at hl 0 rfl) ?_
  refine S_getI (v := (G.1 3 3)) (C := RX9) (T := TX9) (N := 9) hx hb hg iX9 hown hK hW kd_3 rfl 3 (lt_b rfl) (hg (Cond.fieldLink RX9 38 "SlabWalk$Tokens" "kind" "I") m262) (fun _ h9 => h9) rfl rfl dX9_pass_1 ?_
  refine lv_iload_n hx hb dX9_pass_4 rfl (lv_at hl 1 rfl) ?_
  refine lv_icmp_ne (tgt := 15) hx hb dX9_pass_5 rfl (fun c_1 => ?_) (fun c_1 => ?_)
  · have c_1 : (G.1 3 3).toInt ≠ p0.toInt := xI_ne rfl rfl c_1
    refine lv_aload_n hx hb dX9_pass_15 rfl (lv_at hl 0 rfl) ?_
    refine ic_2 hx hb dX9_pass_16 ?_
    refine S_calli (va_runV (As := [.int 2]) (rest := []) ⟨hx, hb, hml, hown, hts⟩ (k_tRefuse l D k A a z G 2 ⟨by decide, by decide⟩) (cwV 1 hts (gd_V hgd m790 m779 m780 m120 m781) rfl rfl rfl hd_X9_refuse ⟨Nat.le_of_ble_eq_true rfl, Nat.le_of_ble_eq_true rfl⟩) (pre_W hW hB_G hK hZ hS kd_3 rfl) rfl rfl hl.1 rfl (lv_room (Nat.le_of_ble_eq_true rfl)) dX9_pass_17 ⟨Nat.le_of_ble_eq_true rfl, Nat.le_of_ble_eq_true rfl⟩) hS (fun r_2 G_3 H locs hpo hW hS => ?_)
    have hX_6 : P_tRefuse 2 G r_2 G_3 := hpo
    obtain ⟨hB_G_3, hq_4, f_7, -⟩ := hpo
    have hF := hF.call9 hq_4 rfl rfl
    exact W.zret (v := r_2) hx hb hr (nar_z ((by first | exact f_7.1 | omega)) ((by first | exact ok_130 f_7.2 | omega))) (fun t ht _ => ⟨⟨r_2, G_3, rfl, (P_tPass_mk ⟨hB_G_3, hF, ⟨(by first | exact f_7.1 | omega), (by first | exact ok_130 f_7.2 | omega)⟩, (Or.inr ⟨c_1, ⟨r_2, G_3, hX_6, ⟨rfl, rfl⟩⟩⟩)⟩), wd_t ht hW⟩, hS.F ht⟩) hS.2.2 dX9_pass_20
  · have c_1 : (G.1 3 3).toInt = p0.toInt := xI_eq rfl rfl c_1
    refine lv_aload_n hx hb dX9_pass_8 rfl (lv_at hl 0 rfl) ?_
    refine S_calli (va_runV (As := []) (rest := []) ⟨hx, hb, hml, hown, hts⟩ (k_tAdvance l D k A a z G  ) (cwV 0 hts (gd_V hgd m638 m639 m640 m120 m641) rfl rfl rfl hd_X9_advance ⟨Nat.le_of_ble_eq_true rfl, Nat.le_of_ble_eq_true rfl⟩) (pre_W hW hB_G hK hZ hS kd_3 rfl) rfl rfl hl.1 rfl (lv_room (Nat.le_of_ble_eq_true rfl)) dX9_pass_9 ⟨Nat.le_of_ble_eq_true rfl, Nat.le_of_ble_eq_true rfl⟩) hS (fun r_8 G_9 H locs hpo hW hS => ?_)
    have hX_12 : P_tAdvance G r_8 G_9 := hpo
    obtain ⟨hB_G_9, hq_10, f_13, -⟩ := hpo
    have hF := hF.call9 hq_10 rfl rfl
    refine lv_goto (tgt := 20) hx hb dX9_pass_12 rfl ?_
    exact W.zret (v := r_8) hx hb hr (nar_z ((by first | exact ok_131 f_13.1 | omega)) ((by first | exact f_13.2 | omega))) (fun t ht _ => ⟨⟨r_8, G_9, rfl, (P_tPass_mk ⟨hB_G_9, hF, ⟨(by first | exact ok_131 f_13.1 | omega), (by first | exact f_13.2 | omega)⟩, (Or.inl ⟨c_1, ⟨r_8, G_9, hX_12, ⟨rfl, rfl⟩⟩⟩)⟩), wd_t ht hW⟩, hS.F ht⟩) hS.2.2 dX9_pass_20

set_option maxHeartbeats 4000000 in
set_option maxRecDepth 100000 in
theorem k_tOpen (l : Launch) (D : va_G) (k : KT) (A : Nat → Prop) (a : Nat → Nat) (z : SK) (G : GS) (p0 : Int32) (ha_p0 : 0 ≤ p0.toInt ∧ p0.toInt ≤ 1600) : Met l yX9_open (WS yX9_open cX9_open 2 none) ({ frames := 7, cells := 0, slots := 0, locals := 148 }) (va_Pc [.ref (a 3), .int p0] (cW D k A a z G)) (va_Qv (fun (G1 : GS) => P_tOpen p0 G G1) (fun (G1 : GS) t => Wd D k A a G1 t.heap) A) 0 0 A := by
  refine Met.ofW (cc := cX9_open) (maxL := 2) (ret := none) (by decide) rfl ?_
  intro p e s m args below meth c s₁ B hml hv
  obtain ⟨rfl, hW, hB_G, hK, hZ⟩ := hv
  have hx := B.exec
  have hb := B.bytes
  have hr := B.returns
  have hts := atoms_spec (ws := WS yX9_open cX9_open 2 none) B.pre
  have hgd : ∀ w ∈ gd, w ∈ WS yX9_open cX9_open 2 none := fun w h => List.mem_cons_of_mem _ h
  have hg : ∀ w ∈ gd, w.before _ s = true := fun w h => hts w (hgd w h)
  have hown : s.vm.findClass RX9 = some m.cls := findClass_of_methodNamed B.named
  have hS : va_S A s.heap s.heap [] := va_S.rf
  have hF : Fr [] [(3, 1), (3, 2), (3, 3), (3, 4), (3, 5), (3, 6), (3, 7), (3, 8)] G G := Fr.rf
  have hl := lv_entry ([.ref (a 3), .int p0]) (n := 2) (Nat.le_of_ble_eq_true rfl)
  rw [lg_entry_eq]
  generalize (lg_sl ([.ref (a 3), .int p0]) ++ List.replicate (2 - (lg_sl ([.ref (a 3), .int p0])).length) Slot.unset).toArray = ls at hl ⊢
  have hl : lv_has ls 2 [(0, .ref (a 3)), (1, .int p0)] := hl
  refine lv_aload_n hx hb dX9_open_0 rfl (lv_at hl 0 rfl) ?_
  refine lv_iload_n hx hb dX9_open_1 rfl (lv_at hl 1 rfl) ?_
  refine lv_aload_n hx hb dX9_open_2 rfl (lv_at hl 0 rfl) ?_
  refine S_getR (n := 32) (C := RX9) (T := TX9) (N := 9) hx hb hg iX9 hown hK hW kd_3 rfl 0 (lt_b rfl) (hg (Cond.fieldLink RX9 15 "SlabWalk$Tokens" "text" "[B") m258) (fun _ h9 => h9) rfl dX9_open_3 ?_
  refine S_alen (v := 1600) hx hb hK hW kd_32 0 rfl rfl dX9_open_6 ?_
  refine va_mmin hx hb (by rw [hml]; exact hl.1.symm) hown (hg (Cond.methodLink RX9 19 Lib.Math.min.name) m635) (hg (Cond.static Lib.Math.min.name) m636) (hg (Cond.initialized "java/lang/Math") m132) (hg (Cond.code Lib.Math.min.name Lib.Math.min.code 2 (some .int)) m637) (Nat.le_of_ble_eq_true rfl) (Nat.le_of_ble_eq_true rfl) (Nat.le_of_ble_eq_true rfl) (Nat.le_of_ble_eq_true rfl) dX9_open_7 ?_
  refine lv_topi (fun y_1 ey_1 => ?_)
  have ty_1 := xI_min (X := p0.toInt) (Y := 1600) rfl rfl ey_1
  refine S_putI (ty := .int) (C := RX9) (T := TX9) (N := 9) hx hb hg iX9 tyX9 tyX9_ok nmX9 hown hK hW hS kd_3 rfl 1 (lt_b rfl) (hg (Cond.fieldLink RX9 25 "SlabWalk$Tokens" "size" "I") m259) (fun _ h9 => h9) rfl (by decide +kernel) rfl rfl rfl dX9_open_10 (fun G_2 H locs eG_2 hW hS => ?_)
  have hB_G_2 : Bd G_2 := hB_G.put (V := y_1.toInt) (lo := 0) (hi := 1600) eG_2 rfl rfl rfl ((by first | exact ok_132 ha_p0.1 ty_1 | omega)) ((by first | exact ok_133 ha_p0.2 ty_1 | omega)) (hB_G.2.put eG_2 rfl)
  have hF := hF.put eG_2 (Or.inr (by decide))
  refine lv_aload_n hx hb dX9_open_13 rfl (lv_at hl 0 rfl) ?_
  refine ic_0 hx hb dX9_open_14 ?_
  refine S_putI (ty := .int) (C := RX9) (T := TX9) (N := 9) hx hb hg iX9 tyX9 tyX9_ok nmX9 hown hK hW hS kd_3 rfl 2 (lt_b rfl) (hg (Cond.fieldLink RX9 28 "SlabWalk$Tokens" "at" "I") m260) (fun _ h9 => h9) rfl (by decide +kernel) rfl rfl rfl dX9_open_15 (fun G_3 H locs eG_3 hW hS => ?_)
  have hB_G_3 : Bd G_3 := hB_G_2.put (V := 0) (lo := 0) (hi := 1600) eG_3 rfl rfl rfl (by decide) (by decide) (hB_G_2.2.put eG_3 rfl)
  have hF := hF.put eG_3 (Or.inr (by decide))
  refine lv_aload_n hx hb dX9_open_18 rfl (lv_at hl 0 rfl) ?_
  refine ic_0 hx hb dX9_open_19 ?_
  refine S_putI (ty := .int) (C := RX9) (T := TX9) (N := 9) hx hb hg iX9 tyX9 tyX9_ok nmX9 hown hK hW hS kd_3 rfl 7 (lt_b rfl) (hg (Cond.fieldLink RX9 31 "SlabWalk$Tokens" "fault" "I") m270) (fun _ h9 => h9) rfl (by decide +kernel) rfl rfl rfl dX9_open_20 (fun G_4 H locs eG_4 hW hS => ?_)
  have hB_G_4 : Bd G_4 := hB_G_3.put (V := 0) (lo := 0) (hi := 4) eG_4 rfl rfl rfl (by decide) (by decide) (hB_G_3.2.put eG_4 rfl)
  have hF := hF.put eG_4 (Or.inr (by decide))
  refine lv_aload_n hx hb dX9_open_23 rfl (lv_at hl 0 rfl) ?_
  refine ic_m1 hx hb dX9_open_24 ?_
  refine S_putI (ty := .int) (C := RX9) (T := TX9) (N := 9) hx hb hg iX9 tyX9 tyX9_ok nmX9 hown hK hW hS kd_3 rfl 8 (lt_b rfl) (hg (Cond.fieldLink RX9 9 "SlabWalk$Tokens" "faultPlace" "I") m272) (fun _ h9 => h9) rfl (by decide +kernel) rfl rfl rfl dX9_open_25 (fun G_5 H locs eG_5 hW hS => ?_)
  have hB_G_5 : Bd G_5 := hB_G_4.put (V := (-1)) (lo := (-1)) (hi := 1600) eG_5 rfl rfl rfl (by decide) (by decide) (hB_G_4.2.put eG_5 rfl)
  have hF := hF.put eG_5 (Or.inr (by decide))
  refine lv_aload_n hx hb dX9_open_28 rfl (lv_at hl 0 rfl) ?_
  refine S_calli (va_runV (As := []) (rest := []) ⟨hx, hb, hml, hown, hts⟩ (k_tAdvance l D k A a z G_5  ) (cwV 0 hts (gd_V hgd m638 m639 m640 m120 m641) rfl rfl rfl hd_X9_advance ⟨Nat.le_of_ble_eq_true rfl, Nat.le_of_ble_eq_true rfl⟩) (pre_W hW hB_G_5 hK hZ hS kd_3 rfl) rfl rfl hl.1 rfl (lv_room (Nat.le_of_ble_eq_true rfl)) dX9_open_29 ⟨Nat.le_of_ble_eq_true rfl, Nat.le_of_ble_eq_true rfl⟩) hS (fun r_6 G_7 H locs hpo hW hS => ?_)
  have hX_10 : P_tAdvance G_5 r_6 G_7 := hpo
  obtain ⟨hB_G_7, hq_8, f_11, -⟩ := hpo
  have hF := hF.call9 hq_8 rfl rfl
  refine lv_pop hx hb dX9_open_32 rfl ?_
  exact W.vret hx hb hr (fun t ht _ => ⟨⟨G_7, rfl, (P_tOpen_mk ⟨hB_G_7, hF, ⟨y_1, ty_1, ⟨G_5, hB_G_5, (Fr.put (rs := []) (fs := [(3, 1), (3, 2), (3, 7), (3, 8)]) (Fr.put (rs := []) (fs := [(3, 1), (3, 2), (3, 7), (3, 8)]) (Fr.put (rs := []) (fs := [(3, 1), (3, 2), (3, 7), (3, 8)]) (Fr.put (rs := []) (fs := [(3, 1), (3, 2), (3, 7), (3, 8)]) Fr.rf eG_2 (Or.inr (by decide))) eG_3 (Or.inr (by decide))) eG_4 (Or.inr (by decide))) eG_5 (Or.inr (by decide))), ((gp_ne eG_5 (by decide)).trans ((gp_ne eG_4 (by decide)).trans ((gp_ne eG_3 (by decide)).trans (gp_eq eG_2)))), ((gp_ne eG_5 (by decide)).trans ((gp_ne eG_4 (by decide)).trans (gp_eq eG_3))), ((gp_ne eG_5 (by decide)).trans (gp_eq eG_4)), (gp_eq eG_5), ⟨r_6, G_7, hX_10, rfl⟩⟩⟩⟩), wd_t ht hW⟩, hS.F ht⟩) hS.2.2 dX9_open_33

theorem m351 : Cond.fieldLink RX3 18 "SlabWalk$Lines" "values" "[I" ∈ gd := gdc_1_14 11 rfl gw_fieldLink
theorem m352 : Cond.fieldLink RX3 66 "SlabWalk$Lines" "top" "I" ∈ gd := gdc_1_14 12 rfl gw_fieldLink
theorem m896 : Cond.static yX6_part ∈ gd := gdc_4_3 12 rfl gw_static
theorem m897 : Cond.code yX6_part cX6_part 2 (some .int) ∈ gd := gdc_4_3 13 rfl gw_code
theorem m939 : Cond.methodLink RX3 89 yX6_part ∈ gd := gdc_4_6 7 rfl gw_methodLink
theorem dX3_join_1 : decode cX3_join 1 = .ok (.lookupswitch 168 #[(42, 152), (43, 144), (45, 148), (47, 156), (60, 111), (61, 133), (62, 122), (144, 83), (145, 97)], 83) := dq_of (by decide +kernel)
noncomputable def rbX3_join_0 : List (Nat × List Nat) := [(0, [26]), (84, [27]), (85, [154, 0, 7]), (88, [28]), (89, [153, 0, 7]), (92, [4]), (93, [167, 0, 4]), (96, [3]), (97, [172]), (98, [27]), (99, [153, 0, 11]), (102, [28]), (103, [153, 0, 7]), (106, [4]), (107, [167, 0, 4]), (110, [3]), (111, [172]), (112, [27]), (113, [28]), (114, [162, 0, 7]), (117, [4]), (118, [167, 0, 4]), (121, [3]), (122, [172])]
theorem rcX3_join_0 : dgo (lb cX3_join) 0 rbX3_join_0 = true := by decide +kernel
theorem dX3_join_0 : decode cX3_join 0 = .ok (.iload_n 0, 1) := dk_26 (dw rcX3_join_0 0 rfl)
theorem dX3_join_84 : decode cX3_join 84 = .ok (.iload_n 1, 1) := dk_27 (dw rcX3_join_0 1 rfl)
theorem dX3_join_85 : decode cX3_join 85 = .ok (.ifCond .ne 7, 3) := dk_154 (dw rcX3_join_0 2 rfl) rfl
theorem dX3_join_88 : decode cX3_join 88 = .ok (.iload_n 2, 1) := dk_28 (dw rcX3_join_0 3 rfl)
theorem dX3_join_89 : decode cX3_join 89 = .ok (.ifCond .eq 7, 3) := dk_153 (dw rcX3_join_0 4 rfl) rfl
theorem dX3_join_92 : decode cX3_join 92 = .ok (.iconst 1, 1) := dk_4 (dw rcX3_join_0 5 rfl)
theorem dX3_join_93 : decode cX3_join 93 = .ok (.goto 4, 3) := dk_167 (dw rcX3_join_0 6 rfl) rfl
theorem dX3_join_96 : decode cX3_join 96 = .ok (.iconst 0, 1) := dk_3 (dw rcX3_join_0 7 rfl)
theorem dX3_join_97 : decode cX3_join 97 = .ok (.ireturn, 1) := dk_172 (dw rcX3_join_0 8 rfl)
theorem dX3_join_98 : decode cX3_join 98 = .ok (.iload_n 1, 1) := dk_27 (dw rcX3_join_0 9 rfl)
theorem dX3_join_99 : decode cX3_join 99 = .ok (.ifCond .eq 11, 3) := dk_153 (dw rcX3_join_0 10 rfl) rfl
theorem dX3_join_102 : decode cX3_join 102 = .ok (.iload_n 2, 1) := dk_28 (dw rcX3_join_0 11 rfl)
theorem dX3_join_103 : decode cX3_join 103 = .ok (.ifCond .eq 7, 3) := dk_153 (dw rcX3_join_0 12 rfl) rfl
theorem dX3_join_106 : decode cX3_join 106 = .ok (.iconst 1, 1) := dk_4 (dw rcX3_join_0 13 rfl)
theorem dX3_join_107 : decode cX3_join 107 = .ok (.goto 4, 3) := dk_167 (dw rcX3_join_0 14 rfl) rfl
theorem dX3_join_110 : decode cX3_join 110 = .ok (.iconst 0, 1) := dk_3 (dw rcX3_join_0 15 rfl)
theorem dX3_join_111 : decode cX3_join 111 = .ok (.ireturn, 1) := dk_172 (dw rcX3_join_0 16 rfl)
theorem dX3_join_112 : decode cX3_join 112 = .ok (.iload_n 1, 1) := dk_27 (dw rcX3_join_0 17 rfl)
theorem dX3_join_113 : decode cX3_join 113 = .ok (.iload_n 2, 1) := dk_28 (dw rcX3_join_0 18 rfl)
theorem dX3_join_114 : decode cX3_join 114 = .ok (.if_icmp .ge 7, 3) := dk_162 (dw rcX3_join_0 19 rfl) rfl
theorem dX3_join_117 : decode cX3_join 117 = .ok (.iconst 1, 1) := dk_4 (dw rcX3_join_0 20 rfl)
theorem dX3_join_118 : decode cX3_join 118 = .ok (.goto 4, 3) := dk_167 (dw rcX3_join_0 21 rfl) rfl
theorem dX3_join_121 : decode cX3_join 121 = .ok (.iconst 0, 1) := dk_3 (dw rcX3_join_0 22 rfl)
theorem dX3_join_122 : decode cX3_join 122 = .ok (.ireturn, 1) := dk_172 (dw rcX3_join_0 23 rfl)
noncomputable def rbX3_join_123 : List (Nat × List Nat) := [(123, [27]), (124, [28]), (125, [164, 0, 7]), (128, [4]), (129, [167, 0, 4]), (132, [3]), (133, [172]), (134, [27]), (135, [28]), (136, [160, 0, 7]), (139, [4]), (140, [167, 0, 4]), (143, [3]), (144, [172]), (145, [27]), (146, [28]), (147, [96]), (148, [172]), (149, [27]), (150, [28]), (151, [100]), (152, [172]), (153, [27]), (154, [28])]
theorem rcX3_join_123 : dgo (lb cX3_join) 0 rbX3_join_123 = true := by decide +kernel
theorem dX3_join_123 : decode cX3_join 123 = .ok (.iload_n 1, 1) := dk_27 (dw rcX3_join_123 0 rfl)
theorem dX3_join_124 : decode cX3_join 124 = .ok (.iload_n 2, 1) := dk_28 (dw rcX3_join_123 1 rfl)
theorem dX3_join_125 : decode cX3_join 125 = .ok (.if_icmp .le 7, 3) := dk_164 (dw rcX3_join_123 2 rfl) rfl
theorem dX3_join_128 : decode cX3_join 128 = .ok (.iconst 1, 1) := dk_4 (dw rcX3_join_123 3 rfl)
theorem dX3_join_129 : decode cX3_join 129 = .ok (.goto 4, 3) := dk_167 (dw rcX3_join_123 4 rfl) rfl
theorem dX3_join_132 : decode cX3_join 132 = .ok (.iconst 0, 1) := dk_3 (dw rcX3_join_123 5 rfl)
theorem dX3_join_133 : decode cX3_join 133 = .ok (.ireturn, 1) := dk_172 (dw rcX3_join_123 6 rfl)
theorem dX3_join_134 : decode cX3_join 134 = .ok (.iload_n 1, 1) := dk_27 (dw rcX3_join_123 7 rfl)
theorem dX3_join_135 : decode cX3_join 135 = .ok (.iload_n 2, 1) := dk_28 (dw rcX3_join_123 8 rfl)
theorem dX3_join_136 : decode cX3_join 136 = .ok (.if_icmp .ne 7, 3) := dk_160 (dw rcX3_join_123 9 rfl) rfl
theorem dX3_join_139 : decode cX3_join 139 = .ok (.iconst 1, 1) := dk_4 (dw rcX3_join_123 10 rfl)
theorem dX3_join_140 : decode cX3_join 140 = .ok (.goto 4, 3) := dk_167 (dw rcX3_join_123 11 rfl) rfl
theorem dX3_join_143 : decode cX3_join 143 = .ok (.iconst 0, 1) := dk_3 (dw rcX3_join_123 12 rfl)
theorem dX3_join_144 : decode cX3_join 144 = .ok (.ireturn, 1) := dk_172 (dw rcX3_join_123 13 rfl)
theorem dX3_join_145 : decode cX3_join 145 = .ok (.iload_n 1, 1) := dk_27 (dw rcX3_join_123 14 rfl)
theorem dX3_join_146 : decode cX3_join 146 = .ok (.iload_n 2, 1) := dk_28 (dw rcX3_join_123 15 rfl)
theorem dX3_join_147 : decode cX3_join 147 = .ok (.iadd, 1) := dk_96 (dw rcX3_join_123 16 rfl)
theorem dX3_join_148 : decode cX3_join 148 = .ok (.ireturn, 1) := dk_172 (dw rcX3_join_123 17 rfl)
theorem dX3_join_149 : decode cX3_join 149 = .ok (.iload_n 1, 1) := dk_27 (dw rcX3_join_123 18 rfl)
theorem dX3_join_150 : decode cX3_join 150 = .ok (.iload_n 2, 1) := dk_28 (dw rcX3_join_123 19 rfl)
theorem dX3_join_151 : decode cX3_join 151 = .ok (.isub, 1) := dk_100 (dw rcX3_join_123 20 rfl)
theorem dX3_join_152 : decode cX3_join 152 = .ok (.ireturn, 1) := dk_172 (dw rcX3_join_123 21 rfl)
theorem dX3_join_153 : decode cX3_join 153 = .ok (.iload_n 1, 1) := dk_27 (dw rcX3_join_123 22 rfl)
theorem dX3_join_154 : decode cX3_join 154 = .ok (.iload_n 2, 1) := dk_28 (dw rcX3_join_123 23 rfl)
noncomputable def rbX3_join_155 : List (Nat × List Nat) := [(155, [104]), (156, [172]), (157, [28]), (158, [154, 0, 7]), (161, [3]), (162, [167, 0, 6]), (165, [27]), (166, [28]), (167, [108]), (168, [172]), (169, [28]), (170, [154, 0, 7]), (173, [3]), (174, [167, 0, 6]), (177, [27]), (178, [28]), (179, [112]), (180, [172])]
theorem rcX3_join_155 : dgo (lb cX3_join) 0 rbX3_join_155 = true := by decide +kernel
theorem dX3_join_155 : decode cX3_join 155 = .ok (.imul, 1) := dk_104 (dw rcX3_join_155 0 rfl)
theorem dX3_join_156 : decode cX3_join 156 = .ok (.ireturn, 1) := dk_172 (dw rcX3_join_155 1 rfl)
theorem dX3_join_157 : decode cX3_join 157 = .ok (.iload_n 2, 1) := dk_28 (dw rcX3_join_155 2 rfl)
theorem dX3_join_158 : decode cX3_join 158 = .ok (.ifCond .ne 7, 3) := dk_154 (dw rcX3_join_155 3 rfl) rfl
theorem dX3_join_161 : decode cX3_join 161 = .ok (.iconst 0, 1) := dk_3 (dw rcX3_join_155 4 rfl)
theorem dX3_join_162 : decode cX3_join 162 = .ok (.goto 6, 3) := dk_167 (dw rcX3_join_155 5 rfl) rfl
theorem dX3_join_165 : decode cX3_join 165 = .ok (.iload_n 1, 1) := dk_27 (dw rcX3_join_155 6 rfl)
theorem dX3_join_166 : decode cX3_join 166 = .ok (.iload_n 2, 1) := dk_28 (dw rcX3_join_155 7 rfl)
theorem dX3_join_167 : decode cX3_join 167 = .ok (.idiv, 1) := dk_108 (dw rcX3_join_155 8 rfl)
theorem dX3_join_168 : decode cX3_join 168 = .ok (.ireturn, 1) := dk_172 (dw rcX3_join_155 9 rfl)
theorem dX3_join_169 : decode cX3_join 169 = .ok (.iload_n 2, 1) := dk_28 (dw rcX3_join_155 10 rfl)
theorem dX3_join_170 : decode cX3_join 170 = .ok (.ifCond .ne 7, 3) := dk_154 (dw rcX3_join_155 11 rfl) rfl
theorem dX3_join_173 : decode cX3_join 173 = .ok (.iconst 0, 1) := dk_3 (dw rcX3_join_155 12 rfl)
theorem dX3_join_174 : decode cX3_join 174 = .ok (.goto 6, 3) := dk_167 (dw rcX3_join_155 13 rfl) rfl
theorem dX3_join_177 : decode cX3_join 177 = .ok (.iload_n 1, 1) := dk_27 (dw rcX3_join_155 14 rfl)
theorem dX3_join_178 : decode cX3_join 178 = .ok (.iload_n 2, 1) := dk_28 (dw rcX3_join_155 15 rfl)
theorem dX3_join_179 : decode cX3_join 179 = .ok (.irem, 1) := dk_112 (dw rcX3_join_155 16 rfl)
theorem dX3_join_180 : decode cX3_join 180 = .ok (.ireturn, 1) := dk_172 (dw rcX3_join_155 17 rfl)
theorem dX3_ownOf_1 : decode cX3_ownOf 1 = .ok (.tableswitch 51 147 150 #[45, 33, 39, 31], 31) := dq_of (by decide +kernel)
noncomputable def rbX3_ownOf_0 : List (Nat × List Nat) := [(0, [26]), (32, [28]), (33, [172]), (34, [27]), (35, [4]), (36, [184, 0, 89]), (39, [172]), (40, [27]), (41, [5]), (42, [184, 0, 89]), (45, [172]), (46, [27]), (47, [6]), (48, [184, 0, 89]), (51, [172]), (52, [27]), (53, [26]), (54, [17, 0, 139]), (57, [100]), (58, [122]), (59, [4]), (60, [126]), (61, [172])]
theorem rcX3_ownOf_0 : dgo (lb cX3_ownOf) 0 rbX3_ownOf_0 = true := by decide +kernel
theorem dX3_ownOf_0 : decode cX3_ownOf 0 = .ok (.iload_n 0, 1) := dk_26 (dw rcX3_ownOf_0 0 rfl)
theorem dX3_ownOf_32 : decode cX3_ownOf 32 = .ok (.iload_n 2, 1) := dk_28 (dw rcX3_ownOf_0 1 rfl)
theorem dX3_ownOf_33 : decode cX3_ownOf 33 = .ok (.ireturn, 1) := dk_172 (dw rcX3_ownOf_0 2 rfl)
theorem dX3_ownOf_34 : decode cX3_ownOf 34 = .ok (.iload_n 1, 1) := dk_27 (dw rcX3_ownOf_0 3 rfl)
theorem dX3_ownOf_35 : decode cX3_ownOf 35 = .ok (.iconst 1, 1) := dk_4 (dw rcX3_ownOf_0 4 rfl)
theorem dX3_ownOf_36 : decode cX3_ownOf 36 = .ok (.invokestatic 89, 3) := dk_184 (dw rcX3_ownOf_0 5 rfl) rfl
theorem dX3_ownOf_39 : decode cX3_ownOf 39 = .ok (.ireturn, 1) := dk_172 (dw rcX3_ownOf_0 6 rfl)
theorem dX3_ownOf_40 : decode cX3_ownOf 40 = .ok (.iload_n 1, 1) := dk_27 (dw rcX3_ownOf_0 7 rfl)
theorem dX3_ownOf_41 : decode cX3_ownOf 41 = .ok (.iconst 2, 1) := dk_5 (dw rcX3_ownOf_0 8 rfl)
theorem dX3_ownOf_42 : decode cX3_ownOf 42 = .ok (.invokestatic 89, 3) := dk_184 (dw rcX3_ownOf_0 9 rfl) rfl
theorem dX3_ownOf_45 : decode cX3_ownOf 45 = .ok (.ireturn, 1) := dk_172 (dw rcX3_ownOf_0 10 rfl)
theorem dX3_ownOf_46 : decode cX3_ownOf 46 = .ok (.iload_n 1, 1) := dk_27 (dw rcX3_ownOf_0 11 rfl)
theorem dX3_ownOf_47 : decode cX3_ownOf 47 = .ok (.iconst 3, 1) := dk_6 (dw rcX3_ownOf_0 12 rfl)
theorem dX3_ownOf_48 : decode cX3_ownOf 48 = .ok (.invokestatic 89, 3) := dk_184 (dw rcX3_ownOf_0 13 rfl) rfl
theorem dX3_ownOf_51 : decode cX3_ownOf 51 = .ok (.ireturn, 1) := dk_172 (dw rcX3_ownOf_0 14 rfl)
theorem dX3_ownOf_52 : decode cX3_ownOf 52 = .ok (.iload_n 1, 1) := dk_27 (dw rcX3_ownOf_0 15 rfl)
theorem dX3_ownOf_53 : decode cX3_ownOf 53 = .ok (.iload_n 0, 1) := dk_26 (dw rcX3_ownOf_0 16 rfl)
theorem dX3_ownOf_54 : decode cX3_ownOf 54 = .ok (.sipush 139, 3) := dk_17 (dw rcX3_ownOf_0 17 rfl) rfl
theorem dX3_ownOf_57 : decode cX3_ownOf 57 = .ok (.isub, 1) := dk_100 (dw rcX3_ownOf_0 18 rfl)
theorem dX3_ownOf_58 : decode cX3_ownOf 58 = .ok (.ishr, 1) := dk_122 (dw rcX3_ownOf_0 19 rfl)
theorem dX3_ownOf_59 : decode cX3_ownOf 59 = .ok (.iconst 1, 1) := dk_4 (dw rcX3_ownOf_0 20 rfl)
theorem dX3_ownOf_60 : decode cX3_ownOf 60 = .ok (.iand, 1) := dk_126 (dw rcX3_ownOf_0 21 rfl)
theorem dX3_ownOf_61 : decode cX3_ownOf 61 = .ok (.ireturn, 1) := dk_172 (dw rcX3_ownOf_0 22 rfl)
noncomputable def rbX3_pop_0 : List (Nat × List Nat) := [(0, [42]), (1, [180, 0, 66]), (4, [158, 0, 22]), (7, [42]), (8, [180, 0, 18]), (11, [42]), (12, [89]), (13, [180, 0, 66]), (16, [4]), (17, [100]), (18, [90]), (19, [181, 0, 66]), (22, [46]), (23, [167, 0, 4]), (26, [3]), (27, [172])]
theorem rcX3_pop_0 : dgo (lb cX3_pop) 0 rbX3_pop_0 = true := by decide +kernel
theorem dX3_pop_0 : decode cX3_pop 0 = .ok (.aload_n 0, 1) := dk_42 (dw rcX3_pop_0 0 rfl)
theorem dX3_pop_1 : decode cX3_pop 1 = .ok (.getfield 66, 3) := dk_180 (dw rcX3_pop_0 1 rfl) rfl
theorem dX3_pop_4 : decode cX3_pop 4 = .ok (.ifCond .le 22, 3) := dk_158 (dw rcX3_pop_0 2 rfl) rfl
theorem dX3_pop_7 : decode cX3_pop 7 = .ok (.aload_n 0, 1) := dk_42 (dw rcX3_pop_0 3 rfl)
theorem dX3_pop_8 : decode cX3_pop 8 = .ok (.getfield 18, 3) := dk_180 (dw rcX3_pop_0 4 rfl) rfl
theorem dX3_pop_11 : decode cX3_pop 11 = .ok (.aload_n 0, 1) := dk_42 (dw rcX3_pop_0 5 rfl)
theorem dX3_pop_12 : decode cX3_pop 12 = .ok (.dup, 1) := dk_89 (dw rcX3_pop_0 6 rfl)
theorem dX3_pop_13 : decode cX3_pop 13 = .ok (.getfield 66, 3) := dk_180 (dw rcX3_pop_0 7 rfl) rfl
theorem dX3_pop_16 : decode cX3_pop 16 = .ok (.iconst 1, 1) := dk_4 (dw rcX3_pop_0 8 rfl)
theorem dX3_pop_17 : decode cX3_pop 17 = .ok (.isub, 1) := dk_100 (dw rcX3_pop_0 9 rfl)
theorem dX3_pop_18 : decode cX3_pop 18 = .ok (.dup_x1, 1) := dk_90 (dw rcX3_pop_0 10 rfl)
theorem dX3_pop_19 : decode cX3_pop 19 = .ok (.putfield 66, 3) := dk_181 (dw rcX3_pop_0 11 rfl) rfl
theorem dX3_pop_22 : decode cX3_pop 22 = .ok (.iaload, 1) := dk_46 (dw rcX3_pop_0 12 rfl)
theorem dX3_pop_23 : decode cX3_pop 23 = .ok (.goto 4, 3) := dk_167 (dw rcX3_pop_0 13 rfl) rfl
theorem dX3_pop_26 : decode cX3_pop 26 = .ok (.iconst 0, 1) := dk_3 (dw rcX3_pop_0 14 rfl)
theorem dX3_pop_27 : decode cX3_pop 27 = .ok (.ireturn, 1) := dk_172 (dw rcX3_pop_0 15 rfl)
noncomputable def rbX3_push_0 : List (Nat × List Nat) := [(0, [42]), (1, [180, 0, 66]), (4, [16, 100]), (6, [162, 0, 20]), (9, [42]), (10, [180, 0, 18]), (13, [42]), (14, [89]), (15, [180, 0, 66]), (18, [90]), (19, [4]), (20, [96]), (21, [181, 0, 66]), (24, [27]), (25, [79]), (26, [177])]
theorem rcX3_push_0 : dgo (lb cX3_push) 0 rbX3_push_0 = true := by decide +kernel
theorem dX3_push_0 : decode cX3_push 0 = .ok (.aload_n 0, 1) := dk_42 (dw rcX3_push_0 0 rfl)
theorem dX3_push_1 : decode cX3_push 1 = .ok (.getfield 66, 3) := dk_180 (dw rcX3_push_0 1 rfl) rfl
theorem dX3_push_4 : decode cX3_push 4 = .ok (.bipush 100, 2) := dk_16 (dw rcX3_push_0 2 rfl) rfl
theorem dX3_push_6 : decode cX3_push 6 = .ok (.if_icmp .ge 20, 3) := dk_162 (dw rcX3_push_0 3 rfl) rfl
theorem dX3_push_9 : decode cX3_push 9 = .ok (.aload_n 0, 1) := dk_42 (dw rcX3_push_0 4 rfl)
theorem dX3_push_10 : decode cX3_push 10 = .ok (.getfield 18, 3) := dk_180 (dw rcX3_push_0 5 rfl) rfl
theorem dX3_push_13 : decode cX3_push 13 = .ok (.aload_n 0, 1) := dk_42 (dw rcX3_push_0 6 rfl)
theorem dX3_push_14 : decode cX3_push 14 = .ok (.dup, 1) := dk_89 (dw rcX3_push_0 7 rfl)
theorem dX3_push_15 : decode cX3_push 15 = .ok (.getfield 66, 3) := dk_180 (dw rcX3_push_0 8 rfl) rfl
theorem dX3_push_18 : decode cX3_push 18 = .ok (.dup_x1, 1) := dk_90 (dw rcX3_push_0 9 rfl)
theorem dX3_push_19 : decode cX3_push 19 = .ok (.iconst 1, 1) := dk_4 (dw rcX3_push_0 10 rfl)
theorem dX3_push_20 : decode cX3_push 20 = .ok (.iadd, 1) := dk_96 (dw rcX3_push_0 11 rfl)
theorem dX3_push_21 : decode cX3_push 21 = .ok (.putfield 66, 3) := dk_181 (dw rcX3_push_0 12 rfl) rfl
theorem dX3_push_24 : decode cX3_push 24 = .ok (.iload_n 1, 1) := dk_27 (dw rcX3_push_0 13 rfl)
theorem dX3_push_25 : decode cX3_push 25 = .ok (.iastore, 1) := dk_79 (dw rcX3_push_0 14 rfl)
theorem dX3_push_26 : decode cX3_push 26 = .ok (.return_, 1) := dk_177 (dw rcX3_push_0 15 rfl)
set_option maxHeartbeats 4000000 in
set_option maxRecDepth 100000 in
theorem k_lPush (l : Launch) (D : va_G) (k : KT) (A : Nat → Prop) (a : Nat → Nat) (z : SK) (G : GS) (p0 : Int32)  : Met l yX3_push (WS yX3_push cX3_push 2 none) ({ frames := 0, cells := 0, slots := 0, locals := 0 }) (va_Pc [.ref (a 6), .int p0] (cW D k A a z G)) (va_Qv (fun (G1 : GS) => P_lPush p0 G G1) (fun (G1 : GS) t => Wd D k A a G1 t.heap) A) 0 0 A := by
  refine Met.ofW (cc := cX3_push) (maxL := 2) (ret := none) (by decide) rfl ?_
  intro p e s m args below meth c s₁ B hml hv
  obtain ⟨rfl, hW, hB_G, hK, hZ⟩ := hv
  have hx := B.exec
  have hb := B.bytes
  have hr := B.returns
  have hts := atoms_spec (ws := WS yX3_push cX3_push 2 none) B.pre
  have hgd : ∀ w ∈ gd, w ∈ WS yX3_push cX3_push 2 none := fun w h => List.mem_cons_of_mem _ h
  have hg : ∀ w ∈ gd, w.before _ s = true := fun w h => hts w (hgd w h)
  have hown : s.vm.findClass RX3 = some m.cls := findClass_of_methodNamed B.named
  have hS : va_S A s.heap s.heap [] := va_S.rf
  have hF : Fr [39] [(6, 3)] G G := Fr.rf
  have hl := lv_entry ([.ref (a 6), .int p0]) (n := 2) (Nat.le_of_ble_eq_true rfl)
  rw [lg_entry_eq]
  generalize (lg_sl ([.ref (a 6), .int p0]) ++ List.replicate (2 - (lg_sl ([.ref (a 6), .int p0])).length) Slot.unset).toArray = ls at hl ⊢
  have hl : lv_has ls 2 [(0, .ref (a 6)), (1, .int p0)] := hl
  refine lv_aload_n hx hb dX3_push_0 rfl (lv_at hl 0 rfl) ?_
  have b_1 : 0 ≤ (G.1 6 3).toInt ∧ (G.1 6 3).toInt ≤ 100 := bd_6_3 hB_G
  refine S_getI (v := (G.1 6 3)) (C := RX3) (T := TX3) (N := 5) hx hb hg iX3 hown hK hW kd_6 rfl 3 (lt_b rfl) (hg (Cond.fieldLink RX3 66 "SlabWalk$Lines" "top" "I") m352) (fun _ h9 => h9) rfl rfl dX3_push_1 ?_
  refine lv_bipush (v := 100) hx hb dX3_push_4 (by decide) ?_
  refine lv_icmp_ge (tgt := 26) hx hb dX3_push_6 rfl (fun c_2 => ?_) (fun c_2 => ?_)
  · have c_2 : 100 ≤ (G.1 6 3).toInt := xI_le rfl rfl c_2
    exact W.vret hx hb hr (fun t ht _ => ⟨⟨G, rfl, (P_lPush_mk ⟨hB_G, hF, (Or.inl ⟨c_2, rfl⟩)⟩), wd_t ht hW⟩, hS.F ht⟩) hS.2.2 dX3_push_26
  · have c_2 : (G.1 6 3).toInt < 100 := xI_nle rfl rfl c_2
    refine lv_aload_n hx hb dX3_push_9 rfl (lv_at hl 0 rfl) ?_
    refine S_getR (n := 39) (C := RX3) (T := TX3) (N := 5) hx hb hg iX3 hown hK hW kd_6 rfl 2 (lt_b rfl) (hg (Cond.fieldLink RX3 18 "SlabWalk$Lines" "values" "[I") m351) (fun _ h9 => h9) rfl dX3_push_10 ?_
    refine lv_aload_n hx hb dX3_push_13 rfl (lv_at hl 0 rfl) ?_
    refine lv_dup hx hb dX3_push_14 rfl ?_
    refine S_getI (v := (G.1 6 3)) (C := RX3) (T := TX3) (N := 5) hx hb hg iX3 hown hK hW kd_6 rfl 3 (lt_b rfl) (hg (Cond.fieldLink RX3 66 "SlabWalk$Lines" "top" "I") m352) (fun _ h9 => h9) rfl rfl dX3_push_15 ?_
    refine lv_dup_x1 hx hb dX3_push_18 rfl rfl ?_
    refine ic_1 hx hb dX3_push_19 ?_
    refine lv_iadd hx hb dX3_push_20 ?_
    refine lv_topi (fun y_3 ey_3 => ?_)
    have ty_3 : y_3.toInt = (G.1 6 3).toInt + 1 := xI_add rfl rfl ey_3 ((by first | exact ok_21 b_1.1 | omega)) ((by first | exact ok_134 b_1.2 | omega))
    refine S_putI (ty := .int) (C := RX3) (T := TX3) (N := 5) hx hb hg iX3 tyX3 tyX3_ok nmX3 hown hK hW hS kd_6 rfl 3 (lt_b rfl) (hg (Cond.fieldLink RX3 66 "SlabWalk$Lines" "top" "I") m352) (fun _ h9 => h9) rfl (by decide +kernel) rfl rfl rfl dX3_push_21 (fun G_4 H locs eG_4 hW hS => ?_)
    have hB_G_4 : Bd G_4 := hB_G.put (V := y_3.toInt) (lo := 0) (hi := 100) eG_4 rfl rfl rfl ((by first | exact ok_23 b_1.1 ty_3 | omega)) ((by first | exact ok_135 b_1.2 c_2 ty_3 | omega)) (hB_G.2.put eG_4 rfl)
    have hF := hF.put eG_4 (Or.inr (by decide))
    refine lv_iload_n hx hb dX3_push_24 rfl (lv_at hl 1 rfl) ?_
    refine S_iast hx hb hK hW hS kd_39 (vin ((by first | exact b_1.1 | omega)) ((by first | exact ok_136 b_1.2 c_2 | omega))) dX3_push_25 (fun G_5 H locs eG_5 hW hS => ?_)
    have hB_G_5 : Bd G_5 := hB_G_4.put (lo := (-2147483648)) (hi := 2147483647) eG_5 rfl rfl rfl (tI_rng _).1 (tI_rng _).2 (hB_G_4.2.put eG_5 rfl)
    have hF := hF.put eG_5 (Or.inl (by decide))
    exact W.vret hx hb hr (fun t ht _ => ⟨⟨G_5, rfl, (P_lPush_mk ⟨hB_G_5, hF, (Or.inr ⟨c_2, ⟨y_3, ty_3, ⟨(Fr.put (rs := [39]) (fs := [(6, 3)]) (Fr.put (rs := [39]) (fs := [(6, 3)]) Fr.rf eG_4 (Or.inr (by decide))) eG_5 (Or.inl (by decide))), ((gp_ne eG_5 (fun q => absurd q.1 (Nat.ne_of_beq_eq_false rfl))).trans (gp_eq eG_4)), (rw_ast eG_5).trans (congrArg (fun q => upd q ((G.1 6 3).toNatClampNeg) p0) (rw_put eG_4 (by decide)))⟩⟩⟩)⟩), wd_t ht hW⟩, hS.F ht⟩) hS.2.2 dX3_push_26

set_option maxHeartbeats 4000000 in
set_option maxRecDepth 100000 in
theorem k_lPop (l : Launch) (D : va_G) (k : KT) (A : Nat → Prop) (a : Nat → Nat) (z : SK) (G : GS)   : Met l yX3_pop (WS yX3_pop cX3_pop 1 (some .int)) ({ frames := 0, cells := 0, slots := 0, locals := 0 }) (va_Pc [.ref (a 6)] (cW D k A a z G)) (va_Qi (fun (r : Int32) (G1 : GS) => P_lPop G r G1) (fun (G1 : GS) t => Wd D k A a G1 t.heap) A) 0 0 A := by
  refine Met.ofW (cc := cX3_pop) (maxL := 1) (ret := (some .int)) (by decide) rfl ?_
  intro p e s m args below meth c s₁ B hml hv
  obtain ⟨rfl, hW, hB_G, hK, hZ⟩ := hv
  have hx := B.exec
  have hb := B.bytes
  have hr := B.returns
  have hts := atoms_spec (ws := WS yX3_pop cX3_pop 1 (some .int)) B.pre
  have hgd : ∀ w ∈ gd, w ∈ WS yX3_pop cX3_pop 1 (some .int) := fun w h => List.mem_cons_of_mem _ h
  have hg : ∀ w ∈ gd, w.before _ s = true := fun w h => hts w (hgd w h)
  have hown : s.vm.findClass RX3 = some m.cls := findClass_of_methodNamed B.named
  have hS : va_S A s.heap s.heap [] := va_S.rf
  have hF : Fr [] [(6, 3)] G G := Fr.rf
  have hl := lv_entry ([.ref (a 6)]) (n := 1) (Nat.le_of_ble_eq_true rfl)
  rw [lg_entry_eq]
  generalize (lg_sl ([.ref (a 6)]) ++ List.replicate (1 - (lg_sl ([.ref (a 6)])).length) Slot.unset).toArray = ls at hl ⊢
  have hl : lv_has ls 1 [(0, .ref (a 6))] := hl
  refine lv_aload_n hx hb dX3_pop_0 rfl (lv_at hl 0 rfl) ?_
  have b_1 : 0 ≤ (G.1 6 3).toInt ∧ (G.1 6 3).toInt ≤ 100 := bd_6_3 hB_G
  refine S_getI (v := (G.1 6 3)) (C := RX3) (T := TX3) (N := 5) hx hb hg iX3 hown hK hW kd_6 rfl 3 (lt_b rfl) (hg (Cond.fieldLink RX3 66 "SlabWalk$Lines" "top" "I") m352) (fun _ h9 => h9) rfl rfl dX3_pop_1 ?_
  refine lv_if_le (tgt := 26) hx hb dX3_pop_4 rfl (fun c_2 => ?_) (fun c_2 => ?_)
  · have c_2 : (G.1 6 3).toInt ≤ 0 := xI_le rfl rfl c_2
    refine ic_0 hx hb dX3_pop_26 ?_
    exact W.iret (v := 0) hx hb hr (fun t ht _ => ⟨⟨0, G, rfl, (P_lPop_mk ⟨hB_G, hF, (Or.inl ⟨c_2, ⟨rfl, rfl⟩⟩)⟩), wd_t ht hW⟩, hS.F ht⟩) hS.2.2 dX3_pop_27
  · have c_2 : 0 < (G.1 6 3).toInt := xI_nle rfl rfl c_2
    refine lv_aload_n hx hb dX3_pop_7 rfl (lv_at hl 0 rfl) ?_
    refine S_getR (n := 39) (C := RX3) (T := TX3) (N := 5) hx hb hg iX3 hown hK hW kd_6 rfl 2 (lt_b rfl) (hg (Cond.fieldLink RX3 18 "SlabWalk$Lines" "values" "[I") m351) (fun _ h9 => h9) rfl dX3_pop_8 ?_
    refine lv_aload_n hx hb dX3_pop_11 rfl (lv_at hl 0 rfl) ?_
    refine lv_dup hx hb dX3_pop_12 rfl ?_
    refine S_getI (v := (G.1 6 3)) (C := RX3) (T := TX3) (N := 5) hx hb hg iX3 hown hK hW kd_6 rfl 3 (lt_b rfl) (hg (Cond.fieldLink RX3 66 "SlabWalk$Lines" "top" "I") m352) (fun _ h9 => h9) rfl rfl dX3_pop_13 ?_
    refine ic_1 hx hb dX3_pop_16 ?_
    refine lv_isub hx hb dX3_pop_17 ?_
    refine lv_topi (fun y_3 ey_3 => ?_)
    have ty_3 : y_3.toInt = (G.1 6 3).toInt - 1 := xI_sub rfl rfl ey_3 ((by first | exact ok_137 c_2 | omega)) ((by first | exact ok_138 b_1.2 | omega))
    refine lv_dup_x1 hx hb dX3_pop_18 rfl rfl ?_
    refine S_putI (ty := .int) (C := RX3) (T := TX3) (N := 5) hx hb hg iX3 tyX3 tyX3_ok nmX3 hown hK hW hS kd_6 rfl 3 (lt_b rfl) (hg (Cond.fieldLink RX3 66 "SlabWalk$Lines" "top" "I") m352) (fun _ h9 => h9) rfl (by decide +kernel) rfl rfl rfl dX3_pop_19 (fun G_4 H locs eG_4 hW hS => ?_)
    have hB_G_4 : Bd G_4 := hB_G.put (V := y_3.toInt) (lo := 0) (hi := 100) eG_4 rfl rfl rfl ((by first | exact ok_139 c_2 ty_3 | omega)) ((by first | exact ok_140 b_1.2 ty_3 | omega)) (hB_G.2.put eG_4 rfl)
    have hF := hF.put eG_4 (Or.inr (by decide))
    refine S_iald hx hb hK hW kd_39 (vin ((by first | exact ok_139 c_2 ty_3 | omega)) ((by first | exact ok_141 b_1.2 ty_3 | omega))) dX3_pop_22 (fun y_5 ey_5 => ?_)
    refine lv_goto (tgt := 27) hx hb dX3_pop_23 rfl ?_
    exact W.iret (v := y_5) hx hb hr (fun t ht _ => ⟨⟨y_5, G_4, rfl, (P_lPop_mk ⟨hB_G_4, hF, (Or.inr ⟨c_2, ⟨y_3, ty_3, ⟨y_5, ey_5.trans (congrFun (rw_put eG_4 (by decide)) _), ⟨rfl, (Fr.put (rs := []) (fs := [(6, 3)]) Fr.rf eG_4 (Or.inr (by decide))), (gp_eq eG_4)⟩⟩⟩⟩)⟩), wd_t ht hW⟩, hS.F ht⟩) hS.2.2 dX3_pop_27

set_option maxHeartbeats 4000000 in
set_option maxRecDepth 100000 in
theorem k_lOwn (l : Launch) (D : va_G) (k : KT) (A : Nat → Prop) (a : Nat → Nat) (z : SK) (G : GS) (p0 : Int32) (p1 : Int32) (p2 : Int32)  : Met l yX3_ownOf (WS yX3_ownOf cX3_ownOf 3 (some .int)) ({ frames := 1, cells := 0, slots := 0, locals := 21 }) (va_Pc [.int p0, .int p1, .int p2] (cW D k A a z G)) (va_Qi (fun (r : Int32) (G1 : GS) => P_lOwn p0 p1 p2 G r G1) (fun (G1 : GS) t => Wd D k A a G1 t.heap) A) 0 0 A := by
  refine Met.ofW (cc := cX3_ownOf) (maxL := 3) (ret := (some .int)) (by decide) rfl ?_
  intro p e s m args below meth c s₁ B hml hv
  obtain ⟨rfl, hW, hB_G, hK, hZ⟩ := hv
  have hx := B.exec
  have hb := B.bytes
  have hr := B.returns
  have hts := atoms_spec (ws := WS yX3_ownOf cX3_ownOf 3 (some .int)) B.pre
  have hgd : ∀ w ∈ gd, w ∈ WS yX3_ownOf cX3_ownOf 3 (some .int) := fun w h => List.mem_cons_of_mem _ h
  have hg : ∀ w ∈ gd, w.before _ s = true := fun w h => hts w (hgd w h)
  have hown : s.vm.findClass RX3 = some m.cls := findClass_of_methodNamed B.named
  have hS : va_S A s.heap s.heap [] := va_S.rf
  have hF : Fr [] [] G G := Fr.rf
  have hl := lv_entry ([.int p0, .int p1, .int p2]) (n := 3) (Nat.le_of_ble_eq_true rfl)
  rw [lg_entry_eq]
  generalize (lg_sl ([.int p0, .int p1, .int p2]) ++ List.replicate (3 - (lg_sl ([.int p0, .int p1, .int p2])).length) Slot.unset).toArray = ls at hl ⊢
  have hl : lv_has ls 3 [(0, .int p0), (1, .int p1), (2, .int p2)] := hl
  refine lv_iload_n hx hb dX3_ownOf_0 rfl (lv_at hl 0 rfl) ?_
  by_cases c_1 : p0 = 147
  · refine lv_tableIn (tgt := 46) hx hb dX3_ownOf_1 (by rw [c_1]; decide) (by rw [c_1]; decide) (off := 45) (by rw [c_1]; decide) (by decide) ?_
    have c_1 : p0.toInt = 147 := xI_eq rfl rfl c_1
    refine lv_iload_n hx hb dX3_ownOf_46 rfl (lv_at hl 1 rfl) ?_
    refine ic_3 hx hb dX3_ownOf_47 ?_
    refine S_calli (va_runS (As := [.int p1, .int 3]) (rest := []) ⟨hx, hb, hml, hown, hts⟩ (k_part l D k A a z G p1 3 ) (va_cwS 2 hts (gd_S hgd m939 m896 m118 m897) rfl rfl rfl hd_X6_part.2 ⟨Nat.le_of_ble_eq_true rfl, Nat.le_of_ble_eq_true rfl⟩) (pre_S hW hB_G hK hZ hS) rfl rfl hl.1 rfl (lv_room (Nat.le_of_ble_eq_true rfl)) dX3_ownOf_48 ⟨Nat.le_of_ble_eq_true rfl, Nat.le_of_ble_eq_true rfl⟩) hS (fun r_2 G_3 H locs hpo hW hS => ?_)
    have hX_6 : P_part p1 3 G r_2 G_3 := hpo
    obtain ⟨hB_G_3, hq_4, -⟩ := hpo
    have hF := hF.call9 hq_4 rfl rfl
    exact W.iret (v := r_2) hx hb hr (fun t ht _ => ⟨⟨r_2, G_3, rfl, (P_lOwn_mk ⟨hB_G_3, hF, (Or.inl ⟨c_1, ⟨r_2, G_3, hX_6, ⟨rfl, rfl⟩⟩⟩)⟩), wd_t ht hW⟩, hS.F ht⟩) hS.2.2 dX3_ownOf_51
  by_cases c_7 : p0 = 148
  · refine lv_tableIn (tgt := 34) hx hb dX3_ownOf_1 (by rw [c_7]; decide) (by rw [c_7]; decide) (off := 33) (by rw [c_7]; decide) (by decide) ?_
    have c_7 : p0.toInt = 148 := xI_eq rfl rfl c_7
    refine lv_iload_n hx hb dX3_ownOf_34 rfl (lv_at hl 1 rfl) ?_
    refine ic_1 hx hb dX3_ownOf_35 ?_
    refine S_calli (va_runS (As := [.int p1, .int 1]) (rest := []) ⟨hx, hb, hml, hown, hts⟩ (k_part l D k A a z G p1 1 ) (va_cwS 2 hts (gd_S hgd m939 m896 m118 m897) rfl rfl rfl hd_X6_part.2 ⟨Nat.le_of_ble_eq_true rfl, Nat.le_of_ble_eq_true rfl⟩) (pre_S hW hB_G hK hZ hS) rfl rfl hl.1 rfl (lv_room (Nat.le_of_ble_eq_true rfl)) dX3_ownOf_36 ⟨Nat.le_of_ble_eq_true rfl, Nat.le_of_ble_eq_true rfl⟩) hS (fun r_8 G_9 H locs hpo hW hS => ?_)
    have hX_12 : P_part p1 1 G r_8 G_9 := hpo
    obtain ⟨hB_G_9, hq_10, -⟩ := hpo
    have hF := hF.call9 hq_10 rfl rfl
    exact W.iret (v := r_8) hx hb hr (fun t ht _ => ⟨⟨r_8, G_9, rfl, (P_lOwn_mk ⟨hB_G_9, hF, (Or.inr ⟨(xI_ne (Y := 147) rfl rfl c_1), (Or.inl ⟨c_7, ⟨r_8, G_9, hX_12, ⟨rfl, rfl⟩⟩⟩)⟩)⟩), wd_t ht hW⟩, hS.F ht⟩) hS.2.2 dX3_ownOf_39
  by_cases c_13 : p0 = 149
  · refine lv_tableIn (tgt := 40) hx hb dX3_ownOf_1 (by rw [c_13]; decide) (by rw [c_13]; decide) (off := 39) (by rw [c_13]; decide) (by decide) ?_
    have c_13 : p0.toInt = 149 := xI_eq rfl rfl c_13
    refine lv_iload_n hx hb dX3_ownOf_40 rfl (lv_at hl 1 rfl) ?_
    refine ic_2 hx hb dX3_ownOf_41 ?_
    refine S_calli (va_runS (As := [.int p1, .int 2]) (rest := []) ⟨hx, hb, hml, hown, hts⟩ (k_part l D k A a z G p1 2 ) (va_cwS 2 hts (gd_S hgd m939 m896 m118 m897) rfl rfl rfl hd_X6_part.2 ⟨Nat.le_of_ble_eq_true rfl, Nat.le_of_ble_eq_true rfl⟩) (pre_S hW hB_G hK hZ hS) rfl rfl hl.1 rfl (lv_room (Nat.le_of_ble_eq_true rfl)) dX3_ownOf_42 ⟨Nat.le_of_ble_eq_true rfl, Nat.le_of_ble_eq_true rfl⟩) hS (fun r_14 G_15 H locs hpo hW hS => ?_)
    have hX_18 : P_part p1 2 G r_14 G_15 := hpo
    obtain ⟨hB_G_15, hq_16, -⟩ := hpo
    have hF := hF.call9 hq_16 rfl rfl
    exact W.iret (v := r_14) hx hb hr (fun t ht _ => ⟨⟨r_14, G_15, rfl, (P_lOwn_mk ⟨hB_G_15, hF, (Or.inr ⟨(xI_ne (Y := 147) rfl rfl c_1), (Or.inr ⟨(xI_ne (Y := 148) rfl rfl c_7), (Or.inl ⟨c_13, ⟨r_14, G_15, hX_18, ⟨rfl, rfl⟩⟩⟩)⟩)⟩)⟩), wd_t ht hW⟩, hS.F ht⟩) hS.2.2 dX3_ownOf_45
  by_cases c_19 : p0 = 150
  · refine lv_tableIn (tgt := 32) hx hb dX3_ownOf_1 (by rw [c_19]; decide) (by rw [c_19]; decide) (off := 31) (by rw [c_19]; decide) (by decide) ?_
    have c_19 : p0.toInt = 150 := xI_eq rfl rfl c_19
    refine lv_iload_n hx hb dX3_ownOf_32 rfl (lv_at hl 2 rfl) ?_
    exact W.iret (v := p2) hx hb hr (fun t ht _ => ⟨⟨p2, G, rfl, (P_lOwn_mk ⟨hB_G, hF, (Or.inr ⟨(xI_ne (Y := 147) rfl rfl c_1), (Or.inr ⟨(xI_ne (Y := 148) rfl rfl c_7), (Or.inr ⟨(xI_ne (Y := 149) rfl rfl c_13), (Or.inl ⟨c_19, ⟨rfl, rfl⟩⟩)⟩)⟩)⟩)⟩), wd_t ht hW⟩, hS.F ht⟩) hS.2.2 dX3_ownOf_33
  refine lv_tableOut (tgt := 52) hx hb dX3_ownOf_1 (tb_out (lo := 147) (hi := 150) (by have c_1 := xI_ne (Y := 147) rfl rfl c_1; have c_7 := xI_ne (Y := 148) rfl rfl c_7; have c_13 := xI_ne (Y := 149) rfl rfl c_13; have c_19 := xI_ne (Y := 150) rfl rfl c_19; omega)) (by decide) ?_
  have c_1 := xI_ne (Y := 147) rfl rfl c_1
  have c_7 := xI_ne (Y := 148) rfl rfl c_7
  have c_13 := xI_ne (Y := 149) rfl rfl c_13
  have c_19 := xI_ne (Y := 150) rfl rfl c_19
  refine lv_iload_n hx hb dX3_ownOf_52 rfl (lv_at hl 1 rfl) ?_
  refine lv_iload_n hx hb dX3_ownOf_53 rfl (lv_at hl 0 rfl) ?_
  refine lv_sipush (v := 139) hx hb dX3_ownOf_54 (by decide) ?_
  refine lv_isub hx hb dX3_ownOf_57 ?_
  refine lv_topi (fun y_20 ey_20 => ?_)
  refine lv_ishr hx hb dX3_ownOf_58 ?_
  refine lv_topi (fun y_21 ey_21 => ?_)
  refine ic_1 hx hb dX3_ownOf_59 ?_
  refine lv_iand hx hb dX3_ownOf_60 ?_
  refine lv_topi (fun y_22 ey_22 => ?_)
  have ty_22 := xI_and (Y := 1) rfl ey_22 (by decide)
  exact W.iret (v := y_22) hx hb hr (fun t ht _ => ⟨⟨y_22, G, rfl, (P_lOwn_mk ⟨hB_G, hF, (Or.inr ⟨c_1, (Or.inr ⟨c_7, (Or.inr ⟨c_13, (Or.inr ⟨c_19, ⟨y_20, ey_20, ⟨y_21, ey_21, ⟨y_22, ey_22, ⟨rfl, rfl⟩⟩⟩⟩⟩)⟩)⟩)⟩)⟩), wd_t ht hW⟩, hS.F ht⟩) hS.2.2 dX3_ownOf_61

set_option maxHeartbeats 4000000 in
set_option maxRecDepth 100000 in
theorem k_lJoin (l : Launch) (D : va_G) (k : KT) (A : Nat → Prop) (a : Nat → Nat) (z : SK) (G : GS) (p0 : Int32) (p1 : Int32) (p2 : Int32)  : Met l yX3_join (WS yX3_join cX3_join 3 (some .int)) ({ frames := 0, cells := 0, slots := 0, locals := 0 }) (va_Pc [.int p0, .int p1, .int p2] (cW D k A a z G)) (va_Qi (fun (r : Int32) (G1 : GS) => P_lJoin p0 p1 p2 G r G1) (fun (G1 : GS) t => Wd D k A a G1 t.heap) A) 0 0 A := by
  refine Met.ofW (cc := cX3_join) (maxL := 3) (ret := (some .int)) (by decide) rfl ?_
  intro p e s m args below meth c s₁ B hml hv
  obtain ⟨rfl, hW, hB_G, hK, hZ⟩ := hv
  have hx := B.exec
  have hb := B.bytes
  have hr := B.returns
  have hts := atoms_spec (ws := WS yX3_join cX3_join 3 (some .int)) B.pre
  have hgd : ∀ w ∈ gd, w ∈ WS yX3_join cX3_join 3 (some .int) := fun w h => List.mem_cons_of_mem _ h
  have hg : ∀ w ∈ gd, w.before _ s = true := fun w h => hts w (hgd w h)
  have hown : s.vm.findClass RX3 = some m.cls := findClass_of_methodNamed B.named
  have hS : va_S A s.heap s.heap [] := va_S.rf
  have hF : Fr [] [] G G := Fr.rf
  have hl := lv_entry ([.int p0, .int p1, .int p2]) (n := 3) (Nat.le_of_ble_eq_true rfl)
  rw [lg_entry_eq]
  generalize (lg_sl ([.int p0, .int p1, .int p2]) ++ List.replicate (3 - (lg_sl ([.int p0, .int p1, .int p2])).length) Slot.unset).toArray = ls at hl ⊢
  have hl : lv_has ls 3 [(0, .int p0), (1, .int p1), (2, .int p2)] := hl
  refine lv_iload_n hx hb dX3_join_0 rfl (lv_at hl 0 rfl) ?_
  by_cases c_1 : p0 = 42
  · refine lv_lookup (tgt := 153) hx hb dX3_join_1 (by decide) (off := 152) (by rw [c_1]; decide) (by decide) ?_
    have c_1 : p0.toInt = 42 := xI_eq rfl rfl c_1
    refine lv_iload_n hx hb dX3_join_153 rfl (lv_at hl 1 rfl) ?_
    refine lv_iload_n hx hb dX3_join_154 rfl (lv_at hl 2 rfl) ?_
    refine lv_imul hx hb dX3_join_155 ?_
    refine lv_topi (fun y_2 ey_2 => ?_)
    exact W.iret (v := y_2) hx hb hr (fun t ht _ => ⟨⟨y_2, G, rfl, (P_lJoin_mk ⟨hB_G, hF, (Or.inl ⟨c_1, ⟨y_2, ey_2, ⟨rfl, rfl⟩⟩⟩)⟩), wd_t ht hW⟩, hS.F ht⟩) hS.2.2 dX3_join_156
  by_cases c_3 : p0 = 43
  · refine lv_lookup (tgt := 145) hx hb dX3_join_1 (by decide) (off := 144) (by rw [c_3]; decide) (by decide) ?_
    have c_3 : p0.toInt = 43 := xI_eq rfl rfl c_3
    refine lv_iload_n hx hb dX3_join_145 rfl (lv_at hl 1 rfl) ?_
    refine lv_iload_n hx hb dX3_join_146 rfl (lv_at hl 2 rfl) ?_
    refine lv_iadd hx hb dX3_join_147 ?_
    refine lv_topi (fun y_4 ey_4 => ?_)
    exact W.iret (v := y_4) hx hb hr (fun t ht _ => ⟨⟨y_4, G, rfl, (P_lJoin_mk ⟨hB_G, hF, (Or.inr ⟨(xI_ne (Y := 42) rfl rfl c_1), (Or.inl ⟨c_3, ⟨y_4, ey_4, ⟨rfl, rfl⟩⟩⟩)⟩)⟩), wd_t ht hW⟩, hS.F ht⟩) hS.2.2 dX3_join_148
  by_cases c_5 : p0 = 45
  · refine lv_lookup (tgt := 149) hx hb dX3_join_1 (by decide) (off := 148) (by rw [c_5]; decide) (by decide) ?_
    have c_5 : p0.toInt = 45 := xI_eq rfl rfl c_5
    refine lv_iload_n hx hb dX3_join_149 rfl (lv_at hl 1 rfl) ?_
    refine lv_iload_n hx hb dX3_join_150 rfl (lv_at hl 2 rfl) ?_
    refine lv_isub hx hb dX3_join_151 ?_
    refine lv_topi (fun y_6 ey_6 => ?_)
    exact W.iret (v := y_6) hx hb hr (fun t ht _ => ⟨⟨y_6, G, rfl, (P_lJoin_mk ⟨hB_G, hF, (Or.inr ⟨(xI_ne (Y := 42) rfl rfl c_1), (Or.inr ⟨(xI_ne (Y := 43) rfl rfl c_3), (Or.inl ⟨c_5, ⟨y_6, ey_6, ⟨rfl, rfl⟩⟩⟩)⟩)⟩)⟩), wd_t ht hW⟩, hS.F ht⟩) hS.2.2 dX3_join_152
  by_cases c_7 : p0 = 47
  · refine lv_lookup (tgt := 157) hx hb dX3_join_1 (by decide) (off := 156) (by rw [c_7]; decide) (by decide) ?_
    have c_7 : p0.toInt = 47 := xI_eq rfl rfl c_7
    refine lv_iload_n hx hb dX3_join_157 rfl (lv_at hl 2 rfl) ?_
    refine lv_if_ne (tgt := 165) hx hb dX3_join_158 rfl (fun c_8 => ?_) (fun c_8 => ?_)
    · have c_8 : p2.toInt ≠ 0 := xI_ne rfl rfl c_8
      refine lv_iload_n hx hb dX3_join_165 rfl (lv_at hl 1 rfl) ?_
      refine lv_iload_n hx hb dX3_join_166 rfl (lv_at hl 2 rfl) ?_
      refine lv_idiv hx hb dX3_join_167 (fun q => by have q := xI_eq (Y := 0) rfl rfl q; omega) ?_
      refine lv_topi (fun y_9 ey_9 => ?_)
      exact W.iret (v := y_9) hx hb hr (fun t ht _ => ⟨⟨y_9, G, rfl, (P_lJoin_mk ⟨hB_G, hF, (Or.inr ⟨(xI_ne (Y := 42) rfl rfl c_1), (Or.inr ⟨(xI_ne (Y := 43) rfl rfl c_3), (Or.inr ⟨(xI_ne (Y := 45) rfl rfl c_5), (Or.inl ⟨c_7, (Or.inr ⟨c_8, ⟨y_9, ey_9, ⟨rfl, rfl⟩⟩⟩)⟩)⟩)⟩)⟩)⟩), wd_t ht hW⟩, hS.F ht⟩) hS.2.2 dX3_join_168
    · have c_8 : p2.toInt = 0 := xI_eq rfl rfl c_8
      refine ic_0 hx hb dX3_join_161 ?_
      refine lv_goto (tgt := 168) hx hb dX3_join_162 rfl ?_
      exact W.iret (v := 0) hx hb hr (fun t ht _ => ⟨⟨0, G, rfl, (P_lJoin_mk ⟨hB_G, hF, (Or.inr ⟨(xI_ne (Y := 42) rfl rfl c_1), (Or.inr ⟨(xI_ne (Y := 43) rfl rfl c_3), (Or.inr ⟨(xI_ne (Y := 45) rfl rfl c_5), (Or.inl ⟨c_7, (Or.inl ⟨c_8, ⟨rfl, rfl⟩⟩)⟩)⟩)⟩)⟩)⟩), wd_t ht hW⟩, hS.F ht⟩) hS.2.2 dX3_join_168
  by_cases c_10 : p0 = 60
  · refine lv_lookup (tgt := 112) hx hb dX3_join_1 (by decide) (off := 111) (by rw [c_10]; decide) (by decide) ?_
    have c_10 : p0.toInt = 60 := xI_eq rfl rfl c_10
    refine lv_iload_n hx hb dX3_join_112 rfl (lv_at hl 1 rfl) ?_
    refine lv_iload_n hx hb dX3_join_113 rfl (lv_at hl 2 rfl) ?_
    refine lv_icmp_ge (tgt := 121) hx hb dX3_join_114 rfl (fun c_11 => ?_) (fun c_11 => ?_)
    · have c_11 : p2.toInt ≤ p1.toInt := xI_le rfl rfl c_11
      refine ic_0 hx hb dX3_join_121 ?_
      exact W.iret (v := 0) hx hb hr (fun t ht _ => ⟨⟨0, G, rfl, (P_lJoin_mk ⟨hB_G, hF, (Or.inr ⟨(xI_ne (Y := 42) rfl rfl c_1), (Or.inr ⟨(xI_ne (Y := 43) rfl rfl c_3), (Or.inr ⟨(xI_ne (Y := 45) rfl rfl c_5), (Or.inr ⟨(xI_ne (Y := 47) rfl rfl c_7), (Or.inl ⟨c_10, (Or.inl ⟨c_11, ⟨rfl, rfl⟩⟩)⟩)⟩)⟩)⟩)⟩)⟩), wd_t ht hW⟩, hS.F ht⟩) hS.2.2 dX3_join_122
    · have c_11 : p1.toInt < p2.toInt := xI_nle rfl rfl c_11
      refine ic_1 hx hb dX3_join_117 ?_
      refine lv_goto (tgt := 122) hx hb dX3_join_118 rfl ?_
      exact W.iret (v := 1) hx hb hr (fun t ht _ => ⟨⟨1, G, rfl, (P_lJoin_mk ⟨hB_G, hF, (Or.inr ⟨(xI_ne (Y := 42) rfl rfl c_1), (Or.inr ⟨(xI_ne (Y := 43) rfl rfl c_3), (Or.inr ⟨(xI_ne (Y := 45) rfl rfl c_5), (Or.inr ⟨(xI_ne (Y := 47) rfl rfl c_7), (Or.inl ⟨c_10, (Or.inr ⟨c_11, ⟨rfl, rfl⟩⟩)⟩)⟩)⟩)⟩)⟩)⟩), wd_t ht hW⟩, hS.F ht⟩) hS.2.2 dX3_join_122
  by_cases c_12 : p0 = 61
  · refine lv_lookup (tgt := 134) hx hb dX3_join_1 (by decide) (off := 133) (by rw [c_12]; decide) (by decide) ?_
    have c_12 : p0.toInt = 61 := xI_eq rfl rfl c_12
    refine lv_iload_n hx hb dX3_join_134 rfl (lv_at hl 1 rfl) ?_
    refine lv_iload_n hx hb dX3_join_135 rfl (lv_at hl 2 rfl) ?_
    refine lv_icmp_ne (tgt := 143) hx hb dX3_join_136 rfl (fun c_13 => ?_) (fun c_13 => ?_)
    · have c_13 : p1.toInt ≠ p2.toInt := xI_ne rfl rfl c_13
      refine ic_0 hx hb dX3_join_143 ?_
      exact W.iret (v := 0) hx hb hr (fun t ht _ => ⟨⟨0, G, rfl, (P_lJoin_mk ⟨hB_G, hF, (Or.inr ⟨(xI_ne (Y := 42) rfl rfl c_1), (Or.inr ⟨(xI_ne (Y := 43) rfl rfl c_3), (Or.inr ⟨(xI_ne (Y := 45) rfl rfl c_5), (Or.inr ⟨(xI_ne (Y := 47) rfl rfl c_7), (Or.inr ⟨(xI_ne (Y := 60) rfl rfl c_10), (Or.inl ⟨c_12, (Or.inr ⟨c_13, ⟨rfl, rfl⟩⟩)⟩)⟩)⟩)⟩)⟩)⟩)⟩), wd_t ht hW⟩, hS.F ht⟩) hS.2.2 dX3_join_144
    · have c_13 : p1.toInt = p2.toInt := xI_eq rfl rfl c_13
      refine ic_1 hx hb dX3_join_139 ?_
      refine lv_goto (tgt := 144) hx hb dX3_join_140 rfl ?_
      exact W.iret (v := 1) hx hb hr (fun t ht _ => ⟨⟨1, G, rfl, (P_lJoin_mk ⟨hB_G, hF, (Or.inr ⟨(xI_ne (Y := 42) rfl rfl c_1), (Or.inr ⟨(xI_ne (Y := 43) rfl rfl c_3), (Or.inr ⟨(xI_ne (Y := 45) rfl rfl c_5), (Or.inr ⟨(xI_ne (Y := 47) rfl rfl c_7), (Or.inr ⟨(xI_ne (Y := 60) rfl rfl c_10), (Or.inl ⟨c_12, (Or.inl ⟨c_13, ⟨rfl, rfl⟩⟩)⟩)⟩)⟩)⟩)⟩)⟩)⟩), wd_t ht hW⟩, hS.F ht⟩) hS.2.2 dX3_join_144
  by_cases c_14 : p0 = 62
  · refine lv_lookup (tgt := 123) hx hb dX3_join_1 (by decide) (off := 122) (by rw [c_14]; decide) (by decide) ?_
    have c_14 : p0.toInt = 62 := xI_eq rfl rfl c_14
    refine lv_iload_n hx hb dX3_join_123 rfl (lv_at hl 1 rfl) ?_
    refine lv_iload_n hx hb dX3_join_124 rfl (lv_at hl 2 rfl) ?_
    refine lv_icmp_le (tgt := 132) hx hb dX3_join_125 rfl (fun c_15 => ?_) (fun c_15 => ?_)
    · have c_15 : p1.toInt ≤ p2.toInt := xI_le rfl rfl c_15
      refine ic_0 hx hb dX3_join_132 ?_
      exact W.iret (v := 0) hx hb hr (fun t ht _ => ⟨⟨0, G, rfl, (P_lJoin_mk ⟨hB_G, hF, (Or.inr ⟨(xI_ne (Y := 42) rfl rfl c_1), (Or.inr ⟨(xI_ne (Y := 43) rfl rfl c_3), (Or.inr ⟨(xI_ne (Y := 45) rfl rfl c_5), (Or.inr ⟨(xI_ne (Y := 47) rfl rfl c_7), (Or.inr ⟨(xI_ne (Y := 60) rfl rfl c_10), (Or.inr ⟨(xI_ne (Y := 61) rfl rfl c_12), (Or.inl ⟨c_14, (Or.inl ⟨c_15, ⟨rfl, rfl⟩⟩)⟩)⟩)⟩)⟩)⟩)⟩)⟩)⟩), wd_t ht hW⟩, hS.F ht⟩) hS.2.2 dX3_join_133
    · have c_15 : p2.toInt < p1.toInt := xI_nle rfl rfl c_15
      refine ic_1 hx hb dX3_join_128 ?_
      refine lv_goto (tgt := 133) hx hb dX3_join_129 rfl ?_
      exact W.iret (v := 1) hx hb hr (fun t ht _ => ⟨⟨1, G, rfl, (P_lJoin_mk ⟨hB_G, hF, (Or.inr ⟨(xI_ne (Y := 42) rfl rfl c_1), (Or.inr ⟨(xI_ne (Y := 43) rfl rfl c_3), (Or.inr ⟨(xI_ne (Y := 45) rfl rfl c_5), (Or.inr ⟨(xI_ne (Y := 47) rfl rfl c_7), (Or.inr ⟨(xI_ne (Y := 60) rfl rfl c_10), (Or.inr ⟨(xI_ne (Y := 61) rfl rfl c_12), (Or.inl ⟨c_14, (Or.inr ⟨c_15, ⟨rfl, rfl⟩⟩)⟩)⟩)⟩)⟩)⟩)⟩)⟩)⟩), wd_t ht hW⟩, hS.F ht⟩) hS.2.2 dX3_join_133
  by_cases c_16 : p0 = 144
  · refine lv_lookup (tgt := 84) hx hb dX3_join_1 (by decide) (off := 83) (by rw [c_16]; decide) (by decide) ?_
    have c_16 : p0.toInt = 144 := xI_eq rfl rfl c_16
    refine lv_iload_n hx hb dX3_join_84 rfl (lv_at hl 1 rfl) ?_
    refine lv_if_ne (tgt := 92) hx hb dX3_join_85 rfl (fun c_17 => ?_) (fun c_17 => ?_)
    · have c_17 : p1.toInt ≠ 0 := xI_ne rfl rfl c_17
      refine ic_1 hx hb dX3_join_92 ?_
      refine lv_goto (tgt := 97) hx hb dX3_join_93 rfl ?_
      exact W.iret (v := 1) hx hb hr (fun t ht _ => ⟨⟨1, G, rfl, (P_lJoin_mk ⟨hB_G, hF, (Or.inr ⟨(xI_ne (Y := 42) rfl rfl c_1), (Or.inr ⟨(xI_ne (Y := 43) rfl rfl c_3), (Or.inr ⟨(xI_ne (Y := 45) rfl rfl c_5), (Or.inr ⟨(xI_ne (Y := 47) rfl rfl c_7), (Or.inr ⟨(xI_ne (Y := 60) rfl rfl c_10), (Or.inr ⟨(xI_ne (Y := 61) rfl rfl c_12), (Or.inr ⟨(xI_ne (Y := 62) rfl rfl c_14), (Or.inl ⟨c_16, (Or.inr ⟨c_17, ⟨rfl, rfl⟩⟩)⟩)⟩)⟩)⟩)⟩)⟩)⟩)⟩)⟩), wd_t ht hW⟩, hS.F ht⟩) hS.2.2 dX3_join_97
    · have c_17 : p1.toInt = 0 := xI_eq rfl rfl c_17
      refine lv_iload_n hx hb dX3_join_88 rfl (lv_at hl 2 rfl) ?_
      refine lv_if_eq (tgt := 96) hx hb dX3_join_89 rfl (fun c_18 => ?_) (fun c_18 => ?_)
      · have c_18 : p2.toInt = 0 := xI_eq rfl rfl c_18
        refine ic_0 hx hb dX3_join_96 ?_
        exact W.iret (v := 0) hx hb hr (fun t ht _ => ⟨⟨0, G, rfl, (P_lJoin_mk ⟨hB_G, hF, (Or.inr ⟨(xI_ne (Y := 42) rfl rfl c_1), (Or.inr ⟨(xI_ne (Y := 43) rfl rfl c_3), (Or.inr ⟨(xI_ne (Y := 45) rfl rfl c_5), (Or.inr ⟨(xI_ne (Y := 47) rfl rfl c_7), (Or.inr ⟨(xI_ne (Y := 60) rfl rfl c_10), (Or.inr ⟨(xI_ne (Y := 61) rfl rfl c_12), (Or.inr ⟨(xI_ne (Y := 62) rfl rfl c_14), (Or.inl ⟨c_16, (Or.inl ⟨c_17, (Or.inl ⟨c_18, ⟨rfl, rfl⟩⟩)⟩)⟩)⟩)⟩)⟩)⟩)⟩)⟩)⟩)⟩), wd_t ht hW⟩, hS.F ht⟩) hS.2.2 dX3_join_97
      · have c_18 : p2.toInt ≠ 0 := xI_ne rfl rfl c_18
        refine ic_1 hx hb dX3_join_92 ?_
        refine lv_goto (tgt := 97) hx hb dX3_join_93 rfl ?_
        exact W.iret (v := 1) hx hb hr (fun t ht _ => ⟨⟨1, G, rfl, (P_lJoin_mk ⟨hB_G, hF, (Or.inr ⟨(xI_ne (Y := 42) rfl rfl c_1), (Or.inr ⟨(xI_ne (Y := 43) rfl rfl c_3), (Or.inr ⟨(xI_ne (Y := 45) rfl rfl c_5), (Or.inr ⟨(xI_ne (Y := 47) rfl rfl c_7), (Or.inr ⟨(xI_ne (Y := 60) rfl rfl c_10), (Or.inr ⟨(xI_ne (Y := 61) rfl rfl c_12), (Or.inr ⟨(xI_ne (Y := 62) rfl rfl c_14), (Or.inl ⟨c_16, (Or.inl ⟨c_17, (Or.inr ⟨c_18, ⟨rfl, rfl⟩⟩)⟩)⟩)⟩)⟩)⟩)⟩)⟩)⟩)⟩)⟩), wd_t ht hW⟩, hS.F ht⟩) hS.2.2 dX3_join_97
  by_cases c_19 : p0 = 145
  · refine lv_lookup (tgt := 98) hx hb dX3_join_1 (by decide) (off := 97) (by rw [c_19]; decide) (by decide) ?_
    have c_19 : p0.toInt = 145 := xI_eq rfl rfl c_19
    refine lv_iload_n hx hb dX3_join_98 rfl (lv_at hl 1 rfl) ?_
    refine lv_if_eq (tgt := 110) hx hb dX3_join_99 rfl (fun c_20 => ?_) (fun c_20 => ?_)
    · have c_20 : p1.toInt = 0 := xI_eq rfl rfl c_20
      refine ic_0 hx hb dX3_join_110 ?_
      exact W.iret (v := 0) hx hb hr (fun t ht _ => ⟨⟨0, G, rfl, (P_lJoin_mk ⟨hB_G, hF, (Or.inr ⟨(xI_ne (Y := 42) rfl rfl c_1), (Or.inr ⟨(xI_ne (Y := 43) rfl rfl c_3), (Or.inr ⟨(xI_ne (Y := 45) rfl rfl c_5), (Or.inr ⟨(xI_ne (Y := 47) rfl rfl c_7), (Or.inr ⟨(xI_ne (Y := 60) rfl rfl c_10), (Or.inr ⟨(xI_ne (Y := 61) rfl rfl c_12), (Or.inr ⟨(xI_ne (Y := 62) rfl rfl c_14), (Or.inr ⟨(xI_ne (Y := 144) rfl rfl c_16), (Or.inl ⟨c_19, (Or.inl ⟨c_20, ⟨rfl, rfl⟩⟩)⟩)⟩)⟩)⟩)⟩)⟩)⟩)⟩)⟩)⟩), wd_t ht hW⟩, hS.F ht⟩) hS.2.2 dX3_join_111
    · have c_20 : p1.toInt ≠ 0 := xI_ne rfl rfl c_20
      refine lv_iload_n hx hb dX3_join_102 rfl (lv_at hl 2 rfl) ?_
      refine lv_if_eq (tgt := 110) hx hb dX3_join_103 rfl (fun c_21 => ?_) (fun c_21 => ?_)
      · have c_21 : p2.toInt = 0 := xI_eq rfl rfl c_21
        refine ic_0 hx hb dX3_join_110 ?_
        exact W.iret (v := 0) hx hb hr (fun t ht _ => ⟨⟨0, G, rfl, (P_lJoin_mk ⟨hB_G, hF, (Or.inr ⟨(xI_ne (Y := 42) rfl rfl c_1), (Or.inr ⟨(xI_ne (Y := 43) rfl rfl c_3), (Or.inr ⟨(xI_ne (Y := 45) rfl rfl c_5), (Or.inr ⟨(xI_ne (Y := 47) rfl rfl c_7), (Or.inr ⟨(xI_ne (Y := 60) rfl rfl c_10), (Or.inr ⟨(xI_ne (Y := 61) rfl rfl c_12), (Or.inr ⟨(xI_ne (Y := 62) rfl rfl c_14), (Or.inr ⟨(xI_ne (Y := 144) rfl rfl c_16), (Or.inl ⟨c_19, (Or.inr ⟨c_20, (Or.inl ⟨c_21, ⟨rfl, rfl⟩⟩)⟩)⟩)⟩)⟩)⟩)⟩)⟩)⟩)⟩)⟩)⟩), wd_t ht hW⟩, hS.F ht⟩) hS.2.2 dX3_join_111
      · have c_21 : p2.toInt ≠ 0 := xI_ne rfl rfl c_21
        refine ic_1 hx hb dX3_join_106 ?_
        refine lv_goto (tgt := 111) hx hb dX3_join_107 rfl ?_
        exact W.iret (v := 1) hx hb hr (fun t ht _ => ⟨⟨1, G, rfl, (P_lJoin_mk ⟨hB_G, hF, (Or.inr ⟨(xI_ne (Y := 42) rfl rfl c_1), (Or.inr ⟨(xI_ne (Y := 43) rfl rfl c_3), (Or.inr ⟨(xI_ne (Y := 45) rfl rfl c_5), (Or.inr ⟨(xI_ne (Y := 47) rfl rfl c_7), (Or.inr ⟨(xI_ne (Y := 60) rfl rfl c_10), (Or.inr ⟨(xI_ne (Y := 61) rfl rfl c_12), (Or.inr ⟨(xI_ne (Y := 62) rfl rfl c_14), (Or.inr ⟨(xI_ne (Y := 144) rfl rfl c_16), (Or.inl ⟨c_19, (Or.inr ⟨c_20, (Or.inr ⟨c_21, ⟨rfl, rfl⟩⟩)⟩)⟩)⟩)⟩)⟩)⟩)⟩)⟩)⟩)⟩)⟩), wd_t ht hW⟩, hS.F ht⟩) hS.2.2 dX3_join_111
  refine lv_lookup (tgt := 169) hx hb dX3_join_1 (by decide) (off := 168) (by show Op.lookupswitch.offset [(42, 152), (43, 144), (45, 148), (47, 156), (60, 111), (61, 133), (62, 122), (144, 83), (145, 97)] _ _ = _; have c_1 := xI_ne (Y := 42) rfl rfl c_1; have c_3 := xI_ne (Y := 43) rfl rfl c_3; have c_5 := xI_ne (Y := 45) rfl rfl c_5; have c_7 := xI_ne (Y := 47) rfl rfl c_7; have c_10 := xI_ne (Y := 60) rfl rfl c_10; have c_12 := xI_ne (Y := 61) rfl rfl c_12; have c_14 := xI_ne (Y := 62) rfl rfl c_14; have c_16 := xI_ne (Y := 144) rfl rfl c_16; have c_19 := xI_ne (Y := 145) rfl rfl c_19; rw [Op.lookupswitch.offset_cons, if_neg (by omega), Op.lookupswitch.offset_cons, if_neg (by omega), Op.lookupswitch.offset_cons, if_neg (by omega), Op.lookupswitch.offset_cons, if_neg (by omega), Op.lookupswitch.offset_cons, if_neg (by omega), Op.lookupswitch.offset_cons, if_neg (by omega), Op.lookupswitch.offset_cons, if_neg (by omega), Op.lookupswitch.offset_cons, if_neg (by omega), Op.lookupswitch.offset_cons, if_neg (by omega), Op.lookupswitch.offset_nil]) (by decide) ?_
  have c_1 := xI_ne (Y := 42) rfl rfl c_1
  have c_3 := xI_ne (Y := 43) rfl rfl c_3
  have c_5 := xI_ne (Y := 45) rfl rfl c_5
  have c_7 := xI_ne (Y := 47) rfl rfl c_7
  have c_10 := xI_ne (Y := 60) rfl rfl c_10
  have c_12 := xI_ne (Y := 61) rfl rfl c_12
  have c_14 := xI_ne (Y := 62) rfl rfl c_14
  have c_16 := xI_ne (Y := 144) rfl rfl c_16
  have c_19 := xI_ne (Y := 145) rfl rfl c_19
  refine lv_iload_n hx hb dX3_join_169 rfl (lv_at hl 2 rfl) ?_
  refine lv_if_ne (tgt := 177) hx hb dX3_join_170 rfl (fun c_22 => ?_) (fun c_22 => ?_)
  · have c_22 : p2.toInt ≠ 0 := xI_ne rfl rfl c_22
    refine lv_iload_n hx hb dX3_join_177 rfl (lv_at hl 1 rfl) ?_
    refine lv_iload_n hx hb dX3_join_178 rfl (lv_at hl 2 rfl) ?_
    refine lv_irem hx hb dX3_join_179 (fun q => by have q := xI_eq (Y := 0) rfl rfl q; omega) ?_
    refine lv_topi (fun y_23 ey_23 => ?_)
    exact W.iret (v := y_23) hx hb hr (fun t ht _ => ⟨⟨y_23, G, rfl, (P_lJoin_mk ⟨hB_G, hF, (Or.inr ⟨c_1, (Or.inr ⟨c_3, (Or.inr ⟨c_5, (Or.inr ⟨c_7, (Or.inr ⟨c_10, (Or.inr ⟨c_12, (Or.inr ⟨c_14, (Or.inr ⟨c_16, (Or.inr ⟨c_19, (Or.inr ⟨c_22, ⟨y_23, ey_23, ⟨rfl, rfl⟩⟩⟩)⟩)⟩)⟩)⟩)⟩)⟩)⟩)⟩)⟩)⟩), wd_t ht hW⟩, hS.F ht⟩) hS.2.2 dX3_join_180
  · have c_22 : p2.toInt = 0 := xI_eq rfl rfl c_22
    refine ic_0 hx hb dX3_join_173 ?_
    refine lv_goto (tgt := 180) hx hb dX3_join_174 rfl ?_
    exact W.iret (v := 0) hx hb hr (fun t ht _ => ⟨⟨0, G, rfl, (P_lJoin_mk ⟨hB_G, hF, (Or.inr ⟨c_1, (Or.inr ⟨c_3, (Or.inr ⟨c_5, (Or.inr ⟨c_7, (Or.inr ⟨c_10, (Or.inr ⟨c_12, (Or.inr ⟨c_14, (Or.inr ⟨c_16, (Or.inr ⟨c_19, (Or.inl ⟨c_22, ⟨rfl, rfl⟩⟩)⟩)⟩)⟩)⟩)⟩)⟩)⟩)⟩)⟩)⟩), wd_t ht hW⟩, hS.F ht⟩) hS.2.2 dX3_join_180

theorem m28 : Cond.selects RX3 yX3_valueOf yX3_valueOf ∈ gd := gds_2 12 rfl
theorem m29 : Cond.selects RX3 yX3_push yX3_push ∈ gd := gds_2 13 rfl
theorem m30 : Cond.selects RX3 yX3_pop yX3_pop ∈ gd := gds_2 14 rfl
theorem m122 : Cond.initialized RX3 ∈ gd := gdc_1_0 6 rfl gw_initialized
theorem m129 : Cond.initialized RJ7 ∈ gd := gdc_1_0 13 rfl gw_initialized
theorem m158 : Cond.fieldLink RX3 37 "SlabWalk$Paving" "length" "[I" ∈ gd := gdc_1_2 10 rfl gw_fieldLink
theorem m164 : Cond.fieldLink RX3 60 "SlabWalk$Paving" "foot" "[I" ∈ gd := gdc_1_3 0 rfl gw_fieldLink
theorem m182 : Cond.fieldLink RX3 72 "SlabWalk$Paving" "code" "[I" ∈ gd := gdc_1_4 2 rfl gw_fieldLink
theorem m184 : Cond.fieldLink RX3 69 "SlabWalk$Paving" "codeEnd" "[I" ∈ gd := gdc_1_4 4 rfl gw_fieldLink
theorem m193 : Cond.fieldLink RX3 44 "SlabWalk$Paving" "rules" "I" ∈ gd := gdc_1_4 13 rfl gw_fieldLink
theorem m349 : Cond.fieldLink RX3 9 "SlabWalk$Lines" "found" "[I" ∈ gd := gdc_1_14 9 rfl gw_fieldLink
theorem m350 : Cond.fieldLink RX3 15 "SlabWalk$Lines" "foundOn" "[I" ∈ gd := gdc_1_14 10 rfl gw_fieldLink
theorem m353 : Cond.fieldLink RX3 21 "SlabWalk$Lines" "paving" "LSlabWalk$Paving;" ∈ gd := gdc_1_14 13 rfl gw_fieldLink
theorem m555 : Cond.methodLink RX3 25 yJ7_fill_53178 ∈ gd := gdc_2_12 7 rfl gw_methodLink
theorem m556 : Cond.static yJ7_fill_53178 ∈ gd := gdc_2_12 8 rfl gw_static
theorem m557 : Cond.code yJ7_fill_53178 cJ7_fill_53178 4 none ∈ gd := gdc_2_12 9 rfl gw_code
theorem m891 : Cond.instanceMethod yX6_inchAt ∈ gd := gdc_4_3 7 rfl gw_instanceMethod
theorem m892 : Cond.selects RX6 yX6_inchAt yX6_inchAt ∈ gd := gdc_4_3 8 rfl gw_selects
theorem m893 : Cond.code yX6_inchAt cX6_inchAt 3 (some .int) ∈ gd := gdc_4_3 9 rfl gw_code
theorem m919 : Cond.methodLink RX3 31 yX6_hasStreet ∈ gd := gdc_4_5 3 rfl gw_methodLink
theorem m920 : Cond.methodLink RX3 40 yX6_inchAt ∈ gd := gdc_4_5 4 rfl gw_methodLink
theorem m921 : Cond.methodLink RX3 48 yX3_valueOf ∈ gd := gdc_4_5 5 rfl gw_methodLink
theorem m923 : Cond.instanceMethod yX3_valueOf ∈ gd := gdc_4_5 7 rfl gw_instanceMethod
theorem m924 : Cond.code yX3_valueOf cX3_valueOf 8 (some .int) ∈ gd := gdc_4_5 8 rfl gw_code
theorem m925 : Cond.methodLink RX3 75 yX3_push ∈ gd := gdc_4_5 9 rfl gw_methodLink
theorem m927 : Cond.instanceMethod yX3_push ∈ gd := gdc_4_5 11 rfl gw_instanceMethod
theorem m928 : Cond.code yX3_push cX3_push 2 none ∈ gd := gdc_4_5 12 rfl gw_code
theorem m929 : Cond.methodLink RX3 79 yX3_pop ∈ gd := gdc_4_5 13 rfl gw_methodLink
theorem m931 : Cond.instanceMethod yX3_pop ∈ gd := gdc_4_5 15 rfl gw_instanceMethod
theorem m932 : Cond.code yX3_pop cX3_pop 1 (some .int) ∈ gd := gdc_4_6 0 rfl gw_code
theorem m933 : Cond.methodLink RX3 83 yX3_join ∈ gd := gdc_4_6 1 rfl gw_methodLink
theorem m934 : Cond.static yX3_join ∈ gd := gdc_4_6 2 rfl gw_static
theorem m935 : Cond.code yX3_join cX3_join 3 (some .int) ∈ gd := gdc_4_6 3 rfl gw_code
theorem m936 : Cond.methodLink RX3 86 yX3_ownOf ∈ gd := gdc_4_6 4 rfl gw_methodLink
theorem m937 : Cond.static yX3_ownOf ∈ gd := gdc_4_6 5 rfl gw_static
theorem m938 : Cond.code yX3_ownOf cX3_ownOf 3 (some .int) ∈ gd := gdc_4_6 6 rfl gw_code
theorem m941 : Cond.instanceMethod yX3_isLine ∈ gd := gdc_4_6 9 rfl gw_instanceMethod
theorem m942 : Cond.selects RX3 yX3_isLine yX3_isLine ∈ gd := gdc_4_6 10 rfl gw_selects
theorem m943 : Cond.code yX3_isLine cX3_isLine 4 (some .boolean) ∈ gd := gdc_4_6 11 rfl gw_code
theorem m944 : Cond.methodLink RX3 52 yX6_hasInch ∈ gd := gdc_4_6 12 rfl gw_methodLink
theorem m965 : Cond.methodLink RX3 56 yX6_stands ∈ gd := gdc_4_8 1 rfl gw_methodLink
theorem m966 : Cond.instanceMethod yX6_stands ∈ gd := gdc_4_8 2 rfl gw_instanceMethod
theorem m967 : Cond.selects RX6 yX6_stands yX6_stands ∈ gd := gdc_4_8 3 rfl gw_selects
theorem m968 : Cond.code yX6_stands cX6_stands 4 (some .boolean) ∈ gd := gdc_4_8 4 rfl gw_code
theorem m970 : Cond.methodLink RX3 63 yX3_isLine ∈ gd := gdc_4_8 6 rfl gw_methodLink
noncomputable def rbX3_findFor_0 : List (Nat × List Nat) := [(0, [42]), (1, [180, 0, 21]), (4, [27]), (5, [182, 0, 31]), (8, [153, 0, 13]), (11, [42]), (12, [180, 0, 15]), (15, [27]), (16, [46]), (17, [28]), (18, [160, 0, 4]), (21, [177]), (22, [3]), (23, [62]), (24, [29]), (25, [42]), (26, [180, 0, 21]), (29, [180, 0, 37]), (32, [27]), (33, [46]), (34, [162, 0, 103]), (37, [42]), (38, [180, 0, 21]), (41, [27])]
theorem rcX3_findFor_0 : dgo (lb cX3_findFor) 0 rbX3_findFor_0 = true := by decide +kernel
theorem dX3_findFor_0 : decode cX3_findFor 0 = .ok (.aload_n 0, 1) := dk_42 (dw rcX3_findFor_0 0 rfl)
theorem dX3_findFor_1 : decode cX3_findFor 1 = .ok (.getfield 21, 3) := dk_180 (dw rcX3_findFor_0 1 rfl) rfl
theorem dX3_findFor_4 : decode cX3_findFor 4 = .ok (.iload_n 1, 1) := dk_27 (dw rcX3_findFor_0 2 rfl)
theorem dX3_findFor_5 : decode cX3_findFor 5 = .ok (.invokevirtual 31, 3) := dk_182 (dw rcX3_findFor_0 3 rfl) rfl
theorem dX3_findFor_8 : decode cX3_findFor 8 = .ok (.ifCond .eq 13, 3) := dk_153 (dw rcX3_findFor_0 4 rfl) rfl
theorem dX3_findFor_11 : decode cX3_findFor 11 = .ok (.aload_n 0, 1) := dk_42 (dw rcX3_findFor_0 5 rfl)
theorem dX3_findFor_12 : decode cX3_findFor 12 = .ok (.getfield 15, 3) := dk_180 (dw rcX3_findFor_0 6 rfl) rfl
theorem dX3_findFor_15 : decode cX3_findFor 15 = .ok (.iload_n 1, 1) := dk_27 (dw rcX3_findFor_0 7 rfl)
theorem dX3_findFor_16 : decode cX3_findFor 16 = .ok (.iaload, 1) := dk_46 (dw rcX3_findFor_0 8 rfl)
theorem dX3_findFor_17 : decode cX3_findFor 17 = .ok (.iload_n 2, 1) := dk_28 (dw rcX3_findFor_0 9 rfl)
theorem dX3_findFor_18 : decode cX3_findFor 18 = .ok (.if_icmp .ne 4, 3) := dk_160 (dw rcX3_findFor_0 10 rfl) rfl
theorem dX3_findFor_21 : decode cX3_findFor 21 = .ok (.return_, 1) := dk_177 (dw rcX3_findFor_0 11 rfl)
theorem dX3_findFor_22 : decode cX3_findFor 22 = .ok (.iconst 0, 1) := dk_3 (dw rcX3_findFor_0 12 rfl)
theorem dX3_findFor_23 : decode cX3_findFor 23 = .ok (.istore_n 3, 1) := dk_62 (dw rcX3_findFor_0 13 rfl)
theorem dX3_findFor_24 : decode cX3_findFor 24 = .ok (.iload_n 3, 1) := dk_29 (dw rcX3_findFor_0 14 rfl)
theorem dX3_findFor_25 : decode cX3_findFor 25 = .ok (.aload_n 0, 1) := dk_42 (dw rcX3_findFor_0 15 rfl)
theorem dX3_findFor_26 : decode cX3_findFor 26 = .ok (.getfield 21, 3) := dk_180 (dw rcX3_findFor_0 16 rfl) rfl
theorem dX3_findFor_29 : decode cX3_findFor 29 = .ok (.getfield 37, 3) := dk_180 (dw rcX3_findFor_0 17 rfl) rfl
theorem dX3_findFor_32 : decode cX3_findFor 32 = .ok (.iload_n 1, 1) := dk_27 (dw rcX3_findFor_0 18 rfl)
theorem dX3_findFor_33 : decode cX3_findFor 33 = .ok (.iaload, 1) := dk_46 (dw rcX3_findFor_0 19 rfl)
theorem dX3_findFor_34 : decode cX3_findFor 34 = .ok (.if_icmp .ge 103, 3) := dk_162 (dw rcX3_findFor_0 20 rfl) rfl
theorem dX3_findFor_37 : decode cX3_findFor 37 = .ok (.aload_n 0, 1) := dk_42 (dw rcX3_findFor_0 21 rfl)
theorem dX3_findFor_38 : decode cX3_findFor 38 = .ok (.getfield 21, 3) := dk_180 (dw rcX3_findFor_0 22 rfl) rfl
theorem dX3_findFor_41 : decode cX3_findFor 41 = .ok (.iload_n 1, 1) := dk_27 (dw rcX3_findFor_0 23 rfl)
noncomputable def rbX3_findFor_42 : List (Nat × List Nat) := [(42, [29]), (43, [182, 0, 40]), (46, [54, 4]), (48, [21, 4]), (50, [16, 13]), (52, [126]), (53, [153, 0, 8]), (56, [16, 64]), (58, [167, 0, 4]), (61, [3]), (62, [54, 5]), (64, [3]), (65, [54, 6]), (67, [21, 6]), (69, [42]), (70, [180, 0, 21]), (73, [180, 0, 44]), (76, [162, 0, 41]), (79, [21, 6]), (81, [16, 6]), (83, [162, 0, 34]), (86, [21, 5]), (88, [42]), (89, [21, 6])]
theorem rcX3_findFor_42 : dgo (lb cX3_findFor) 0 rbX3_findFor_42 = true := by decide +kernel
theorem dX3_findFor_42 : decode cX3_findFor 42 = .ok (.iload_n 3, 1) := dk_29 (dw rcX3_findFor_42 0 rfl)
theorem dX3_findFor_43 : decode cX3_findFor 43 = .ok (.invokevirtual 40, 3) := dk_182 (dw rcX3_findFor_42 1 rfl) rfl
theorem dX3_findFor_46 : decode cX3_findFor 46 = .ok (.istore 4, 2) := dk_54 (dw rcX3_findFor_42 2 rfl)
theorem dX3_findFor_48 : decode cX3_findFor 48 = .ok (.iload 4, 2) := dk_21 (dw rcX3_findFor_42 3 rfl)
theorem dX3_findFor_50 : decode cX3_findFor 50 = .ok (.bipush 13, 2) := dk_16 (dw rcX3_findFor_42 4 rfl) rfl
theorem dX3_findFor_52 : decode cX3_findFor 52 = .ok (.iand, 1) := dk_126 (dw rcX3_findFor_42 5 rfl)
theorem dX3_findFor_53 : decode cX3_findFor 53 = .ok (.ifCond .eq 8, 3) := dk_153 (dw rcX3_findFor_42 6 rfl) rfl
theorem dX3_findFor_56 : decode cX3_findFor 56 = .ok (.bipush 64, 2) := dk_16 (dw rcX3_findFor_42 7 rfl) rfl
theorem dX3_findFor_58 : decode cX3_findFor 58 = .ok (.goto 4, 3) := dk_167 (dw rcX3_findFor_42 8 rfl) rfl
theorem dX3_findFor_61 : decode cX3_findFor 61 = .ok (.iconst 0, 1) := dk_3 (dw rcX3_findFor_42 9 rfl)
theorem dX3_findFor_62 : decode cX3_findFor 62 = .ok (.istore 5, 2) := dk_54 (dw rcX3_findFor_42 10 rfl)
theorem dX3_findFor_64 : decode cX3_findFor 64 = .ok (.iconst 0, 1) := dk_3 (dw rcX3_findFor_42 11 rfl)
theorem dX3_findFor_65 : decode cX3_findFor 65 = .ok (.istore 6, 2) := dk_54 (dw rcX3_findFor_42 12 rfl)
theorem dX3_findFor_67 : decode cX3_findFor 67 = .ok (.iload 6, 2) := dk_21 (dw rcX3_findFor_42 13 rfl)
theorem dX3_findFor_69 : decode cX3_findFor 69 = .ok (.aload_n 0, 1) := dk_42 (dw rcX3_findFor_42 14 rfl)
theorem dX3_findFor_70 : decode cX3_findFor 70 = .ok (.getfield 21, 3) := dk_180 (dw rcX3_findFor_42 15 rfl) rfl
theorem dX3_findFor_73 : decode cX3_findFor 73 = .ok (.getfield 44, 3) := dk_180 (dw rcX3_findFor_42 16 rfl) rfl
theorem dX3_findFor_76 : decode cX3_findFor 76 = .ok (.if_icmp .ge 41, 3) := dk_162 (dw rcX3_findFor_42 17 rfl) rfl
theorem dX3_findFor_79 : decode cX3_findFor 79 = .ok (.iload 6, 2) := dk_21 (dw rcX3_findFor_42 18 rfl)
theorem dX3_findFor_81 : decode cX3_findFor 81 = .ok (.bipush 6, 2) := dk_16 (dw rcX3_findFor_42 19 rfl) rfl
theorem dX3_findFor_83 : decode cX3_findFor 83 = .ok (.if_icmp .ge 34, 3) := dk_162 (dw rcX3_findFor_42 20 rfl) rfl
theorem dX3_findFor_86 : decode cX3_findFor 86 = .ok (.iload 5, 2) := dk_21 (dw rcX3_findFor_42 21 rfl)
theorem dX3_findFor_88 : decode cX3_findFor 88 = .ok (.aload_n 0, 1) := dk_42 (dw rcX3_findFor_42 22 rfl)
theorem dX3_findFor_89 : decode cX3_findFor 89 = .ok (.iload 6, 2) := dk_21 (dw rcX3_findFor_42 23 rfl)
noncomputable def rbX3_findFor_91 : List (Nat × List Nat) := [(91, [21, 4]), (93, [28]), (94, [182, 0, 48]), (97, [153, 0, 10]), (100, [4]), (101, [21, 6]), (103, [120]), (104, [167, 0, 4]), (107, [3]), (108, [128]), (109, [54, 5]), (111, [132, 6, 1]), (114, [167, 255, 209]), (117, [42]), (118, [180, 0, 9]), (121, [27]), (122, [17, 1, 144]), (125, [104]), (126, [29]), (127, [96]), (128, [21, 5]), (130, [79]), (131, [132, 3, 1]), (134, [167, 255, 146])]
theorem rcX3_findFor_91 : dgo (lb cX3_findFor) 0 rbX3_findFor_91 = true := by decide +kernel
theorem dX3_findFor_91 : decode cX3_findFor 91 = .ok (.iload 4, 2) := dk_21 (dw rcX3_findFor_91 0 rfl)
theorem dX3_findFor_93 : decode cX3_findFor 93 = .ok (.iload_n 2, 1) := dk_28 (dw rcX3_findFor_91 1 rfl)
theorem dX3_findFor_94 : decode cX3_findFor 94 = .ok (.invokevirtual 48, 3) := dk_182 (dw rcX3_findFor_91 2 rfl) rfl
theorem dX3_findFor_97 : decode cX3_findFor 97 = .ok (.ifCond .eq 10, 3) := dk_153 (dw rcX3_findFor_91 3 rfl) rfl
theorem dX3_findFor_100 : decode cX3_findFor 100 = .ok (.iconst 1, 1) := dk_4 (dw rcX3_findFor_91 4 rfl)
theorem dX3_findFor_101 : decode cX3_findFor 101 = .ok (.iload 6, 2) := dk_21 (dw rcX3_findFor_91 5 rfl)
theorem dX3_findFor_103 : decode cX3_findFor 103 = .ok (.ishl, 1) := dk_120 (dw rcX3_findFor_91 6 rfl)
theorem dX3_findFor_104 : decode cX3_findFor 104 = .ok (.goto 4, 3) := dk_167 (dw rcX3_findFor_91 7 rfl) rfl
theorem dX3_findFor_107 : decode cX3_findFor 107 = .ok (.iconst 0, 1) := dk_3 (dw rcX3_findFor_91 8 rfl)
theorem dX3_findFor_108 : decode cX3_findFor 108 = .ok (.ior, 1) := dk_128 (dw rcX3_findFor_91 9 rfl)
theorem dX3_findFor_109 : decode cX3_findFor 109 = .ok (.istore 5, 2) := dk_54 (dw rcX3_findFor_91 10 rfl)
theorem dX3_findFor_111 : decode cX3_findFor 111 = .ok (.iinc 6 1, 3) := dk_132 (dw rcX3_findFor_91 11 rfl) rfl
theorem dX3_findFor_114 : decode cX3_findFor 114 = .ok (.goto (-47), 3) := dk_167 (dw rcX3_findFor_91 12 rfl) rfl
theorem dX3_findFor_117 : decode cX3_findFor 117 = .ok (.aload_n 0, 1) := dk_42 (dw rcX3_findFor_91 13 rfl)
theorem dX3_findFor_118 : decode cX3_findFor 118 = .ok (.getfield 9, 3) := dk_180 (dw rcX3_findFor_91 14 rfl) rfl
theorem dX3_findFor_121 : decode cX3_findFor 121 = .ok (.iload_n 1, 1) := dk_27 (dw rcX3_findFor_91 15 rfl)
theorem dX3_findFor_122 : decode cX3_findFor 122 = .ok (.sipush 400, 3) := dk_17 (dw rcX3_findFor_91 16 rfl) rfl
theorem dX3_findFor_125 : decode cX3_findFor 125 = .ok (.imul, 1) := dk_104 (dw rcX3_findFor_91 17 rfl)
theorem dX3_findFor_126 : decode cX3_findFor 126 = .ok (.iload_n 3, 1) := dk_29 (dw rcX3_findFor_91 18 rfl)
theorem dX3_findFor_127 : decode cX3_findFor 127 = .ok (.iadd, 1) := dk_96 (dw rcX3_findFor_91 19 rfl)
theorem dX3_findFor_128 : decode cX3_findFor 128 = .ok (.iload 5, 2) := dk_21 (dw rcX3_findFor_91 20 rfl)
theorem dX3_findFor_130 : decode cX3_findFor 130 = .ok (.iastore, 1) := dk_79 (dw rcX3_findFor_91 21 rfl)
theorem dX3_findFor_131 : decode cX3_findFor 131 = .ok (.iinc 3 1, 3) := dk_132 (dw rcX3_findFor_91 22 rfl) rfl
theorem dX3_findFor_134 : decode cX3_findFor 134 = .ok (.goto (-110), 3) := dk_167 (dw rcX3_findFor_91 23 rfl) rfl
noncomputable def rbX3_findFor_137 : List (Nat × List Nat) := [(137, [42]), (138, [180, 0, 15]), (141, [27]), (142, [28]), (143, [79]), (144, [177])]
theorem rcX3_findFor_137 : dgo (lb cX3_findFor) 0 rbX3_findFor_137 = true := by decide +kernel
theorem dX3_findFor_137 : decode cX3_findFor 137 = .ok (.aload_n 0, 1) := dk_42 (dw rcX3_findFor_137 0 rfl)
theorem dX3_findFor_138 : decode cX3_findFor 138 = .ok (.getfield 15, 3) := dk_180 (dw rcX3_findFor_137 1 rfl) rfl
theorem dX3_findFor_141 : decode cX3_findFor 141 = .ok (.iload_n 1, 1) := dk_27 (dw rcX3_findFor_137 2 rfl)
theorem dX3_findFor_142 : decode cX3_findFor 142 = .ok (.iload_n 2, 1) := dk_28 (dw rcX3_findFor_137 3 rfl)
theorem dX3_findFor_143 : decode cX3_findFor 143 = .ok (.iastore, 1) := dk_79 (dw rcX3_findFor_137 4 rfl)
theorem dX3_findFor_144 : decode cX3_findFor 144 = .ok (.return_, 1) := dk_177 (dw rcX3_findFor_137 5 rfl)
noncomputable def rbX3_isLawful_0 : List (Nat × List Nat) := [(0, [42]), (1, [180, 0, 21]), (4, [27]), (5, [28]), (6, [21, 4]), (8, [182, 0, 56]), (11, [154, 0, 5]), (14, [3]), (15, [172]), (16, [21, 4]), (18, [54, 5]), (20, [21, 5]), (22, [21, 4]), (24, [42]), (25, [180, 0, 21]), (28, [180, 0, 60]), (31, [27]), (32, [46]), (33, [96]), (34, [162, 0, 22]), (37, [42]), (38, [28]), (39, [29]), (40, [21, 5])]
theorem rcX3_isLawful_0 : dgo (lb cX3_isLawful) 0 rbX3_isLawful_0 = true := by decide +kernel
theorem dX3_isLawful_0 : decode cX3_isLawful 0 = .ok (.aload_n 0, 1) := dk_42 (dw rcX3_isLawful_0 0 rfl)
theorem dX3_isLawful_1 : decode cX3_isLawful 1 = .ok (.getfield 21, 3) := dk_180 (dw rcX3_isLawful_0 1 rfl) rfl
theorem dX3_isLawful_4 : decode cX3_isLawful 4 = .ok (.iload_n 1, 1) := dk_27 (dw rcX3_isLawful_0 2 rfl)
theorem dX3_isLawful_5 : decode cX3_isLawful 5 = .ok (.iload_n 2, 1) := dk_28 (dw rcX3_isLawful_0 3 rfl)
theorem dX3_isLawful_6 : decode cX3_isLawful 6 = .ok (.iload 4, 2) := dk_21 (dw rcX3_isLawful_0 4 rfl)
theorem dX3_isLawful_8 : decode cX3_isLawful 8 = .ok (.invokevirtual 56, 3) := dk_182 (dw rcX3_isLawful_0 5 rfl) rfl
theorem dX3_isLawful_11 : decode cX3_isLawful 11 = .ok (.ifCond .ne 5, 3) := dk_154 (dw rcX3_isLawful_0 6 rfl) rfl
theorem dX3_isLawful_14 : decode cX3_isLawful 14 = .ok (.iconst 0, 1) := dk_3 (dw rcX3_isLawful_0 7 rfl)
theorem dX3_isLawful_15 : decode cX3_isLawful 15 = .ok (.ireturn, 1) := dk_172 (dw rcX3_isLawful_0 8 rfl)
theorem dX3_isLawful_16 : decode cX3_isLawful 16 = .ok (.iload 4, 2) := dk_21 (dw rcX3_isLawful_0 9 rfl)
theorem dX3_isLawful_18 : decode cX3_isLawful 18 = .ok (.istore 5, 2) := dk_54 (dw rcX3_isLawful_0 10 rfl)
theorem dX3_isLawful_20 : decode cX3_isLawful 20 = .ok (.iload 5, 2) := dk_21 (dw rcX3_isLawful_0 11 rfl)
theorem dX3_isLawful_22 : decode cX3_isLawful 22 = .ok (.iload 4, 2) := dk_21 (dw rcX3_isLawful_0 12 rfl)
theorem dX3_isLawful_24 : decode cX3_isLawful 24 = .ok (.aload_n 0, 1) := dk_42 (dw rcX3_isLawful_0 13 rfl)
theorem dX3_isLawful_25 : decode cX3_isLawful 25 = .ok (.getfield 21, 3) := dk_180 (dw rcX3_isLawful_0 14 rfl) rfl
theorem dX3_isLawful_28 : decode cX3_isLawful 28 = .ok (.getfield 60, 3) := dk_180 (dw rcX3_isLawful_0 15 rfl) rfl
theorem dX3_isLawful_31 : decode cX3_isLawful 31 = .ok (.iload_n 1, 1) := dk_27 (dw rcX3_isLawful_0 16 rfl)
theorem dX3_isLawful_32 : decode cX3_isLawful 32 = .ok (.iaload, 1) := dk_46 (dw rcX3_isLawful_0 17 rfl)
theorem dX3_isLawful_33 : decode cX3_isLawful 33 = .ok (.iadd, 1) := dk_96 (dw rcX3_isLawful_0 18 rfl)
theorem dX3_isLawful_34 : decode cX3_isLawful 34 = .ok (.if_icmp .ge 22, 3) := dk_162 (dw rcX3_isLawful_0 19 rfl) rfl
theorem dX3_isLawful_37 : decode cX3_isLawful 37 = .ok (.aload_n 0, 1) := dk_42 (dw rcX3_isLawful_0 20 rfl)
theorem dX3_isLawful_38 : decode cX3_isLawful 38 = .ok (.iload_n 2, 1) := dk_28 (dw rcX3_isLawful_0 21 rfl)
theorem dX3_isLawful_39 : decode cX3_isLawful 39 = .ok (.iload_n 3, 1) := dk_29 (dw rcX3_isLawful_0 22 rfl)
theorem dX3_isLawful_40 : decode cX3_isLawful 40 = .ok (.iload 5, 2) := dk_21 (dw rcX3_isLawful_0 23 rfl)
noncomputable def rbX3_isLawful_42 : List (Nat × List Nat) := [(42, [182, 0, 63]), (45, [153, 0, 5]), (48, [3]), (49, [172]), (50, [132, 5, 1]), (53, [167, 255, 223]), (56, [4]), (57, [172])]
theorem rcX3_isLawful_42 : dgo (lb cX3_isLawful) 0 rbX3_isLawful_42 = true := by decide +kernel
theorem dX3_isLawful_42 : decode cX3_isLawful 42 = .ok (.invokevirtual 63, 3) := dk_182 (dw rcX3_isLawful_42 0 rfl) rfl
theorem dX3_isLawful_45 : decode cX3_isLawful 45 = .ok (.ifCond .eq 5, 3) := dk_153 (dw rcX3_isLawful_42 1 rfl) rfl
theorem dX3_isLawful_48 : decode cX3_isLawful 48 = .ok (.iconst 0, 1) := dk_3 (dw rcX3_isLawful_42 2 rfl)
theorem dX3_isLawful_49 : decode cX3_isLawful 49 = .ok (.ireturn, 1) := dk_172 (dw rcX3_isLawful_42 3 rfl)
theorem dX3_isLawful_50 : decode cX3_isLawful 50 = .ok (.iinc 5 1, 3) := dk_132 (dw rcX3_isLawful_42 4 rfl) rfl
theorem dX3_isLawful_53 : decode cX3_isLawful 53 = .ok (.goto (-33), 3) := dk_167 (dw rcX3_isLawful_42 5 rfl) rfl
theorem dX3_isLawful_56 : decode cX3_isLawful 56 = .ok (.iconst 1, 1) := dk_4 (dw rcX3_isLawful_42 6 rfl)
theorem dX3_isLawful_57 : decode cX3_isLawful 57 = .ok (.ireturn, 1) := dk_172 (dw rcX3_isLawful_42 7 rfl)
noncomputable def rbX3_isLine_0 : List (Nat × List Nat) := [(0, [42]), (1, [180, 0, 21]), (4, [27]), (5, [29]), (6, [182, 0, 52]), (9, [153, 0, 33]), (12, [42]), (13, [180, 0, 9]), (16, [27]), (17, [17, 1, 144]), (20, [104]), (21, [29]), (22, [96]), (23, [46]), (24, [28]), (25, [154, 0, 8]), (28, [16, 64]), (30, [167, 0, 4]), (33, [28]), (34, [126]), (35, [153, 0, 7]), (38, [4]), (39, [167, 0, 4]), (42, [3])]
theorem rcX3_isLine_0 : dgo (lb cX3_isLine) 0 rbX3_isLine_0 = true := by decide +kernel
theorem dX3_isLine_0 : decode cX3_isLine 0 = .ok (.aload_n 0, 1) := dk_42 (dw rcX3_isLine_0 0 rfl)
theorem dX3_isLine_1 : decode cX3_isLine 1 = .ok (.getfield 21, 3) := dk_180 (dw rcX3_isLine_0 1 rfl) rfl
theorem dX3_isLine_4 : decode cX3_isLine 4 = .ok (.iload_n 1, 1) := dk_27 (dw rcX3_isLine_0 2 rfl)
theorem dX3_isLine_5 : decode cX3_isLine 5 = .ok (.iload_n 3, 1) := dk_29 (dw rcX3_isLine_0 3 rfl)
theorem dX3_isLine_6 : decode cX3_isLine 6 = .ok (.invokevirtual 52, 3) := dk_182 (dw rcX3_isLine_0 4 rfl) rfl
theorem dX3_isLine_9 : decode cX3_isLine 9 = .ok (.ifCond .eq 33, 3) := dk_153 (dw rcX3_isLine_0 5 rfl) rfl
theorem dX3_isLine_12 : decode cX3_isLine 12 = .ok (.aload_n 0, 1) := dk_42 (dw rcX3_isLine_0 6 rfl)
theorem dX3_isLine_13 : decode cX3_isLine 13 = .ok (.getfield 9, 3) := dk_180 (dw rcX3_isLine_0 7 rfl) rfl
theorem dX3_isLine_16 : decode cX3_isLine 16 = .ok (.iload_n 1, 1) := dk_27 (dw rcX3_isLine_0 8 rfl)
theorem dX3_isLine_17 : decode cX3_isLine 17 = .ok (.sipush 400, 3) := dk_17 (dw rcX3_isLine_0 9 rfl) rfl
theorem dX3_isLine_20 : decode cX3_isLine 20 = .ok (.imul, 1) := dk_104 (dw rcX3_isLine_0 10 rfl)
theorem dX3_isLine_21 : decode cX3_isLine 21 = .ok (.iload_n 3, 1) := dk_29 (dw rcX3_isLine_0 11 rfl)
theorem dX3_isLine_22 : decode cX3_isLine 22 = .ok (.iadd, 1) := dk_96 (dw rcX3_isLine_0 12 rfl)
theorem dX3_isLine_23 : decode cX3_isLine 23 = .ok (.iaload, 1) := dk_46 (dw rcX3_isLine_0 13 rfl)
theorem dX3_isLine_24 : decode cX3_isLine 24 = .ok (.iload_n 2, 1) := dk_28 (dw rcX3_isLine_0 14 rfl)
theorem dX3_isLine_25 : decode cX3_isLine 25 = .ok (.ifCond .ne 8, 3) := dk_154 (dw rcX3_isLine_0 15 rfl) rfl
theorem dX3_isLine_28 : decode cX3_isLine 28 = .ok (.bipush 64, 2) := dk_16 (dw rcX3_isLine_0 16 rfl) rfl
theorem dX3_isLine_30 : decode cX3_isLine 30 = .ok (.goto 4, 3) := dk_167 (dw rcX3_isLine_0 17 rfl) rfl
theorem dX3_isLine_33 : decode cX3_isLine 33 = .ok (.iload_n 2, 1) := dk_28 (dw rcX3_isLine_0 18 rfl)
theorem dX3_isLine_34 : decode cX3_isLine 34 = .ok (.iand, 1) := dk_126 (dw rcX3_isLine_0 19 rfl)
theorem dX3_isLine_35 : decode cX3_isLine 35 = .ok (.ifCond .eq 7, 3) := dk_153 (dw rcX3_isLine_0 20 rfl) rfl
theorem dX3_isLine_38 : decode cX3_isLine 38 = .ok (.iconst 1, 1) := dk_4 (dw rcX3_isLine_0 21 rfl)
theorem dX3_isLine_39 : decode cX3_isLine 39 = .ok (.goto 4, 3) := dk_167 (dw rcX3_isLine_0 22 rfl) rfl
theorem dX3_isLine_42 : decode cX3_isLine 42 = .ok (.iconst 0, 1) := dk_3 (dw rcX3_isLine_0 23 rfl)
theorem dX3_isLine_43 : decode cX3_isLine 43 = .ok (.ireturn, 1) := dq_of (by decide +kernel)
noncomputable def rbX3_lookAt_0 : List (Nat × List Nat) := [(0, [42]), (1, [43]), (2, [181, 0, 21]), (5, [42]), (6, [180, 0, 15]), (9, [2]), (10, [184, 0, 25]), (13, [177])]
theorem rcX3_lookAt_0 : dgo (lb cX3_lookAt) 0 rbX3_lookAt_0 = true := by decide +kernel
theorem dX3_lookAt_0 : decode cX3_lookAt 0 = .ok (.aload_n 0, 1) := dk_42 (dw rcX3_lookAt_0 0 rfl)
theorem dX3_lookAt_1 : decode cX3_lookAt 1 = .ok (.aload_n 1, 1) := dk_43 (dw rcX3_lookAt_0 1 rfl)
theorem dX3_lookAt_2 : decode cX3_lookAt 2 = .ok (.putfield 21, 3) := dk_181 (dw rcX3_lookAt_0 2 rfl) rfl
theorem dX3_lookAt_5 : decode cX3_lookAt 5 = .ok (.aload_n 0, 1) := dk_42 (dw rcX3_lookAt_0 3 rfl)
theorem dX3_lookAt_6 : decode cX3_lookAt 6 = .ok (.getfield 15, 3) := dk_180 (dw rcX3_lookAt_0 4 rfl) rfl
theorem dX3_lookAt_9 : decode cX3_lookAt 9 = .ok (.iconst (-1), 1) := dk_2 (dw rcX3_lookAt_0 5 rfl)
theorem dX3_lookAt_10 : decode cX3_lookAt 10 = .ok (.invokestatic 25, 3) := dk_184 (dw rcX3_lookAt_0 6 rfl) rfl
theorem dX3_lookAt_13 : decode cX3_lookAt 13 = .ok (.return_, 1) := dk_177 (dw rcX3_lookAt_0 7 rfl)
noncomputable def rbX3_valueOf_0 : List (Nat × List Nat) := [(0, [42]), (1, [3]), (2, [181, 0, 66]), (5, [42]), (6, [180, 0, 21]), (9, [180, 0, 69]), (12, [27]), (13, [46]), (14, [54, 4]), (16, [21, 4]), (18, [42]), (19, [180, 0, 21]), (22, [180, 0, 69]), (25, [27]), (26, [4]), (27, [96]), (28, [46]), (29, [162, 0, 143]), (32, [42]), (33, [180, 0, 21]), (36, [180, 0, 72]), (39, [21, 4]), (41, [46]), (42, [17, 3, 255])]
theorem rcX3_valueOf_0 : dgo (lb cX3_valueOf) 0 rbX3_valueOf_0 = true := by decide +kernel
theorem dX3_valueOf_0 : decode cX3_valueOf 0 = .ok (.aload_n 0, 1) := dk_42 (dw rcX3_valueOf_0 0 rfl)
theorem dX3_valueOf_1 : decode cX3_valueOf 1 = .ok (.iconst 0, 1) := dk_3 (dw rcX3_valueOf_0 1 rfl)
theorem dX3_valueOf_2 : decode cX3_valueOf 2 = .ok (.putfield 66, 3) := dk_181 (dw rcX3_valueOf_0 2 rfl) rfl
theorem dX3_valueOf_5 : decode cX3_valueOf 5 = .ok (.aload_n 0, 1) := dk_42 (dw rcX3_valueOf_0 3 rfl)
theorem dX3_valueOf_6 : decode cX3_valueOf 6 = .ok (.getfield 21, 3) := dk_180 (dw rcX3_valueOf_0 4 rfl) rfl
theorem dX3_valueOf_9 : decode cX3_valueOf 9 = .ok (.getfield 69, 3) := dk_180 (dw rcX3_valueOf_0 5 rfl) rfl
theorem dX3_valueOf_12 : decode cX3_valueOf 12 = .ok (.iload_n 1, 1) := dk_27 (dw rcX3_valueOf_0 6 rfl)
theorem dX3_valueOf_13 : decode cX3_valueOf 13 = .ok (.iaload, 1) := dk_46 (dw rcX3_valueOf_0 7 rfl)
theorem dX3_valueOf_14 : decode cX3_valueOf 14 = .ok (.istore 4, 2) := dk_54 (dw rcX3_valueOf_0 8 rfl)
theorem dX3_valueOf_16 : decode cX3_valueOf 16 = .ok (.iload 4, 2) := dk_21 (dw rcX3_valueOf_0 9 rfl)
theorem dX3_valueOf_18 : decode cX3_valueOf 18 = .ok (.aload_n 0, 1) := dk_42 (dw rcX3_valueOf_0 10 rfl)
theorem dX3_valueOf_19 : decode cX3_valueOf 19 = .ok (.getfield 21, 3) := dk_180 (dw rcX3_valueOf_0 11 rfl) rfl
theorem dX3_valueOf_22 : decode cX3_valueOf 22 = .ok (.getfield 69, 3) := dk_180 (dw rcX3_valueOf_0 12 rfl) rfl
theorem dX3_valueOf_25 : decode cX3_valueOf 25 = .ok (.iload_n 1, 1) := dk_27 (dw rcX3_valueOf_0 13 rfl)
theorem dX3_valueOf_26 : decode cX3_valueOf 26 = .ok (.iconst 1, 1) := dk_4 (dw rcX3_valueOf_0 14 rfl)
theorem dX3_valueOf_27 : decode cX3_valueOf 27 = .ok (.iadd, 1) := dk_96 (dw rcX3_valueOf_0 15 rfl)
theorem dX3_valueOf_28 : decode cX3_valueOf 28 = .ok (.iaload, 1) := dk_46 (dw rcX3_valueOf_0 16 rfl)
theorem dX3_valueOf_29 : decode cX3_valueOf 29 = .ok (.if_icmp .ge 143, 3) := dk_162 (dw rcX3_valueOf_0 17 rfl) rfl
theorem dX3_valueOf_32 : decode cX3_valueOf 32 = .ok (.aload_n 0, 1) := dk_42 (dw rcX3_valueOf_0 18 rfl)
theorem dX3_valueOf_33 : decode cX3_valueOf 33 = .ok (.getfield 21, 3) := dk_180 (dw rcX3_valueOf_0 19 rfl) rfl
theorem dX3_valueOf_36 : decode cX3_valueOf 36 = .ok (.getfield 72, 3) := dk_180 (dw rcX3_valueOf_0 20 rfl) rfl
theorem dX3_valueOf_39 : decode cX3_valueOf 39 = .ok (.iload 4, 2) := dk_21 (dw rcX3_valueOf_0 21 rfl)
theorem dX3_valueOf_41 : decode cX3_valueOf 41 = .ok (.iaload, 1) := dk_46 (dw rcX3_valueOf_0 22 rfl)
theorem dX3_valueOf_42 : decode cX3_valueOf 42 = .ok (.sipush 1023, 3) := dk_17 (dw rcX3_valueOf_0 23 rfl) rfl
noncomputable def rbX3_valueOf_45 : List (Nat × List Nat) := [(45, [126]), (46, [54, 5]), (48, [21, 5]), (50, [17, 0, 201]), (53, [160, 0, 23]), (56, [42]), (57, [42]), (58, [180, 0, 21]), (61, [180, 0, 72]), (64, [21, 4]), (66, [46]), (67, [16, 10]), (69, [122]), (70, [182, 0, 75]), (73, [167, 0, 93]), (76, [21, 5]), (78, [17, 0, 146]), (81, [160, 0, 22]), (84, [42]), (85, [42]), (86, [182, 0, 79]), (89, [154, 0, 7]), (92, [4]), (93, [167, 0, 4])]
theorem rcX3_valueOf_45 : dgo (lb cX3_valueOf) 0 rbX3_valueOf_45 = true := by decide +kernel
theorem dX3_valueOf_45 : decode cX3_valueOf 45 = .ok (.iand, 1) := dk_126 (dw rcX3_valueOf_45 0 rfl)
theorem dX3_valueOf_46 : decode cX3_valueOf 46 = .ok (.istore 5, 2) := dk_54 (dw rcX3_valueOf_45 1 rfl)
theorem dX3_valueOf_48 : decode cX3_valueOf 48 = .ok (.iload 5, 2) := dk_21 (dw rcX3_valueOf_45 2 rfl)
theorem dX3_valueOf_50 : decode cX3_valueOf 50 = .ok (.sipush 201, 3) := dk_17 (dw rcX3_valueOf_45 3 rfl) rfl
theorem dX3_valueOf_53 : decode cX3_valueOf 53 = .ok (.if_icmp .ne 23, 3) := dk_160 (dw rcX3_valueOf_45 4 rfl) rfl
theorem dX3_valueOf_56 : decode cX3_valueOf 56 = .ok (.aload_n 0, 1) := dk_42 (dw rcX3_valueOf_45 5 rfl)
theorem dX3_valueOf_57 : decode cX3_valueOf 57 = .ok (.aload_n 0, 1) := dk_42 (dw rcX3_valueOf_45 6 rfl)
theorem dX3_valueOf_58 : decode cX3_valueOf 58 = .ok (.getfield 21, 3) := dk_180 (dw rcX3_valueOf_45 7 rfl) rfl
theorem dX3_valueOf_61 : decode cX3_valueOf 61 = .ok (.getfield 72, 3) := dk_180 (dw rcX3_valueOf_45 8 rfl) rfl
theorem dX3_valueOf_64 : decode cX3_valueOf 64 = .ok (.iload 4, 2) := dk_21 (dw rcX3_valueOf_45 9 rfl)
theorem dX3_valueOf_66 : decode cX3_valueOf 66 = .ok (.iaload, 1) := dk_46 (dw rcX3_valueOf_45 10 rfl)
theorem dX3_valueOf_67 : decode cX3_valueOf 67 = .ok (.bipush 10, 2) := dk_16 (dw rcX3_valueOf_45 11 rfl) rfl
theorem dX3_valueOf_69 : decode cX3_valueOf 69 = .ok (.ishr, 1) := dk_122 (dw rcX3_valueOf_45 12 rfl)
theorem dX3_valueOf_70 : decode cX3_valueOf 70 = .ok (.invokevirtual 75, 3) := dk_182 (dw rcX3_valueOf_45 13 rfl) rfl
theorem dX3_valueOf_73 : decode cX3_valueOf 73 = .ok (.goto 93, 3) := dk_167 (dw rcX3_valueOf_45 14 rfl) rfl
theorem dX3_valueOf_76 : decode cX3_valueOf 76 = .ok (.iload 5, 2) := dk_21 (dw rcX3_valueOf_45 15 rfl)
theorem dX3_valueOf_78 : decode cX3_valueOf 78 = .ok (.sipush 146, 3) := dk_17 (dw rcX3_valueOf_45 16 rfl) rfl
theorem dX3_valueOf_81 : decode cX3_valueOf 81 = .ok (.if_icmp .ne 22, 3) := dk_160 (dw rcX3_valueOf_45 17 rfl) rfl
theorem dX3_valueOf_84 : decode cX3_valueOf 84 = .ok (.aload_n 0, 1) := dk_42 (dw rcX3_valueOf_45 18 rfl)
theorem dX3_valueOf_85 : decode cX3_valueOf 85 = .ok (.aload_n 0, 1) := dk_42 (dw rcX3_valueOf_45 19 rfl)
theorem dX3_valueOf_86 : decode cX3_valueOf 86 = .ok (.invokevirtual 79, 3) := dk_182 (dw rcX3_valueOf_45 20 rfl) rfl
theorem dX3_valueOf_89 : decode cX3_valueOf 89 = .ok (.ifCond .ne 7, 3) := dk_154 (dw rcX3_valueOf_45 21 rfl) rfl
theorem dX3_valueOf_92 : decode cX3_valueOf 92 = .ok (.iconst 1, 1) := dk_4 (dw rcX3_valueOf_45 22 rfl)
theorem dX3_valueOf_93 : decode cX3_valueOf 93 = .ok (.goto 4, 3) := dk_167 (dw rcX3_valueOf_45 23 rfl) rfl
noncomputable def rbX3_valueOf_96 : List (Nat × List Nat) := [(96, [3]), (97, [182, 0, 75]), (100, [167, 0, 66]), (103, [21, 5]), (105, [17, 0, 144]), (108, [159, 0, 19]), (111, [21, 5]), (113, [17, 0, 145]), (116, [159, 0, 11]), (119, [21, 5]), (121, [17, 0, 128]), (124, [162, 0, 31]), (127, [42]), (128, [182, 0, 79]), (131, [54, 6]), (133, [42]), (134, [182, 0, 79]), (137, [54, 7]), (139, [42]), (140, [21, 5]), (142, [21, 7]), (144, [21, 6]), (146, [184, 0, 83]), (149, [182, 0, 75])]
theorem rcX3_valueOf_96 : dgo (lb cX3_valueOf) 0 rbX3_valueOf_96 = true := by decide +kernel
theorem dX3_valueOf_96 : decode cX3_valueOf 96 = .ok (.iconst 0, 1) := dk_3 (dw rcX3_valueOf_96 0 rfl)
theorem dX3_valueOf_97 : decode cX3_valueOf 97 = .ok (.invokevirtual 75, 3) := dk_182 (dw rcX3_valueOf_96 1 rfl) rfl
theorem dX3_valueOf_100 : decode cX3_valueOf 100 = .ok (.goto 66, 3) := dk_167 (dw rcX3_valueOf_96 2 rfl) rfl
theorem dX3_valueOf_103 : decode cX3_valueOf 103 = .ok (.iload 5, 2) := dk_21 (dw rcX3_valueOf_96 3 rfl)
theorem dX3_valueOf_105 : decode cX3_valueOf 105 = .ok (.sipush 144, 3) := dk_17 (dw rcX3_valueOf_96 4 rfl) rfl
theorem dX3_valueOf_108 : decode cX3_valueOf 108 = .ok (.if_icmp .eq 19, 3) := dk_159 (dw rcX3_valueOf_96 5 rfl) rfl
theorem dX3_valueOf_111 : decode cX3_valueOf 111 = .ok (.iload 5, 2) := dk_21 (dw rcX3_valueOf_96 6 rfl)
theorem dX3_valueOf_113 : decode cX3_valueOf 113 = .ok (.sipush 145, 3) := dk_17 (dw rcX3_valueOf_96 7 rfl) rfl
theorem dX3_valueOf_116 : decode cX3_valueOf 116 = .ok (.if_icmp .eq 11, 3) := dk_159 (dw rcX3_valueOf_96 8 rfl) rfl
theorem dX3_valueOf_119 : decode cX3_valueOf 119 = .ok (.iload 5, 2) := dk_21 (dw rcX3_valueOf_96 9 rfl)
theorem dX3_valueOf_121 : decode cX3_valueOf 121 = .ok (.sipush 128, 3) := dk_17 (dw rcX3_valueOf_96 10 rfl) rfl
theorem dX3_valueOf_124 : decode cX3_valueOf 124 = .ok (.if_icmp .ge 31, 3) := dk_162 (dw rcX3_valueOf_96 11 rfl) rfl
theorem dX3_valueOf_127 : decode cX3_valueOf 127 = .ok (.aload_n 0, 1) := dk_42 (dw rcX3_valueOf_96 12 rfl)
theorem dX3_valueOf_128 : decode cX3_valueOf 128 = .ok (.invokevirtual 79, 3) := dk_182 (dw rcX3_valueOf_96 13 rfl) rfl
theorem dX3_valueOf_131 : decode cX3_valueOf 131 = .ok (.istore 6, 2) := dk_54 (dw rcX3_valueOf_96 14 rfl)
theorem dX3_valueOf_133 : decode cX3_valueOf 133 = .ok (.aload_n 0, 1) := dk_42 (dw rcX3_valueOf_96 15 rfl)
theorem dX3_valueOf_134 : decode cX3_valueOf 134 = .ok (.invokevirtual 79, 3) := dk_182 (dw rcX3_valueOf_96 16 rfl) rfl
theorem dX3_valueOf_137 : decode cX3_valueOf 137 = .ok (.istore 7, 2) := dk_54 (dw rcX3_valueOf_96 17 rfl)
theorem dX3_valueOf_139 : decode cX3_valueOf 139 = .ok (.aload_n 0, 1) := dk_42 (dw rcX3_valueOf_96 18 rfl)
theorem dX3_valueOf_140 : decode cX3_valueOf 140 = .ok (.iload 5, 2) := dk_21 (dw rcX3_valueOf_96 19 rfl)
theorem dX3_valueOf_142 : decode cX3_valueOf 142 = .ok (.iload 7, 2) := dk_21 (dw rcX3_valueOf_96 20 rfl)
theorem dX3_valueOf_144 : decode cX3_valueOf 144 = .ok (.iload 6, 2) := dk_21 (dw rcX3_valueOf_96 21 rfl)
theorem dX3_valueOf_146 : decode cX3_valueOf 146 = .ok (.invokestatic 83, 3) := dk_184 (dw rcX3_valueOf_96 22 rfl) rfl
theorem dX3_valueOf_149 : decode cX3_valueOf 149 = .ok (.invokevirtual 75, 3) := dk_182 (dw rcX3_valueOf_96 23 rfl) rfl
noncomputable def rbX3_valueOf_152 : List (Nat × List Nat) := [(152, [167, 0, 14]), (155, [42]), (156, [21, 5]), (158, [28]), (159, [29]), (160, [184, 0, 86]), (163, [182, 0, 75]), (166, [132, 4, 1]), (169, [167, 255, 103]), (172, [42]), (173, [182, 0, 79]), (176, [172])]
theorem rcX3_valueOf_152 : dgo (lb cX3_valueOf) 0 rbX3_valueOf_152 = true := by decide +kernel
theorem dX3_valueOf_152 : decode cX3_valueOf 152 = .ok (.goto 14, 3) := dk_167 (dw rcX3_valueOf_152 0 rfl) rfl
theorem dX3_valueOf_155 : decode cX3_valueOf 155 = .ok (.aload_n 0, 1) := dk_42 (dw rcX3_valueOf_152 1 rfl)
theorem dX3_valueOf_156 : decode cX3_valueOf 156 = .ok (.iload 5, 2) := dk_21 (dw rcX3_valueOf_152 2 rfl)
theorem dX3_valueOf_158 : decode cX3_valueOf 158 = .ok (.iload_n 2, 1) := dk_28 (dw rcX3_valueOf_152 3 rfl)
theorem dX3_valueOf_159 : decode cX3_valueOf 159 = .ok (.iload_n 3, 1) := dk_29 (dw rcX3_valueOf_152 4 rfl)
theorem dX3_valueOf_160 : decode cX3_valueOf 160 = .ok (.invokestatic 86, 3) := dk_184 (dw rcX3_valueOf_152 5 rfl) rfl
theorem dX3_valueOf_163 : decode cX3_valueOf 163 = .ok (.invokevirtual 75, 3) := dk_182 (dw rcX3_valueOf_152 6 rfl) rfl
theorem dX3_valueOf_166 : decode cX3_valueOf 166 = .ok (.iinc 4 1, 3) := dk_132 (dw rcX3_valueOf_152 7 rfl) rfl
theorem dX3_valueOf_169 : decode cX3_valueOf 169 = .ok (.goto (-153), 3) := dk_167 (dw rcX3_valueOf_152 8 rfl) rfl
theorem dX3_valueOf_172 : decode cX3_valueOf 172 = .ok (.aload_n 0, 1) := dk_42 (dw rcX3_valueOf_152 9 rfl)
theorem dX3_valueOf_173 : decode cX3_valueOf 173 = .ok (.invokevirtual 79, 3) := dk_182 (dw rcX3_valueOf_152 10 rfl) rfl
theorem dX3_valueOf_176 : decode cX3_valueOf 176 = .ok (.ireturn, 1) := dk_172 (dw rcX3_valueOf_152 11 rfl)
set_option maxHeartbeats 4000000 in
set_option maxRecDepth 100000 in
theorem k_lLook_1 (l : Launch) (D : va_G) (k : KT) (A : Nat → Prop) (a : Nat → Nat) (z : SK) (G : GS)   : Met l yX3_lookAt (WS yX3_lookAt cX3_lookAt 2 none) ({ frames := 1, cells := 0, slots := 0, locals := 23 }) (va_Pc [.ref (a 6), .ref (a 1)] (cW D k A a z G)) (va_Qv (fun (G1 : GS) => P_lLook_1 G G1) (fun (G1 : GS) t => Wd D k A a G1 t.heap) A) 0 0 A := by
  refine Met.ofW (cc := cX3_lookAt) (maxL := 2) (ret := none) (by decide) rfl ?_
  intro p e s m args below meth c s₁ B hml hv
  obtain ⟨rfl, hW, hB_G, hK, hZ⟩ := hv
  have hx := B.exec
  have hb := B.bytes
  have hr := B.returns
  have hts := atoms_spec (ws := WS yX3_lookAt cX3_lookAt 2 none) B.pre
  have hgd : ∀ w ∈ gd, w ∈ WS yX3_lookAt cX3_lookAt 2 none := fun w h => List.mem_cons_of_mem _ h
  have hg : ∀ w ∈ gd, w.before _ s = true := fun w h => hts w (hgd w h)
  have hown : s.vm.findClass RX3 = some m.cls := findClass_of_methodNamed B.named
  have hS : va_S A s.heap s.heap [] := va_S.rf
  have hF : Fr [38] [(6, 4)] G G := Fr.rf
  have hl := lv_entry ([.ref (a 6), .ref (a 1)]) (n := 2) (Nat.le_of_ble_eq_true rfl)
  rw [lg_entry_eq]
  generalize (lg_sl ([.ref (a 6), .ref (a 1)]) ++ List.replicate (2 - (lg_sl ([.ref (a 6), .ref (a 1)])).length) Slot.unset).toArray = ls at hl ⊢
  have hl : lv_has ls 2 [(0, .ref (a 6)), (1, .ref (a 1))] := hl
  refine lv_aload_n hx hb dX3_lookAt_0 rfl (lv_at hl 0 rfl) ?_
  refine lv_aload_n hx hb dX3_lookAt_1 rfl (lv_at hl 1 rfl) ?_
  refine S_putV (ty := .object "SlabWalk$Paving") (n := 1) (C := RX3) (T := TX3) (N := 5) hx hb hg iX3 tyX3 tyX3_ok nmX3 hown hK hW hS kd_6 rfl 4 (lt_b rfl) (hg (Cond.fieldLink RX3 21 "SlabWalk$Lines" "paving" "LSlabWalk$Paving;") m353) (fun _ h9 => h9) rfl (by decide +kernel) rfl rfl rfl dX3_lookAt_2 (fun G_1 H locs eG_1 hW hS => ?_)
  have hB_G_1 : Bd G_1 := hB_G.putr eG_1 (by decide) (by decide)
  have hF := hF.putr eG_1 (Or.inr (by decide))
  refine lv_aload_n hx hb dX3_lookAt_5 rfl (lv_at hl 0 rfl) ?_
  refine S_getR (n := 38) (C := RX3) (T := TX3) (N := 5) hx hb hg iX3 hown hK hW kd_6 rfl 1 (lt_b rfl) (hg (Cond.fieldLink RX3 15 "SlabWalk$Lines" "foundOn" "[I") m350) (fun _ h9 => h9) rfl dX3_lookAt_6 ?_
  refine ic_m1 hx hb dX3_lookAt_9 ?_
  refine S_callv (va_runS (As := [.ref (a 38), .int (-1)]) (rest := []) ⟨hx, hb, hml, hown, hts⟩ (k_fill_38 l D k A a z G_1 (-1) ) (va_cwS 2 hts (gd_S hgd m555 m556 m129 m557) rfl rfl rfl hd_J7_fill_53178.2 ⟨Nat.le_of_ble_eq_true rfl, Nat.le_of_ble_eq_true rfl⟩) (pre_S hW hB_G_1 hK hZ hS) rfl rfl hl.1 rfl (lv_room (Nat.le_of_ble_eq_true rfl)) dX3_lookAt_10 ⟨Nat.le_of_ble_eq_true rfl, Nat.le_of_ble_eq_true rfl⟩) hS (fun G_3 H locs hpo hW hS => ?_)
  have hX_6 : P_fill_38 (-1) G_1 G_3 := hpo
  obtain ⟨hB_G_3, hq_4, -⟩ := hpo
  have hF := hF.call9 hq_4 rfl rfl
  exact W.vret hx hb hr (fun t ht _ => ⟨⟨G_3, rfl, (P_lLook_1_mk ⟨hB_G_3, hF, ⟨G_1, hB_G_1, (Fr.putr (rs := []) (fs := [(6, 4)]) Fr.rf eG_1 (Or.inr (by decide))), (gp_re eG_1), ⟨G_3, hX_6, rfl⟩⟩⟩), wd_t ht hW⟩, hS.F ht⟩) hS.2.2 dX3_lookAt_13

set_option maxHeartbeats 4000000 in
set_option maxRecDepth 100000 in
theorem k_lValue_1 (l : Launch) (D : va_G) (k : KT) (A : Nat → Prop) (a : Nat → Nat) (z : SK) (G : GS) (p0 : Int32) (p1 : Int32) (p2 : Int32) (ha_p0 : 0 ≤ p0.toInt ∧ p0.toInt ≤ 5) (hv_6_4 : G.2.2 6 4 = 1) : Met l yX3_valueOf (WS yX3_valueOf cX3_valueOf 8 (some .int)) ({ frames := 2, cells := 0, slots := 0, locals := 43 }) (va_Pc [.ref (a 6), .int p0, .int p1, .int p2] (cW D k A a z G)) (va_Qi (fun (r : Int32) (G1 : GS) => P_lValue_1 p0 p1 p2 G r G1) (fun (G1 : GS) t => Wd D k A a G1 t.heap) A) 0 0 A := by
  refine Met.ofW (cc := cX3_valueOf) (maxL := 8) (ret := (some .int)) (by decide) rfl ?_
  intro p e s m args below meth c s₁ B hml hv
  obtain ⟨rfl, hW, hB_G, hK, hZ⟩ := hv
  have hx := B.exec
  have hb := B.bytes
  have hr := B.returns
  have hts := atoms_spec (ws := WS yX3_valueOf cX3_valueOf 8 (some .int)) B.pre
  have hgd : ∀ w ∈ gd, w ∈ WS yX3_valueOf cX3_valueOf 8 (some .int) := fun w h => List.mem_cons_of_mem _ h
  have hg : ∀ w ∈ gd, w.before _ s = true := fun w h => hts w (hgd w h)
  have hown : s.vm.findClass RX3 = some m.cls := findClass_of_methodNamed B.named
  have hS : va_S A s.heap s.heap [] := va_S.rf
  have hF : Fr [39] [(6, 3)] G G := Fr.rf
  have hl := lv_entry ([.ref (a 6), .int p0, .int p1, .int p2]) (n := 8) (Nat.le_of_ble_eq_true rfl)
  rw [lg_entry_eq]
  generalize (lg_sl ([.ref (a 6), .int p0, .int p1, .int p2]) ++ List.replicate (8 - (lg_sl ([.ref (a 6), .int p0, .int p1, .int p2])).length) Slot.unset).toArray = ls at hl ⊢
  have hl : lv_has ls 8 [(0, .ref (a 6)), (1, .int p0), (2, .int p1), (3, .int p2)] := hl
  refine lv_aload_n hx hb dX3_valueOf_0 rfl (lv_at hl 0 rfl) ?_
  refine ic_0 hx hb dX3_valueOf_1 ?_
  refine S_putI (ty := .int) (C := RX3) (T := TX3) (N := 5) hx hb hg iX3 tyX3 tyX3_ok nmX3 hown hK hW hS kd_6 rfl 3 (lt_b rfl) (hg (Cond.fieldLink RX3 66 "SlabWalk$Lines" "top" "I") m352) (fun _ h9 => h9) rfl (by decide +kernel) rfl rfl rfl dX3_valueOf_2 (fun G_1 H locs eG_1 hW hS => ?_)
  have hB_G_1 : Bd G_1 := hB_G.put (V := 0) (lo := 0) (hi := 100) eG_1 rfl rfl rfl (by decide) (by decide) (hB_G.2.put eG_1 rfl)
  have hF := hF.put eG_1 (Or.inr (by decide))
  refine lv_aload_n hx hb dX3_valueOf_5 rfl (lv_at hl 0 rfl) ?_
  refine S_getV (n := 1) (C := RX3) (T := TX3) (N := 5) hx hb hg iX3 hown hK hW kd_6 rfl 4 (lt_b rfl) (hg (Cond.fieldLink RX3 21 "SlabWalk$Lines" "paving" "LSlabWalk$Paving;") m353) (fun _ h9 => h9) rfl (((congrFun (congrFun (congrArg (fun q => q.2.2) eG_1) 6) 4)).trans (hv_6_4)) dX3_valueOf_6 ?_
  refine S_getR (n := 18) (C := RX6) (T := TX6) (N := 17) hx hb hg iX6 hown hK hW kd_1 rfl 8 (lt_b rfl) (hg (Cond.fieldLink RX3 69 "SlabWalk$Paving" "codeEnd" "[I") m184) (fun _ h9 => h9) rfl dX3_valueOf_9 ?_
  refine lv_iload_n hx hb dX3_valueOf_12 rfl (lv_at hl 1 rfl) ?_
  refine S_iald hx hb hK hW kd_18 (vin ((by first | exact ha_p0.1 | omega)) ((by first | exact ok_142 ha_p0.2 | omega))) dX3_valueOf_13 (fun y_2 ey_2 => ?_)
  have ty_2 : 0 ≤ y_2.toInt ∧ y_2.toInt ≤ 580 := bv_18 hB_G_1 ey_2
  refine lv_istore (lv' := [(4, .int y_2), (0, .ref (a 6)), (1, .int p0), (2, .int p1), (3, .int p2)]) hx hb dX3_valueOf_14 hl (lt_b rfl) rfl (fun ls hl => ?_)
  refine loop_N (Inv := fun n H locs ls => ∃ (G_3 : GS) (x_7 : Int32), (n : Int) = 580 - x_7.toInt ∧ (0 ≤ x_7.toInt ∧ x_7.toInt ≤ 580) ∧ Rc (St_k_lValue_1_1 p0 p1 p2) (y_2, G_1) (x_7, G_3) ∧ Wd D k A a G_3 H ∧ Bd G_3 ∧ Fr [39] [(6, 3)] G G_3 ∧ Fr [39] [(6, 3)] G_1 G_3 ∧ va_S A s.heap H locs ∧ lv_has ls 8 [(4, .int x_7), (0, .ref (a 6)), (1, .int p0), (2, .int p1), (3, .int p2)]) (fun n_6 H locs ls ih_5 hI => ?_) (580 - y_2.toInt : Int).toNat ⟨G_1, y_2, (Int.toNat_of_nonneg ((by first | exact ok_143 ty_2.2 | omega))), ⟨(by first | exact ty_2.1 | omega), (by first | exact ty_2.2 | omega)⟩, Rc.rf, hW, hB_G_1, hF, Fr.rf, hS, lv_sub hl [0, 1, 2, 3, 4] rfl⟩
  obtain ⟨G_3, x_7, hn_10, f_9, hX_8, hW, hB_G_3, hF, hq_4, hS, hl⟩ := hI
  refine lv_iload hx hb dX3_valueOf_16 (lv_at hl 0 rfl) ?_
  refine lv_aload_n hx hb dX3_valueOf_18 rfl (lv_at hl 1 rfl) ?_
  refine S_getV (n := 1) (C := RX3) (T := TX3) (N := 5) hx hb hg iX3 hown hK hW kd_6 rfl 4 (lt_b rfl) (hg (Cond.fieldLink RX3 21 "SlabWalk$Lines" "paving" "LSlabWalk$Paving;") m353) (fun _ h9 => h9) rfl ((((hq_4.r9 6 4 rfl rfl).trans (congrFun (congrFun (congrArg (fun q => q.2.2) eG_1) 6) 4))).trans (hv_6_4)) dX3_valueOf_19 ?_
  refine S_getR (n := 18) (C := RX6) (T := TX6) (N := 17) hx hb hg iX6 hown hK hW kd_1 rfl 8 (lt_b rfl) (hg (Cond.fieldLink RX3 69 "SlabWalk$Paving" "codeEnd" "[I") m184) (fun _ h9 => h9) rfl dX3_valueOf_22 ?_
  refine lv_iload_n hx hb dX3_valueOf_25 rfl (lv_at hl 2 rfl) ?_
  refine ic_1 hx hb dX3_valueOf_26 ?_
  refine lv_iadd hx hb dX3_valueOf_27 ?_
  refine lv_topi (fun y_11 ey_11 => ?_)
  have ty_11 : y_11.toInt = p0.toInt + 1 := xI_add rfl rfl ey_11 ((by first | exact ok_21 ha_p0.1 | omega)) ((by first | exact ok_144 ha_p0.2 | omega))
  refine S_iald hx hb hK hW kd_18 (vin ((by first | exact ok_23 ha_p0.1 ty_11 | omega)) ((by first | exact ok_145 ha_p0.2 ty_11 | omega))) dX3_valueOf_28 (fun y_12 ey_12 => ?_)
  have ty_12 : 0 ≤ y_12.toInt ∧ y_12.toInt ≤ 580 := bv_18 hB_G_3 ey_12
  refine lv_icmp_ge (tgt := 172) hx hb dX3_valueOf_29 rfl (fun c_13 => ?_) (fun c_13 => ?_)
  · have c_13 : y_12.toInt ≤ x_7.toInt := xI_le rfl rfl c_13
    refine lv_aload_n hx hb dX3_valueOf_172 rfl (lv_at hl 1 rfl) ?_
    refine S_calli (va_runV (As := []) (rest := []) ⟨hx, hb, hml, hown, hts⟩ (k_lPop l D k A a z G_3  ) (cwV 0 hts (gd_V hgd m929 m931 m30 m122 m932) rfl rfl rfl hd_X3_pop ⟨Nat.le_of_ble_eq_true rfl, Nat.le_of_ble_eq_true rfl⟩) (pre_W hW hB_G_3 hK hZ hS kd_6 rfl) rfl rfl hl.1 rfl (lv_room (Nat.le_of_ble_eq_true rfl)) dX3_valueOf_173 ⟨Nat.le_of_ble_eq_true rfl, Nat.le_of_ble_eq_true rfl⟩) hS (fun r_14 G_15 H locs hpo hW hS => ?_)
    have hX_18 : P_lPop G_3 r_14 G_15 := hpo
    obtain ⟨hB_G_15, hq_16, -⟩ := hpo
    have hF := hF.call9 hq_16 rfl rfl
    exact W.iret (v := r_14) hx hb hr (fun t ht _ => ⟨⟨r_14, G_15, rfl, (P_lValue_1_mk ⟨hB_G_15, hF, ⟨y_2, ey_2.trans (congrFun (rw_put eG_1 (by decide)) _), ⟨G_1, hB_G_1, (Fr.put (rs := []) (fs := [(6, 3)]) Fr.rf eG_1 (Or.inr (by decide))), (gp_eq eG_1), ⟨x_7, G_3, hX_8, f_9, hB_G_3, hq_4, ⟨y_11, ty_11, ⟨y_12, ey_12, ⟨c_13, ⟨r_14, G_15, hX_18, ⟨rfl, rfl⟩⟩⟩⟩⟩⟩⟩⟩⟩), wd_t ht hW⟩, hS.F ht⟩) hS.2.2 dX3_valueOf_176
  · have c_13 : x_7.toInt < y_12.toInt := xI_nle rfl rfl c_13
    refine lv_aload_n hx hb dX3_valueOf_32 rfl (lv_at hl 1 rfl) ?_
    refine S_getV (n := 1) (C := RX3) (T := TX3) (N := 5) hx hb hg iX3 hown hK hW kd_6 rfl 4 (lt_b rfl) (hg (Cond.fieldLink RX3 21 "SlabWalk$Lines" "paving" "LSlabWalk$Paving;") m353) (fun _ h9 => h9) rfl ((((hq_4.r9 6 4 rfl rfl).trans (congrFun (congrFun (congrArg (fun q => q.2.2) eG_1) 6) 4))).trans (hv_6_4)) dX3_valueOf_33 ?_
    refine S_getR (n := 17) (C := RX6) (T := TX6) (N := 17) hx hb hg iX6 hown hK hW kd_1 rfl 7 (lt_b rfl) (hg (Cond.fieldLink RX3 72 "SlabWalk$Paving" "code" "[I") m182) (fun _ h9 => h9) rfl dX3_valueOf_36 ?_
    refine lv_iload hx hb dX3_valueOf_39 (lv_at hl 0 rfl) ?_
    refine S_iald hx hb hK hW kd_17 (vin ((by first | exact f_9.1 | omega)) ((by first | exact ok_146 f_9.2 ty_12.2 c_13 | omega))) dX3_valueOf_41 (fun y_19 ey_19 => ?_)
    refine lv_sipush (v := 1023) hx hb dX3_valueOf_42 (by decide) ?_
    refine lv_iand hx hb dX3_valueOf_45 ?_
    refine lv_topi (fun y_20 ey_20 => ?_)
    have ty_20 := xI_and (Y := 1023) rfl ey_20 (by decide)
    refine lv_istore (lv' := [(5, .int y_20), (4, .int x_7), (0, .ref (a 6)), (1, .int p0), (2, .int p1), (3, .int p2)]) hx hb dX3_valueOf_46 hl (lt_b rfl) rfl (fun ls hl => ?_)
    refine lv_iload hx hb dX3_valueOf_48 (lv_at hl 0 rfl) ?_
    refine lv_sipush (v := 201) hx hb dX3_valueOf_50 (by decide) ?_
    refine lv_icmp_ne (tgt := 76) hx hb dX3_valueOf_53 rfl (fun c_21 => ?_) (fun c_21 => ?_)
    · have c_21 : y_20.toInt ≠ 201 := xI_ne rfl rfl c_21
      refine lv_iload hx hb dX3_valueOf_76 (lv_at hl 0 rfl) ?_
      refine lv_sipush (v := 146) hx hb dX3_valueOf_78 (by decide) ?_
      refine lv_icmp_ne (tgt := 103) hx hb dX3_valueOf_81 rfl (fun c_22 => ?_) (fun c_22 => ?_)
      · have c_22 : y_20.toInt ≠ 146 := xI_ne rfl rfl c_22
        refine lv_iload hx hb dX3_valueOf_103 (lv_at hl 0 rfl) ?_
        refine lv_sipush (v := 144) hx hb dX3_valueOf_105 (by decide) ?_
        refine W.cut (σ := Unit) (pcJ := 127) (J := fun y H locs ls => ∃ (G_29 : GS), Jn_k_lValue_1_2 y_20 G_3 G_29 ∧ Wd D k A a G_29 H ∧ Bd G_29 ∧ Fr [39] [(6, 3)] G G_29 ∧ Fr [] [] G_3 G_29 ∧ va_S A s.heap H locs ∧ lv_has ls 8 [(5, .int y_20), (4, .int x_7), (0, .ref (a 6)), (1, .int p0), (2, .int p1), (3, .int p2)]) (stJ := fun _ => []) ?_ (fun hJ_30 => ?_)
        · intro y H locs ls hI
          obtain ⟨G_29, hX_32, hW, hB_G_29, hF, hq_31, hS, hl⟩ := hI
          refine lv_aload_n hx hb dX3_valueOf_127 rfl (lv_at hl 2 rfl) ?_
          refine S_calli (va_runV (As := []) (rest := []) ⟨hx, hb, hml, hown, hts⟩ (k_lPop l D k A a z G_29  ) (cwV 0 hts (gd_V hgd m929 m931 m30 m122 m932) rfl rfl rfl hd_X3_pop ⟨Nat.le_of_ble_eq_true rfl, Nat.le_of_ble_eq_true rfl⟩) (pre_W hW hB_G_29 hK hZ hS kd_6 rfl) rfl rfl hl.1 rfl (lv_room (Nat.le_of_ble_eq_true rfl)) dX3_valueOf_128 ⟨Nat.le_of_ble_eq_true rfl, Nat.le_of_ble_eq_true rfl⟩) hS (fun r_33 G_34 H locs hpo hW hS => ?_)
          have hX_37 : P_lPop G_29 r_33 G_34 := hpo
          obtain ⟨hB_G_34, hq_35, -⟩ := hpo
          have hF := hF.call9 hq_35 rfl rfl
          refine lv_istore (lv' := [(6, .int r_33), (5, .int y_20), (4, .int x_7), (0, .ref (a 6)), (1, .int p0), (2, .int p1), (3, .int p2)]) hx hb dX3_valueOf_131 hl (lt_b rfl) rfl (fun ls hl => ?_)
          refine lv_aload_n hx hb dX3_valueOf_133 rfl (lv_at hl 3 rfl) ?_
          refine S_calli (va_runV (As := []) (rest := []) ⟨hx, hb, hml, hown, hts⟩ (k_lPop l D k A a z G_34  ) (cwV 0 hts (gd_V hgd m929 m931 m30 m122 m932) rfl rfl rfl hd_X3_pop ⟨Nat.le_of_ble_eq_true rfl, Nat.le_of_ble_eq_true rfl⟩) (pre_W hW hB_G_34 hK hZ hS kd_6 rfl) rfl rfl hl.1 rfl (lv_room (Nat.le_of_ble_eq_true rfl)) dX3_valueOf_134 ⟨Nat.le_of_ble_eq_true rfl, Nat.le_of_ble_eq_true rfl⟩) hS (fun r_38 G_39 H locs hpo hW hS => ?_)
          have hX_42 : P_lPop G_34 r_38 G_39 := hpo
          obtain ⟨hB_G_39, hq_40, -⟩ := hpo
          have hF := hF.call9 hq_40 rfl rfl
          refine lv_istore (lv' := [(7, .int r_38), (6, .int r_33), (5, .int y_20), (4, .int x_7), (0, .ref (a 6)), (1, .int p0), (2, .int p1), (3, .int p2)]) hx hb dX3_valueOf_137 hl (lt_b rfl) rfl (fun ls hl => ?_)
          refine lv_aload_n hx hb dX3_valueOf_139 rfl (lv_at hl 4 rfl) ?_
          refine lv_iload hx hb dX3_valueOf_140 (lv_at hl 2 rfl) ?_
          refine lv_iload hx hb dX3_valueOf_142 (lv_at hl 0 rfl) ?_
          refine lv_iload hx hb dX3_valueOf_144 (lv_at hl 1 rfl) ?_
          refine S_calli (va_runS (As := [.int y_20, .int r_38, .int r_33]) (rest := [.ref (a 6)]) ⟨hx, hb, hml, hown, hts⟩ (k_lJoin l D k A a z G_39 y_20 r_38 r_33 ) (va_cwS 3 hts (gd_S hgd m933 m934 m122 m935) rfl rfl rfl hd_X3_join.2 ⟨Nat.le_of_ble_eq_true rfl, Nat.le_of_ble_eq_true rfl⟩) (pre_S hW hB_G_39 hK hZ hS) rfl rfl hl.1 rfl (lv_room (Nat.le_of_ble_eq_true rfl)) dX3_valueOf_146 ⟨Nat.le_of_ble_eq_true rfl, Nat.le_of_ble_eq_true rfl⟩) hS (fun r_43 G_44 H locs hpo hW hS => ?_)
          have hX_47 : P_lJoin y_20 r_38 r_33 G_39 r_43 G_44 := hpo
          obtain ⟨hB_G_44, hq_45, -⟩ := hpo
          have hF := hF.call9 hq_45 rfl rfl
          refine S_callv (va_runV (As := [.int r_43]) (rest := []) ⟨hx, hb, hml, hown, hts⟩ (k_lPush l D k A a z G_44 r_43 ) (cwV 1 hts (gd_V hgd m925 m927 m29 m122 m928) rfl rfl rfl hd_X3_push ⟨Nat.le_of_ble_eq_true rfl, Nat.le_of_ble_eq_true rfl⟩) (pre_W hW hB_G_44 hK hZ hS kd_6 rfl) rfl rfl hl.1 rfl (lv_room (Nat.le_of_ble_eq_true rfl)) dX3_valueOf_149 ⟨Nat.le_of_ble_eq_true rfl, Nat.le_of_ble_eq_true rfl⟩) hS (fun G_49 H locs hpo hW hS => ?_)
          have hX_52 : P_lPush r_43 G_44 G_49 := hpo
          obtain ⟨hB_G_49, hq_50, -⟩ := hpo
          have hF := hF.call9 hq_50 rfl rfl
          refine lv_goto (tgt := 166) hx hb dX3_valueOf_152 rfl ?_
          obtain ⟨y_53, ey_53⟩ : ∃ q, q = x_7 + 1 := ⟨_, rfl⟩
          have ty_53 : y_53.toInt = x_7.toInt + 1 := xI_add rfl rfl ey_53 ((by first | exact ok_21 f_9.1 | omega)) ((by first | exact ok_22 f_9.2 | omega))
          refine lv_iinc (v := y_53) (lv' := [(4, .int y_53), (7, .int r_38), (6, .int r_33), (5, .int y_20), (0, .ref (a 6)), (1, .int p0), (2, .int p1), (3, .int p2)]) hx hb dX3_valueOf_166 hl (k := 3) rfl (by rw [ey_53]; rfl) (lt_b rfl) rfl (fun ls hl => ?_)
          refine lv_goto (tgt := 16) hx hb dX3_valueOf_169 rfl ?_
          exact ih_5 (580 - y_53.toInt : Int).toNat ((by first | (clear ha_p0 ty_2 ty_11 ty_20 c_21 c_22; omega) | omega)) _ _ _ ⟨G_49, y_53, (Int.toNat_of_nonneg ((by first | exact ok_147 f_9.2 ty_12.2 c_13 ty_53 | omega))), ⟨(by first | exact ok_23 f_9.1 ty_53 | omega), (by first | exact ok_148 f_9.2 ty_12.2 c_13 ty_53 | omega)⟩, (hX_8.st (St_k_lValue_1_1_mk ⟨x_7, G_3, y_53, G_49, rfl, rfl, f_9, hB_G_3, ⟨y_11, ty_11, ⟨y_12, ey_12, ⟨c_13, ⟨y_19, ey_19, ⟨y_20, ey_20, (Or.inr ⟨c_21, (Or.inr ⟨c_22, (Or.inr ⟨G_29, hX_32, hB_G_29, hq_31, ⟨r_33, G_34, hX_37, ⟨r_38, G_39, hX_42, ⟨r_43, G_44, hX_47, ⟨G_49, hX_52, ⟨y_53, ty_53, ⟨rfl, rfl⟩⟩⟩⟩⟩⟩⟩)⟩)⟩)⟩⟩⟩⟩⟩⟩)), hW, hB_G_49, hF, (Fr.call9 (rs := [39]) (fs := [(6, 3)]) (Fr.call9 (rs := [39]) (fs := [(6, 3)]) (Fr.call9 (rs := [39]) (fs := [(6, 3)]) (Fr.call9 (rs := [39]) (fs := [(6, 3)]) (Fr.call9 (rs := [39]) (fs := [(6, 3)]) (Fr.call9 (rs := [39]) (fs := [(6, 3)]) Fr.rf hq_4 rfl rfl) hq_31 rfl rfl) hq_35 rfl rfl) hq_40 rfl rfl) hq_45 rfl rfl) hq_50 rfl rfl), hS, lv_sub hl [0, 4, 5, 6, 7] rfl⟩
        refine lv_icmp_eq (tgt := 127) hx hb dX3_valueOf_108 rfl (fun c_54 => ?_) (fun c_54 => ?_)
        · have c_54 : y_20.toInt = 144 := xI_eq rfl rfl c_54
          exact hJ_30 () _ _ _ ⟨G_3, (Jn_k_lValue_1_2_mk (Or.inl ⟨c_54, rfl⟩)), hW, hB_G_3, hF, (Fr.rf (rs := []) (fs := [])), hS, lv_sub hl [0, 1, 2, 3, 4, 5] rfl⟩
        · have c_54 : y_20.toInt ≠ 144 := xI_ne rfl rfl c_54
          refine lv_iload hx hb dX3_valueOf_111 (lv_at hl 0 rfl) ?_
          refine lv_sipush (v := 145) hx hb dX3_valueOf_113 (by decide) ?_
          refine lv_icmp_eq (tgt := 127) hx hb dX3_valueOf_116 rfl (fun c_55 => ?_) (fun c_55 => ?_)
          · have c_55 : y_20.toInt = 145 := xI_eq rfl rfl c_55
            exact hJ_30 () _ _ _ ⟨G_3, (Jn_k_lValue_1_2_mk (Or.inr ⟨c_54, (Or.inl ⟨c_55, rfl⟩)⟩)), hW, hB_G_3, hF, (Fr.rf (rs := []) (fs := [])), hS, lv_sub hl [0, 1, 2, 3, 4, 5] rfl⟩
          · have c_55 : y_20.toInt ≠ 145 := xI_ne rfl rfl c_55
            refine lv_iload hx hb dX3_valueOf_119 (lv_at hl 0 rfl) ?_
            refine lv_sipush (v := 128) hx hb dX3_valueOf_121 (by decide) ?_
            refine lv_icmp_ge (tgt := 155) hx hb dX3_valueOf_124 rfl (fun c_56 => ?_) (fun c_56 => ?_)
            · have c_56 : 128 ≤ y_20.toInt := xI_le rfl rfl c_56
              refine lv_aload_n hx hb dX3_valueOf_155 rfl (lv_at hl 2 rfl) ?_
              refine lv_iload hx hb dX3_valueOf_156 (lv_at hl 0 rfl) ?_
              refine lv_iload_n hx hb dX3_valueOf_158 rfl (lv_at hl 4 rfl) ?_
              refine lv_iload_n hx hb dX3_valueOf_159 rfl (lv_at hl 5 rfl) ?_
              refine S_calli (va_runS (As := [.int y_20, .int p1, .int p2]) (rest := [.ref (a 6)]) ⟨hx, hb, hml, hown, hts⟩ (k_lOwn l D k A a z G_3 y_20 p1 p2 ) (va_cwS 3 hts (gd_S hgd m936 m937 m122 m938) rfl rfl rfl hd_X3_ownOf.2 ⟨Nat.le_of_ble_eq_true rfl, Nat.le_of_ble_eq_true rfl⟩) (pre_S hW hB_G_3 hK hZ hS) rfl rfl hl.1 rfl (lv_room (Nat.le_of_ble_eq_true rfl)) dX3_valueOf_160 ⟨Nat.le_of_ble_eq_true rfl, Nat.le_of_ble_eq_true rfl⟩) hS (fun r_57 G_58 H locs hpo hW hS => ?_)
              have hX_61 : P_lOwn y_20 p1 p2 G_3 r_57 G_58 := hpo
              obtain ⟨hB_G_58, hq_59, -⟩ := hpo
              have hF := hF.call9 hq_59 rfl rfl
              refine S_callv (va_runV (As := [.int r_57]) (rest := []) ⟨hx, hb, hml, hown, hts⟩ (k_lPush l D k A a z G_58 r_57 ) (cwV 1 hts (gd_V hgd m925 m927 m29 m122 m928) rfl rfl rfl hd_X3_push ⟨Nat.le_of_ble_eq_true rfl, Nat.le_of_ble_eq_true rfl⟩) (pre_W hW hB_G_58 hK hZ hS kd_6 rfl) rfl rfl hl.1 rfl (lv_room (Nat.le_of_ble_eq_true rfl)) dX3_valueOf_163 ⟨Nat.le_of_ble_eq_true rfl, Nat.le_of_ble_eq_true rfl⟩) hS (fun G_63 H locs hpo hW hS => ?_)
              have hX_66 : P_lPush r_57 G_58 G_63 := hpo
              obtain ⟨hB_G_63, hq_64, -⟩ := hpo
              have hF := hF.call9 hq_64 rfl rfl
              obtain ⟨y_67, ey_67⟩ : ∃ q, q = x_7 + 1 := ⟨_, rfl⟩
              have ty_67 : y_67.toInt = x_7.toInt + 1 := xI_add rfl rfl ey_67 ((by first | exact ok_21 f_9.1 | omega)) ((by first | exact ok_22 f_9.2 | omega))
              refine lv_iinc (v := y_67) (lv' := [(4, .int y_67), (5, .int y_20), (0, .ref (a 6)), (1, .int p0), (2, .int p1), (3, .int p2)]) hx hb dX3_valueOf_166 hl (k := 1) rfl (by rw [ey_67]; rfl) (lt_b rfl) rfl (fun ls hl => ?_)
              refine lv_goto (tgt := 16) hx hb dX3_valueOf_169 rfl ?_
              exact ih_5 (580 - y_67.toInt : Int).toNat ((by first | (clear ha_p0 ty_2 ty_11 ty_20 c_21 c_22 c_54 c_55 c_56; omega) | omega)) _ _ _ ⟨G_63, y_67, (Int.toNat_of_nonneg ((by first | exact ok_147 f_9.2 ty_12.2 c_13 ty_67 | omega))), ⟨(by first | exact ok_23 f_9.1 ty_67 | omega), (by first | exact ok_148 f_9.2 ty_12.2 c_13 ty_67 | omega)⟩, (hX_8.st (St_k_lValue_1_1_mk ⟨x_7, G_3, y_67, G_63, rfl, rfl, f_9, hB_G_3, ⟨y_11, ty_11, ⟨y_12, ey_12, ⟨c_13, ⟨y_19, ey_19, ⟨y_20, ey_20, (Or.inr ⟨c_21, (Or.inr ⟨c_22, (Or.inl ⟨c_54, ⟨c_55, ⟨c_56, ⟨r_57, G_58, hX_61, ⟨G_63, hX_66, ⟨y_67, ty_67, ⟨rfl, rfl⟩⟩⟩⟩⟩⟩⟩)⟩)⟩)⟩⟩⟩⟩⟩⟩)), hW, hB_G_63, hF, (Fr.call9 (rs := [39]) (fs := [(6, 3)]) (Fr.call9 (rs := [39]) (fs := [(6, 3)]) (Fr.call9 (rs := [39]) (fs := [(6, 3)]) Fr.rf hq_4 rfl rfl) hq_59 rfl rfl) hq_64 rfl rfl), hS, lv_sub hl [0, 2, 3, 4, 5] rfl⟩
            · have c_56 : y_20.toInt < 128 := xI_nle rfl rfl c_56
              exact hJ_30 () _ _ _ ⟨G_3, (Jn_k_lValue_1_2_mk (Or.inr ⟨c_54, (Or.inr ⟨c_55, ⟨c_56, rfl⟩⟩)⟩)), hW, hB_G_3, hF, (Fr.rf (rs := []) (fs := [])), hS, lv_sub hl [0, 1, 2, 3, 4, 5] rfl⟩
      · have c_22 : y_20.toInt = 146 := xI_eq rfl rfl c_22
        refine lv_aload_n hx hb dX3_valueOf_84 rfl (lv_at hl 2 rfl) ?_
        refine lv_aload_n hx hb dX3_valueOf_85 rfl (lv_at hl 2 rfl) ?_
        refine S_calli (va_runV (As := []) (rest := [.ref (a 6)]) ⟨hx, hb, hml, hown, hts⟩ (k_lPop l D k A a z G_3  ) (cwV 0 hts (gd_V hgd m929 m931 m30 m122 m932) rfl rfl rfl hd_X3_pop ⟨Nat.le_of_ble_eq_true rfl, Nat.le_of_ble_eq_true rfl⟩) (pre_W hW hB_G_3 hK hZ hS kd_6 rfl) rfl rfl hl.1 rfl (lv_room (Nat.le_of_ble_eq_true rfl)) dX3_valueOf_86 ⟨Nat.le_of_ble_eq_true rfl, Nat.le_of_ble_eq_true rfl⟩) hS (fun r_68 G_69 H locs hpo hW hS => ?_)
        have hX_72 : P_lPop G_3 r_68 G_69 := hpo
        obtain ⟨hB_G_69, hq_70, -⟩ := hpo
        have hF := hF.call9 hq_70 rfl rfl
        refine lv_if_ne (tgt := 96) hx hb dX3_valueOf_89 rfl (fun c_73 => ?_) (fun c_73 => ?_)
        · have c_73 : r_68.toInt ≠ 0 := xI_ne rfl rfl c_73
          refine ic_0 hx hb dX3_valueOf_96 ?_
          refine S_callv (va_runV (As := [.int 0]) (rest := []) ⟨hx, hb, hml, hown, hts⟩ (k_lPush l D k A a z G_69 0 ) (cwV 1 hts (gd_V hgd m925 m927 m29 m122 m928) rfl rfl rfl hd_X3_push ⟨Nat.le_of_ble_eq_true rfl, Nat.le_of_ble_eq_true rfl⟩) (pre_W hW hB_G_69 hK hZ hS kd_6 rfl) rfl rfl hl.1 rfl (lv_room (Nat.le_of_ble_eq_true rfl)) dX3_valueOf_97 ⟨Nat.le_of_ble_eq_true rfl, Nat.le_of_ble_eq_true rfl⟩) hS (fun G_75 H locs hpo hW hS => ?_)
          have hX_78 : P_lPush 0 G_69 G_75 := hpo
          obtain ⟨hB_G_75, hq_76, -⟩ := hpo
          have hF := hF.call9 hq_76 rfl rfl
          refine lv_goto (tgt := 166) hx hb dX3_valueOf_100 rfl ?_
          obtain ⟨y_79, ey_79⟩ : ∃ q, q = x_7 + 1 := ⟨_, rfl⟩
          have ty_79 : y_79.toInt = x_7.toInt + 1 := xI_add rfl rfl ey_79 ((by first | exact ok_21 f_9.1 | omega)) ((by first | exact ok_22 f_9.2 | omega))
          refine lv_iinc (v := y_79) (lv' := [(4, .int y_79), (5, .int y_20), (0, .ref (a 6)), (1, .int p0), (2, .int p1), (3, .int p2)]) hx hb dX3_valueOf_166 hl (k := 1) rfl (by rw [ey_79]; rfl) (lt_b rfl) rfl (fun ls hl => ?_)
          refine lv_goto (tgt := 16) hx hb dX3_valueOf_169 rfl ?_
          exact ih_5 (580 - y_79.toInt : Int).toNat ((by first | (clear ha_p0 ty_2 ty_11 ty_20 c_21 c_22 c_73; omega) | omega)) _ _ _ ⟨G_75, y_79, (Int.toNat_of_nonneg ((by first | exact ok_147 f_9.2 ty_12.2 c_13 ty_79 | omega))), ⟨(by first | exact ok_23 f_9.1 ty_79 | omega), (by first | exact ok_148 f_9.2 ty_12.2 c_13 ty_79 | omega)⟩, (hX_8.st (St_k_lValue_1_1_mk ⟨x_7, G_3, y_79, G_75, rfl, rfl, f_9, hB_G_3, ⟨y_11, ty_11, ⟨y_12, ey_12, ⟨c_13, ⟨y_19, ey_19, ⟨y_20, ey_20, (Or.inr ⟨c_21, (Or.inl ⟨c_22, ⟨r_68, G_69, hX_72, (Or.inr ⟨c_73, ⟨G_75, hX_78, ⟨y_79, ty_79, ⟨rfl, rfl⟩⟩⟩⟩)⟩⟩)⟩)⟩⟩⟩⟩⟩⟩)), hW, hB_G_75, hF, (Fr.call9 (rs := [39]) (fs := [(6, 3)]) (Fr.call9 (rs := [39]) (fs := [(6, 3)]) (Fr.call9 (rs := [39]) (fs := [(6, 3)]) Fr.rf hq_4 rfl rfl) hq_70 rfl rfl) hq_76 rfl rfl), hS, lv_sub hl [0, 2, 3, 4, 5] rfl⟩
        · have c_73 : r_68.toInt = 0 := xI_eq rfl rfl c_73
          refine ic_1 hx hb dX3_valueOf_92 ?_
          refine lv_goto (tgt := 97) hx hb dX3_valueOf_93 rfl ?_
          refine S_callv (va_runV (As := [.int 1]) (rest := []) ⟨hx, hb, hml, hown, hts⟩ (k_lPush l D k A a z G_69 1 ) (cwV 1 hts (gd_V hgd m925 m927 m29 m122 m928) rfl rfl rfl hd_X3_push ⟨Nat.le_of_ble_eq_true rfl, Nat.le_of_ble_eq_true rfl⟩) (pre_W hW hB_G_69 hK hZ hS kd_6 rfl) rfl rfl hl.1 rfl (lv_room (Nat.le_of_ble_eq_true rfl)) dX3_valueOf_97 ⟨Nat.le_of_ble_eq_true rfl, Nat.le_of_ble_eq_true rfl⟩) hS (fun G_81 H locs hpo hW hS => ?_)
          have hX_84 : P_lPush 1 G_69 G_81 := hpo
          obtain ⟨hB_G_81, hq_82, -⟩ := hpo
          have hF := hF.call9 hq_82 rfl rfl
          refine lv_goto (tgt := 166) hx hb dX3_valueOf_100 rfl ?_
          obtain ⟨y_85, ey_85⟩ : ∃ q, q = x_7 + 1 := ⟨_, rfl⟩
          have ty_85 : y_85.toInt = x_7.toInt + 1 := xI_add rfl rfl ey_85 ((by first | exact ok_21 f_9.1 | omega)) ((by first | exact ok_22 f_9.2 | omega))
          refine lv_iinc (v := y_85) (lv' := [(4, .int y_85), (5, .int y_20), (0, .ref (a 6)), (1, .int p0), (2, .int p1), (3, .int p2)]) hx hb dX3_valueOf_166 hl (k := 1) rfl (by rw [ey_85]; rfl) (lt_b rfl) rfl (fun ls hl => ?_)
          refine lv_goto (tgt := 16) hx hb dX3_valueOf_169 rfl ?_
          exact ih_5 (580 - y_85.toInt : Int).toNat ((by first | (clear ha_p0 ty_2 ty_11 ty_20 c_21 c_22 c_73; omega) | omega)) _ _ _ ⟨G_81, y_85, (Int.toNat_of_nonneg ((by first | exact ok_147 f_9.2 ty_12.2 c_13 ty_85 | omega))), ⟨(by first | exact ok_23 f_9.1 ty_85 | omega), (by first | exact ok_148 f_9.2 ty_12.2 c_13 ty_85 | omega)⟩, (hX_8.st (St_k_lValue_1_1_mk ⟨x_7, G_3, y_85, G_81, rfl, rfl, f_9, hB_G_3, ⟨y_11, ty_11, ⟨y_12, ey_12, ⟨c_13, ⟨y_19, ey_19, ⟨y_20, ey_20, (Or.inr ⟨c_21, (Or.inl ⟨c_22, ⟨r_68, G_69, hX_72, (Or.inl ⟨c_73, ⟨G_81, hX_84, ⟨y_85, ty_85, ⟨rfl, rfl⟩⟩⟩⟩)⟩⟩)⟩)⟩⟩⟩⟩⟩⟩)), hW, hB_G_81, hF, (Fr.call9 (rs := [39]) (fs := [(6, 3)]) (Fr.call9 (rs := [39]) (fs := [(6, 3)]) (Fr.call9 (rs := [39]) (fs := [(6, 3)]) Fr.rf hq_4 rfl rfl) hq_70 rfl rfl) hq_82 rfl rfl), hS, lv_sub hl [0, 2, 3, 4, 5] rfl⟩
    · have c_21 : y_20.toInt = 201 := xI_eq rfl rfl c_21
      refine lv_aload_n hx hb dX3_valueOf_56 rfl (lv_at hl 2 rfl) ?_
      refine lv_aload_n hx hb dX3_valueOf_57 rfl (lv_at hl 2 rfl) ?_
      refine S_getV (n := 1) (C := RX3) (T := TX3) (N := 5) hx hb hg iX3 hown hK hW kd_6 rfl 4 (lt_b rfl) (hg (Cond.fieldLink RX3 21 "SlabWalk$Lines" "paving" "LSlabWalk$Paving;") m353) (fun _ h9 => h9) rfl ((((hq_4.r9 6 4 rfl rfl).trans (congrFun (congrFun (congrArg (fun q => q.2.2) eG_1) 6) 4))).trans (hv_6_4)) dX3_valueOf_58 ?_
      refine S_getR (n := 17) (C := RX6) (T := TX6) (N := 17) hx hb hg iX6 hown hK hW kd_1 rfl 7 (lt_b rfl) (hg (Cond.fieldLink RX3 72 "SlabWalk$Paving" "code" "[I") m182) (fun _ h9 => h9) rfl dX3_valueOf_61 ?_
      refine lv_iload hx hb dX3_valueOf_64 (lv_at hl 1 rfl) ?_
      refine S_iald hx hb hK hW kd_17 (vin ((by first | exact f_9.1 | omega)) ((by first | exact ok_146 f_9.2 ty_12.2 c_13 | omega))) dX3_valueOf_66 (fun y_86 ey_86 => ?_)
      refine lv_bipush (v := 10) hx hb dX3_valueOf_67 (by decide) ?_
      refine lv_ishr hx hb dX3_valueOf_69 ?_
      refine lv_topi (fun y_87 ey_87 => ?_)
      refine S_callv (va_runV (As := [.int y_87]) (rest := []) ⟨hx, hb, hml, hown, hts⟩ (k_lPush l D k A a z G_3 y_87 ) (cwV 1 hts (gd_V hgd m925 m927 m29 m122 m928) rfl rfl rfl hd_X3_push ⟨Nat.le_of_ble_eq_true rfl, Nat.le_of_ble_eq_true rfl⟩) (pre_W hW hB_G_3 hK hZ hS kd_6 rfl) rfl rfl hl.1 rfl (lv_room (Nat.le_of_ble_eq_true rfl)) dX3_valueOf_70 ⟨Nat.le_of_ble_eq_true rfl, Nat.le_of_ble_eq_true rfl⟩) hS (fun G_89 H locs hpo hW hS => ?_)
      have hX_92 : P_lPush y_87 G_3 G_89 := hpo
      obtain ⟨hB_G_89, hq_90, -⟩ := hpo
      have hF := hF.call9 hq_90 rfl rfl
      refine lv_goto (tgt := 166) hx hb dX3_valueOf_73 rfl ?_
      obtain ⟨y_93, ey_93⟩ : ∃ q, q = x_7 + 1 := ⟨_, rfl⟩
      have ty_93 : y_93.toInt = x_7.toInt + 1 := xI_add rfl rfl ey_93 ((by first | exact ok_21 f_9.1 | omega)) ((by first | exact ok_22 f_9.2 | omega))
      refine lv_iinc (v := y_93) (lv' := [(4, .int y_93), (5, .int y_20), (0, .ref (a 6)), (1, .int p0), (2, .int p1), (3, .int p2)]) hx hb dX3_valueOf_166 hl (k := 1) rfl (by rw [ey_93]; rfl) (lt_b rfl) rfl (fun ls hl => ?_)
      refine lv_goto (tgt := 16) hx hb dX3_valueOf_169 rfl ?_
      exact ih_5 (580 - y_93.toInt : Int).toNat ((by first | (clear ha_p0 ty_2 ty_11 ty_20 c_21; omega) | omega)) _ _ _ ⟨G_89, y_93, (Int.toNat_of_nonneg ((by first | exact ok_147 f_9.2 ty_12.2 c_13 ty_93 | omega))), ⟨(by first | exact ok_23 f_9.1 ty_93 | omega), (by first | exact ok_148 f_9.2 ty_12.2 c_13 ty_93 | omega)⟩, (hX_8.st (St_k_lValue_1_1_mk ⟨x_7, G_3, y_93, G_89, rfl, rfl, f_9, hB_G_3, ⟨y_11, ty_11, ⟨y_12, ey_12, ⟨c_13, ⟨y_19, ey_19, ⟨y_20, ey_20, (Or.inl ⟨c_21, ⟨y_86, ey_86, ⟨y_87, ey_87, ⟨G_89, hX_92, ⟨y_93, ty_93, ⟨rfl, rfl⟩⟩⟩⟩⟩⟩)⟩⟩⟩⟩⟩⟩)), hW, hB_G_89, hF, (Fr.call9 (rs := [39]) (fs := [(6, 3)]) (Fr.call9 (rs := [39]) (fs := [(6, 3)]) Fr.rf hq_4 rfl rfl) hq_90 rfl rfl), hS, lv_sub hl [0, 2, 3, 4, 5] rfl⟩

set_option maxHeartbeats 4000000 in
set_option maxRecDepth 100000 in
theorem k_lFind_1 (l : Launch) (D : va_G) (k : KT) (A : Nat → Prop) (a : Nat → Nat) (z : SK) (G : GS) (p0 : Int32) (p1 : Int32) (hv_6_4 : G.2.2 6 4 = 1) : Met l yX3_findFor (WS yX3_findFor cX3_findFor 7 none) ({ frames := 3, cells := 0, slots := 0, locals := 70 }) (va_Pc [.ref (a 6), .int p0, .int p1] (cW D k A a z G)) (va_Qv (fun (G1 : GS) => P_lFind_1 p0 p1 G G1) (fun (G1 : GS) t => Wd D k A a G1 t.heap) A) 0 0 A := by
  refine Met.ofW (cc := cX3_findFor) (maxL := 7) (ret := none) (by decide) rfl ?_
  intro p e s m args below meth c s₁ B hml hv
  obtain ⟨rfl, hW, hB_G, hK, hZ⟩ := hv
  have hx := B.exec
  have hb := B.bytes
  have hr := B.returns
  have hts := atoms_spec (ws := WS yX3_findFor cX3_findFor 7 none) B.pre
  have hgd : ∀ w ∈ gd, w ∈ WS yX3_findFor cX3_findFor 7 none := fun w h => List.mem_cons_of_mem _ h
  have hg : ∀ w ∈ gd, w.before _ s = true := fun w h => hts w (hgd w h)
  have hown : s.vm.findClass RX3 = some m.cls := findClass_of_methodNamed B.named
  have hS : va_S A s.heap s.heap [] := va_S.rf
  have hF : Fr [37, 38, 39] [(6, 3)] G G := Fr.rf
  have hl := lv_entry ([.ref (a 6), .int p0, .int p1]) (n := 7) (Nat.le_of_ble_eq_true rfl)
  rw [lg_entry_eq]
  generalize (lg_sl ([.ref (a 6), .int p0, .int p1]) ++ List.replicate (7 - (lg_sl ([.ref (a 6), .int p0, .int p1])).length) Slot.unset).toArray = ls at hl ⊢
  have hl : lv_has ls 7 [(0, .ref (a 6)), (1, .int p0), (2, .int p1)] := hl
  refine lv_aload_n hx hb dX3_findFor_0 rfl (lv_at hl 0 rfl) ?_
  refine S_getV (n := 1) (C := RX3) (T := TX3) (N := 5) hx hb hg iX3 hown hK hW kd_6 rfl 4 (lt_b rfl) (hg (Cond.fieldLink RX3 21 "SlabWalk$Lines" "paving" "LSlabWalk$Paving;") m353) (fun _ h9 => h9) rfl hv_6_4 dX3_findFor_1 ?_
  refine lv_iload_n hx hb dX3_findFor_4 rfl (lv_at hl 1 rfl) ?_
  refine S_calli (va_runV (As := [.int p0]) (rest := []) ⟨hx, hb, hml, hown, hts⟩ (k_hasStreet_1 l D k A a z G p0 ) (cwV 1 hts (gd_V hgd m919 m887 m888 m118 m889) rfl rfl rfl hd_X6_hasStreet ⟨Nat.le_of_ble_eq_true rfl, Nat.le_of_ble_eq_true rfl⟩) (pre_W hW hB_G hK hZ hS kd_1 rfl) rfl rfl hl.1 rfl (lv_room (Nat.le_of_ble_eq_true rfl)) dX3_findFor_5 ⟨Nat.le_of_ble_eq_true rfl, Nat.le_of_ble_eq_true rfl⟩) hS (fun r_1 G_2 H locs hpo hW hS => ?_)
  have hX_5 : P_hasStreet_1 p0 G r_1 G_2 := hpo
  obtain ⟨hB_G_2, hq_3, f_6, hp_4, -⟩ := hpo
  have hF := hF.call9 hq_3 rfl rfl
  refine lv_if_eq (tgt := 21) hx hb dX3_findFor_8 rfl (fun c_7 => ?_) (fun c_7 => ?_)
  · have c_7 : r_1.toInt = 0 := xI_eq rfl rfl c_7
    exact W.vret hx hb hr (fun t ht _ => ⟨⟨G_2, rfl, (P_lFind_1_mk ⟨hB_G_2, hF, ⟨r_1, G_2, hX_5, (Or.inl ⟨c_7, rfl⟩)⟩⟩), wd_t ht hW⟩, hS.F ht⟩) hS.2.2 dX3_findFor_21
  · have c_7 : r_1.toInt ≠ 0 := xI_ne rfl rfl c_7
    refine lv_aload_n hx hb dX3_findFor_11 rfl (lv_at hl 0 rfl) ?_
    refine S_getR (n := 38) (C := RX3) (T := TX3) (N := 5) hx hb hg iX3 hown hK hW kd_6 rfl 1 (lt_b rfl) (hg (Cond.fieldLink RX3 15 "SlabWalk$Lines" "foundOn" "[I") m350) (fun _ h9 => h9) rfl dX3_findFor_12 ?_
    refine lv_iload_n hx hb dX3_findFor_15 rfl (lv_at hl 1 rfl) ?_
    refine S_iald hx hb hK hW kd_38 (vin ((by first | exact ok_3 f_6.1 f_6.2 hp_4 c_7 | omega)) ((by first | exact ok_4 f_6.1 f_6.2 hp_4 c_7 | omega))) dX3_findFor_16 (fun y_8 ey_8 => ?_)
    refine lv_iload_n hx hb dX3_findFor_17 rfl (lv_at hl 2 rfl) ?_
    refine lv_icmp_ne (tgt := 22) hx hb dX3_findFor_18 rfl (fun c_9 => ?_) (fun c_9 => ?_)
    · have c_9 : y_8.toInt ≠ p1.toInt := xI_ne rfl rfl c_9
      refine ic_0 hx hb dX3_findFor_22 ?_
      refine lv_istore_n (lv' := [(3, .int 0), (0, .ref (a 6)), (1, .int p0), (2, .int p1)]) hx hb dX3_findFor_23 rfl hl (lt_b rfl) rfl (fun ls hl => ?_)
      have qc_16 : (0 : Int32).toInt = 0 := rfl
      refine loop_N (Inv := fun n H locs ls => ∃ (G_10 : GS) (x_14 : Int32), (n : Int) = 400 - x_14.toInt ∧ (0 ≤ x_14.toInt ∧ x_14.toInt ≤ 400) ∧ Rc (St_k_lFind_1_1 p0 p1 G) (0, G_2) (x_14, G_10) ∧ Wd D k A a G_10 H ∧ Bd G_10 ∧ Fr [37, 38, 39] [(6, 3)] G G_10 ∧ Fr [37, 39] [(6, 3)] G_2 G_10 ∧ va_S A s.heap H locs ∧ lv_has ls 7 [(3, .int x_14), (0, .ref (a 6)), (1, .int p0), (2, .int p1)]) (fun n_13 H locs ls ih_12 hI => ?_) (400 - 0 : Int).toNat ⟨G_2, 0, (Int.toNat_of_nonneg ((by decide))), ⟨(by decide), (by decide)⟩, Rc.rf, hW, hB_G_2, hF, Fr.rf, hS, lv_sub hl [0, 1, 2, 3] rfl⟩
      obtain ⟨G_10, x_14, hn_18, f_17, hX_15, hW, hB_G_10, hF, hq_11, hS, hl⟩ := hI
      refine lv_iload_n hx hb dX3_findFor_24 rfl (lv_at hl 0 rfl) ?_
      refine lv_aload_n hx hb dX3_findFor_25 rfl (lv_at hl 1 rfl) ?_
      refine S_getV (n := 1) (C := RX3) (T := TX3) (N := 5) hx hb hg iX3 hown hK hW kd_6 rfl 4 (lt_b rfl) (hg (Cond.fieldLink RX3 21 "SlabWalk$Lines" "paving" "LSlabWalk$Paving;") m353) (fun _ h9 => h9) rfl ((((hq_11.r9 6 4 rfl rfl).trans (hq_3.r9 6 4 rfl rfl))).trans (hv_6_4)) dX3_findFor_26 ?_
      refine S_getR (n := 10) (C := RX6) (T := TX6) (N := 17) hx hb hg iX6 hown hK hW kd_1 rfl 0 (lt_b rfl) (hg (Cond.fieldLink RX3 37 "SlabWalk$Paving" "length" "[I") m158) (fun _ h9 => h9) rfl dX3_findFor_29 ?_
      refine lv_iload_n hx hb dX3_findFor_32 rfl (lv_at hl 2 rfl) ?_
      refine S_iald hx hb hK hW kd_10 (vin ((by first | exact ok_3 f_6.1 f_6.2 hp_4 c_7 | omega)) ((by first | exact ok_4 f_6.1 f_6.2 hp_4 c_7 | omega))) dX3_findFor_33 (fun y_19 ey_19 => ?_)
      have ty_19 : 0 ≤ y_19.toInt ∧ y_19.toInt ≤ 400 := bv_10 hB_G_10 ey_19
      refine lv_icmp_ge (tgt := 137) hx hb dX3_findFor_34 rfl (fun c_20 => ?_) (fun c_20 => ?_)
      · have c_20 : y_19.toInt ≤ x_14.toInt := xI_le rfl rfl c_20
        refine lv_aload_n hx hb dX3_findFor_137 rfl (lv_at hl 1 rfl) ?_
        refine S_getR (n := 38) (C := RX3) (T := TX3) (N := 5) hx hb hg iX3 hown hK hW kd_6 rfl 1 (lt_b rfl) (hg (Cond.fieldLink RX3 15 "SlabWalk$Lines" "foundOn" "[I") m350) (fun _ h9 => h9) rfl dX3_findFor_138 ?_
        refine lv_iload_n hx hb dX3_findFor_141 rfl (lv_at hl 2 rfl) ?_
        refine lv_iload_n hx hb dX3_findFor_142 rfl (lv_at hl 3 rfl) ?_
        refine S_iast hx hb hK hW hS kd_38 (vin ((by first | exact ok_3 f_6.1 f_6.2 hp_4 c_7 | omega)) ((by first | exact ok_4 f_6.1 f_6.2 hp_4 c_7 | omega))) dX3_findFor_143 (fun G_21 H locs eG_21 hW hS => ?_)
        have hB_G_21 : Bd G_21 := hB_G_10.put (lo := (-2147483648)) (hi := 2147483647) eG_21 rfl rfl rfl (tI_rng _).1 (tI_rng _).2 (hB_G_10.2.put eG_21 rfl)
        have hF := hF.put eG_21 (Or.inl (by decide))
        exact W.vret hx hb hr (fun t ht _ => ⟨⟨G_21, rfl, (P_lFind_1_mk ⟨hB_G_21, hF, ⟨r_1, G_2, hX_5, (Or.inr ⟨c_7, ⟨y_8, ey_8, (Or.inr ⟨c_9, ⟨x_14, G_10, hX_15, f_17, hB_G_10, hq_11, ⟨y_19, ey_19, ⟨c_20, ⟨(Fr.put (rs := [38]) (fs := []) Fr.rf eG_21 (Or.inl (by decide))), rw_ast eG_21⟩⟩⟩⟩⟩)⟩⟩)⟩⟩), wd_t ht hW⟩, hS.F ht⟩) hS.2.2 dX3_findFor_144
      · have c_20 : x_14.toInt < y_19.toInt := xI_nle rfl rfl c_20
        refine lv_aload_n hx hb dX3_findFor_37 rfl (lv_at hl 1 rfl) ?_
        refine S_getV (n := 1) (C := RX3) (T := TX3) (N := 5) hx hb hg iX3 hown hK hW kd_6 rfl 4 (lt_b rfl) (hg (Cond.fieldLink RX3 21 "SlabWalk$Lines" "paving" "LSlabWalk$Paving;") m353) (fun _ h9 => h9) rfl ((((hq_11.r9 6 4 rfl rfl).trans (hq_3.r9 6 4 rfl rfl))).trans (hv_6_4)) dX3_findFor_38 ?_
        refine lv_iload_n hx hb dX3_findFor_41 rfl (lv_at hl 2 rfl) ?_
        refine lv_iload_n hx hb dX3_findFor_42 rfl (lv_at hl 0 rfl) ?_
        refine S_calli (va_runV (As := [.int p0, .int x_14]) (rest := []) ⟨hx, hb, hml, hown, hts⟩ (k_inchAt_1 l D k A a z G_10 p0 x_14 ) (cwV 2 hts (gd_V hgd m920 m891 m892 m118 m893) rfl rfl rfl hd_X6_inchAt ⟨Nat.le_of_ble_eq_true rfl, Nat.le_of_ble_eq_true rfl⟩) (pre_W hW hB_G_10 hK hZ hS kd_1 rfl) rfl rfl hl.1 rfl (lv_room (Nat.le_of_ble_eq_true rfl)) dX3_findFor_43 ⟨Nat.le_of_ble_eq_true rfl, Nat.le_of_ble_eq_true rfl⟩) hS (fun r_22 G_23 H locs hpo hW hS => ?_)
        have hX_26 : P_inchAt_1 p0 x_14 G_10 r_22 G_23 := hpo
        obtain ⟨hB_G_23, hq_24, -⟩ := hpo
        have hF := hF.call9 hq_24 rfl rfl
        refine lv_istore (lv' := [(4, .int r_22), (3, .int x_14), (0, .ref (a 6)), (1, .int p0), (2, .int p1)]) hx hb dX3_findFor_46 hl (lt_b rfl) rfl (fun ls hl => ?_)
        refine lv_iload hx hb dX3_findFor_48 (lv_at hl 0 rfl) ?_
        refine lv_bipush (v := 13) hx hb dX3_findFor_50 (by decide) ?_
        refine lv_iand hx hb dX3_findFor_52 ?_
        refine lv_topi (fun y_27 ey_27 => ?_)
        have ty_27 := xI_and (Y := 13) rfl ey_27 (by decide)
        refine W.cut (σ := Int32) (pcJ := 62) (J := fun y H locs ls => ∃ (G_34 : GS), (0 ≤ y.toInt ∧ y.toInt ≤ 64) ∧ Jn_k_lFind_1_2 y_27 G_23 y G_34 ∧ Wd D k A a G_34 H ∧ Bd G_34 ∧ Fr [37, 38, 39] [(6, 3)] G G_34 ∧ Fr [] [] G_23 G_34 ∧ va_S A s.heap H locs ∧ lv_has ls 7 [(4, .int r_22), (3, .int x_14), (0, .ref (a 6)), (1, .int p0), (2, .int p1)]) (stJ := fun y => [.int y]) ?_ (fun hJ_35 => ?_)
        · intro y H locs ls hI
          obtain ⟨w_33, hy⟩ : ∃ q, q = y := ⟨_, rfl⟩
          subst hy
          obtain ⟨G_34, f_38, hX_37, hW, hB_G_34, hF, hq_36, hS, hl⟩ := hI
          refine lv_istore (lv' := [(5, .int w_33), (4, .int r_22), (3, .int x_14), (0, .ref (a 6)), (1, .int p0), (2, .int p1)]) hx hb dX3_findFor_62 hl (lt_b rfl) rfl (fun ls hl => ?_)
          refine ic_0 hx hb dX3_findFor_64 ?_
          refine lv_istore (lv' := [(6, .int 0), (5, .int w_33), (4, .int r_22), (3, .int x_14), (0, .ref (a 6)), (1, .int p0), (2, .int p1)]) hx hb dX3_findFor_65 hl (lt_b rfl) rfl (fun ls hl => ?_)
          have qc_46 : (0 : Int32).toInt = 0 := rfl
          refine loop_N (Inv := fun n H locs ls => ∃ (G_39 : GS) (x_43 : Int32) (x_44 : Int32), (n : Int) = 6 - x_43.toInt ∧ (0 ≤ x_43.toInt ∧ x_43.toInt ≤ 6) ∧ Rc (St_k_lFind_1_3 p1 r_22 G) (0, w_33, G_34) (x_43, x_44, G_39) ∧ Wd D k A a G_39 H ∧ Bd G_39 ∧ Fr [37, 38, 39] [(6, 3)] G G_39 ∧ Fr [39] [(6, 3)] G_34 G_39 ∧ va_S A s.heap H locs ∧ lv_has ls 7 [(6, .int x_43), (5, .int x_44), (4, .int r_22), (3, .int x_14), (0, .ref (a 6)), (1, .int p0), (2, .int p1)]) (fun n_42 H locs ls ih_41 hI => ?_) (6 - 0 : Int).toNat ⟨G_34, 0, w_33, (Int.toNat_of_nonneg ((by decide))), ⟨(by decide), (by decide)⟩, Rc.rf, hW, hB_G_34, hF, Fr.rf, hS, lv_sub hl [0, 1, 2, 3, 4, 5, 6] rfl⟩
          obtain ⟨G_39, x_43, x_44, hn_48, f_47, hX_45, hW, hB_G_39, hF, hq_40, hS, hl⟩ := hI
          refine lv_iload hx hb dX3_findFor_67 (lv_at hl 0 rfl) ?_
          refine lv_aload_n hx hb dX3_findFor_69 rfl (lv_at hl 4 rfl) ?_
          refine S_getV (n := 1) (C := RX3) (T := TX3) (N := 5) hx hb hg iX3 hown hK hW kd_6 rfl 4 (lt_b rfl) (hg (Cond.fieldLink RX3 21 "SlabWalk$Lines" "paving" "LSlabWalk$Paving;") m353) (fun _ h9 => h9) rfl ((((hq_40.r9 6 4 rfl rfl).trans ((hq_36.r9 6 4 rfl rfl).trans ((hq_24.r9 6 4 rfl rfl).trans ((hq_11.r9 6 4 rfl rfl).trans (hq_3.r9 6 4 rfl rfl)))))).trans (hv_6_4)) dX3_findFor_70 ?_
          have b_49 : 0 ≤ (G.1 1 11).toInt ∧ (G.1 1 11).toInt ≤ 6 := bd_1_11 hB_G
          refine S_getI (v := (G.1 1 11)) (C := RX6) (T := TX6) (N := 17) hx hb hg iX6 hown hK hW kd_1 rfl 11 (lt_b rfl) (hg (Cond.fieldLink RX3 44 "SlabWalk$Paving" "rules" "I") m193) (fun _ h9 => h9) rfl ((hq_40.i9 1 11 rfl rfl).trans ((hq_36.i9 1 11 rfl rfl).trans ((hq_24.i9 1 11 rfl rfl).trans ((hq_11.i9 1 11 rfl rfl).trans (hq_3.i9 1 11 rfl rfl))))) dX3_findFor_73 ?_
          refine lv_icmp_ge (tgt := 117) hx hb dX3_findFor_76 rfl (fun c_50 => ?_) (fun c_50 => ?_)
          · have c_50 : (G.1 1 11).toInt ≤ x_43.toInt := xI_le rfl rfl c_50
            refine lv_aload_n hx hb dX3_findFor_117 rfl (lv_at hl 4 rfl) ?_
            refine S_getR (n := 37) (C := RX3) (T := TX3) (N := 5) hx hb hg iX3 hown hK hW kd_6 rfl 0 (lt_b rfl) (hg (Cond.fieldLink RX3 9 "SlabWalk$Lines" "found" "[I") m349) (fun _ h9 => h9) rfl dX3_findFor_118 ?_
            refine lv_iload_n hx hb dX3_findFor_121 rfl (lv_at hl 5 rfl) ?_
            refine lv_sipush (v := 400) hx hb dX3_findFor_122 (by decide) ?_
            refine lv_imul hx hb dX3_findFor_125 ?_
            refine lv_topi (fun y_51 ey_51 => ?_)
            have ty_51 : y_51.toInt = p0.toInt * 400 := xI_mul rfl rfl ey_51 ((by first | exact ok_149 f_6.1 f_6.2 hp_4 c_7 | omega)) ((by first | exact ok_150 f_6.1 f_6.2 hp_4 c_7 | omega))
            refine lv_iload_n hx hb dX3_findFor_126 rfl (lv_at hl 3 rfl) ?_
            refine lv_iadd hx hb dX3_findFor_127 ?_
            refine lv_topi (fun y_52 ey_52 => ?_)
            have ty_52 : y_52.toInt = y_51.toInt + x_14.toInt := xI_add rfl rfl ey_52 ((by first | exact ok_151 f_6.1 f_6.2 hp_4 c_7 f_17.1 ty_51 | omega)) ((by first | exact ok_152 f_6.1 f_6.2 hp_4 c_7 f_17.2 ty_51 | omega))
            refine lv_iload hx hb dX3_findFor_128 (lv_at hl 1 rfl) ?_
            refine S_iast hx hb hK hW hS kd_37 (vin ((by first | exact ok_153 f_6.1 f_6.2 hp_4 c_7 f_17.1 ty_51 ty_52 | omega)) ((by first | exact ok_154 f_6.1 f_6.2 hp_4 c_7 f_17.2 ty_19.2 c_20 ty_51 ty_52 | omega))) dX3_findFor_130 (fun G_53 H locs eG_53 hW hS => ?_)
            have hB_G_53 : Bd G_53 := hB_G_39.put (lo := (-2147483648)) (hi := 2147483647) eG_53 rfl rfl rfl (tI_rng _).1 (tI_rng _).2 (hB_G_39.2.put eG_53 rfl)
            have hF := hF.put eG_53 (Or.inl (by decide))
            obtain ⟨y_54, ey_54⟩ : ∃ q, q = x_14 + 1 := ⟨_, rfl⟩
            have ty_54 : y_54.toInt = x_14.toInt + 1 := xI_add rfl rfl ey_54 ((by first | exact ok_21 f_17.1 | omega)) ((by first | exact ok_40 f_17.2 | omega))
            refine lv_iinc (v := y_54) (lv' := [(3, .int y_54), (6, .int x_43), (5, .int x_44), (4, .int r_22), (0, .ref (a 6)), (1, .int p0), (2, .int p1)]) hx hb dX3_findFor_131 hl (k := 3) rfl (by rw [ey_54]; rfl) (lt_b rfl) rfl (fun ls hl => ?_)
            refine lv_goto (tgt := 24) hx hb dX3_findFor_134 rfl ?_
            exact ih_12 (400 - y_54.toInt : Int).toNat ((by first | (clear c_9 ty_27 f_38 hn_48 f_47 b_49 c_50; omega) | omega)) _ _ _ ⟨G_53, y_54, (Int.toNat_of_nonneg ((by first | exact ok_155 f_17.2 ty_19.2 c_20 ty_54 | omega))), ⟨(by first | exact ok_23 f_17.1 ty_54 | omega), (by first | exact ok_64 f_17.2 ty_19.2 c_20 ty_54 | omega)⟩, (hX_15.st (St_k_lFind_1_1_mk ⟨x_14, G_10, y_54, G_53, rfl, rfl, f_17, hB_G_10, ⟨y_19, ey_19, ⟨c_20, ⟨r_22, G_23, hX_26, ⟨y_27, ey_27, ⟨w_33, G_34, hX_37, f_38, hB_G_34, hq_36, ⟨x_43, x_44, G_39, hX_45, f_47, hB_G_39, hq_40, ⟨c_50, ⟨y_51, ty_51, ⟨y_52, ty_52, ⟨y_54, ty_54, ⟨rfl, (Fr.put (rs := [37]) (fs := []) Fr.rf eG_53 (Or.inl (by decide))), rw_ast eG_53⟩⟩⟩⟩⟩⟩⟩⟩⟩⟩⟩⟩)), hW, hB_G_53, hF, (Fr.put (rs := [37, 39]) (fs := [(6, 3)]) (Fr.call9 (rs := [37, 39]) (fs := [(6, 3)]) (Fr.call9 (rs := [37, 39]) (fs := [(6, 3)]) (Fr.call9 (rs := [37, 39]) (fs := [(6, 3)]) (Fr.call9 (rs := [37, 39]) (fs := [(6, 3)]) Fr.rf hq_11 rfl rfl) hq_24 rfl rfl) hq_36 rfl rfl) hq_40 rfl rfl) eG_53 (Or.inl (by decide))), hS, lv_sub hl [0, 4, 5, 6] rfl⟩
          · have c_50 : x_43.toInt < (G.1 1 11).toInt := xI_nle rfl rfl c_50
            refine lv_iload hx hb dX3_findFor_79 (lv_at hl 0 rfl) ?_
            refine lv_bipush (v := 6) hx hb dX3_findFor_81 (by decide) ?_
            refine lv_icmp_ge (tgt := 117) hx hb dX3_findFor_83 rfl (fun c_55 => ?_) (fun c_55 => ?_)
            · have c_55 : 6 ≤ x_43.toInt := xI_le rfl rfl c_55
              exfalso; first | exact ok_2 b_49.2 c_50 c_55 | omega
            · have c_55 : x_43.toInt < 6 := xI_nle rfl rfl c_55
              refine lv_iload hx hb dX3_findFor_86 (lv_at hl 1 rfl) ?_
              refine lv_aload_n hx hb dX3_findFor_88 rfl (lv_at hl 4 rfl) ?_
              refine lv_iload hx hb dX3_findFor_89 (lv_at hl 0 rfl) ?_
              refine lv_iload hx hb dX3_findFor_91 (lv_at hl 2 rfl) ?_
              refine lv_iload_n hx hb dX3_findFor_93 rfl (lv_at hl 6 rfl) ?_
              refine S_calli (va_runV (As := [.int x_43, .int r_22, .int p1]) (rest := [.int x_44]) ⟨hx, hb, hml, hown, hts⟩ (k_lValue_1 l D k A a z G_39 x_43 r_22 p1 ⟨(by first | exact f_47.1 | omega), (by first | exact ok_156 f_47.2 c_55 | omega)⟩ ((((hq_40.r9 6 4 rfl rfl).trans ((hq_36.r9 6 4 rfl rfl).trans ((hq_24.r9 6 4 rfl rfl).trans ((hq_11.r9 6 4 rfl rfl).trans (hq_3.r9 6 4 rfl rfl)))))).trans (hv_6_4))) (cwV 3 hts (gd_V hgd m921 m923 m28 m122 m924) rfl rfl rfl hd_X3_valueOf ⟨Nat.le_of_ble_eq_true rfl, Nat.le_of_ble_eq_true rfl⟩) (pre_W hW hB_G_39 hK hZ hS kd_6 rfl) rfl rfl hl.1 rfl (lv_room (Nat.le_of_ble_eq_true rfl)) dX3_findFor_94 ⟨Nat.le_of_ble_eq_true rfl, Nat.le_of_ble_eq_true rfl⟩) hS (fun r_56 G_57 H locs hpo hW hS => ?_)
              have hX_60 : P_lValue_1 x_43 r_22 p1 G_39 r_56 G_57 := hpo
              obtain ⟨hB_G_57, hq_58, -⟩ := hpo
              have hF := hF.call9 hq_58 rfl rfl
              refine lv_if_eq (tgt := 107) hx hb dX3_findFor_97 rfl (fun c_61 => ?_) (fun c_61 => ?_)
              · have c_61 : r_56.toInt = 0 := xI_eq rfl rfl c_61
                refine ic_0 hx hb dX3_findFor_107 ?_
                refine lv_ior hx hb dX3_findFor_108 ?_
                refine lv_topi (fun y_62 ey_62 => ?_)
                refine lv_istore (lv' := [(5, .int y_62), (6, .int x_43), (4, .int r_22), (3, .int x_14), (0, .ref (a 6)), (1, .int p0), (2, .int p1)]) hx hb dX3_findFor_109 hl (lt_b rfl) rfl (fun ls hl => ?_)
                obtain ⟨y_63, ey_63⟩ : ∃ q, q = x_43 + 1 := ⟨_, rfl⟩
                have ty_63 : y_63.toInt = x_43.toInt + 1 := xI_add rfl rfl ey_63 ((by first | exact ok_21 f_47.1 | omega)) ((by first | exact ok_157 f_47.2 | omega))
                refine lv_iinc (v := y_63) (lv' := [(6, .int y_63), (5, .int y_62), (4, .int r_22), (3, .int x_14), (0, .ref (a 6)), (1, .int p0), (2, .int p1)]) hx hb dX3_findFor_111 hl (k := 1) rfl (by rw [ey_63]; rfl) (lt_b rfl) rfl (fun ls hl => ?_)
                refine lv_goto (tgt := 67) hx hb dX3_findFor_114 rfl ?_
                exact ih_41 (6 - y_63.toInt : Int).toNat ((by first | (clear f_6 hp_4 c_7 c_9 hn_18 f_17 ty_19 c_20 ty_27 f_38 c_61; omega) | omega)) _ _ _ ⟨G_57, y_63, y_62, (Int.toNat_of_nonneg ((by first | exact ok_158 f_47.2 c_55 ty_63 | omega))), ⟨(by first | exact ok_23 f_47.1 ty_63 | omega), (by first | exact ok_159 f_47.2 c_55 ty_63 | omega)⟩, (hX_45.st (St_k_lFind_1_3_mk ⟨x_43, x_44, G_39, y_63, y_62, G_57, rfl, rfl, f_47, hB_G_39, ⟨c_50, ⟨r_56, G_57, hX_60, (Or.inl ⟨c_61, ⟨y_62, ey_62, ⟨y_63, ty_63, ⟨rfl, rfl, rfl⟩⟩⟩⟩)⟩⟩⟩)), hW, hB_G_57, hF, (Fr.call9 (rs := [39]) (fs := [(6, 3)]) (Fr.call9 (rs := [39]) (fs := [(6, 3)]) Fr.rf hq_40 rfl rfl) hq_58 rfl rfl), hS, lv_sub hl [0, 1, 2, 3, 4, 5, 6] rfl⟩
              · have c_61 : r_56.toInt ≠ 0 := xI_ne rfl rfl c_61
                refine ic_1 hx hb dX3_findFor_100 ?_
                refine lv_iload hx hb dX3_findFor_101 (lv_at hl 0 rfl) ?_
                refine lv_ishl hx hb dX3_findFor_103 ?_
                refine lv_topi (fun y_64 ey_64 => ?_)
                have ty_64 := sh5 (Y := x_43.toInt) rfl ey_64 rfl (by first | (clear f_6 hp_4 c_7 c_9 hn_18 f_17 ty_19 c_20 ty_27 f_38 hn_48 c_61; omega) | omega) (by first | (clear f_6 hp_4 c_7 c_9 hn_18 f_17 ty_19 c_20 ty_27 f_38 hn_48 c_61; omega) | omega)
                refine lv_goto (tgt := 108) hx hb dX3_findFor_104 rfl ?_
                refine lv_ior hx hb dX3_findFor_108 ?_
                refine lv_topi (fun y_65 ey_65 => ?_)
                refine lv_istore (lv' := [(5, .int y_65), (6, .int x_43), (4, .int r_22), (3, .int x_14), (0, .ref (a 6)), (1, .int p0), (2, .int p1)]) hx hb dX3_findFor_109 hl (lt_b rfl) rfl (fun ls hl => ?_)
                obtain ⟨y_66, ey_66⟩ : ∃ q, q = x_43 + 1 := ⟨_, rfl⟩
                have ty_66 : y_66.toInt = x_43.toInt + 1 := xI_add rfl rfl ey_66 ((by first | exact ok_21 f_47.1 | omega)) ((by first | exact ok_157 f_47.2 | omega))
                refine lv_iinc (v := y_66) (lv' := [(6, .int y_66), (5, .int y_65), (4, .int r_22), (3, .int x_14), (0, .ref (a 6)), (1, .int p0), (2, .int p1)]) hx hb dX3_findFor_111 hl (k := 1) rfl (by rw [ey_66]; rfl) (lt_b rfl) rfl (fun ls hl => ?_)
                refine lv_goto (tgt := 67) hx hb dX3_findFor_114 rfl ?_
                exact ih_41 (6 - y_66.toInt : Int).toNat ((by first | (clear f_6 hp_4 c_7 c_9 hn_18 f_17 ty_19 c_20 ty_27 f_38 c_61 ty_64; omega) | omega)) _ _ _ ⟨G_57, y_66, y_65, (Int.toNat_of_nonneg ((by first | exact ok_158 f_47.2 c_55 ty_66 | omega))), ⟨(by first | exact ok_23 f_47.1 ty_66 | omega), (by first | exact ok_159 f_47.2 c_55 ty_66 | omega)⟩, (hX_45.st (St_k_lFind_1_3_mk ⟨x_43, x_44, G_39, y_66, y_65, G_57, rfl, rfl, f_47, hB_G_39, ⟨c_50, ⟨r_56, G_57, hX_60, (Or.inr ⟨c_61, ⟨y_64, ey_64, ⟨y_65, ey_65, ⟨y_66, ty_66, ⟨rfl, rfl, rfl⟩⟩⟩⟩⟩)⟩⟩⟩)), hW, hB_G_57, hF, (Fr.call9 (rs := [39]) (fs := [(6, 3)]) (Fr.call9 (rs := [39]) (fs := [(6, 3)]) Fr.rf hq_40 rfl rfl) hq_58 rfl rfl), hS, lv_sub hl [0, 1, 2, 3, 4, 5, 6] rfl⟩
        refine lv_if_eq (tgt := 61) hx hb dX3_findFor_53 rfl (fun c_67 => ?_) (fun c_67 => ?_)
        · have c_67 : y_27.toInt = 0 := xI_eq rfl rfl c_67
          refine ic_0 hx hb dX3_findFor_61 ?_
          have qc_68 : (0 : Int32).toInt = 0 := rfl
          exact hJ_35 0 _ _ _ ⟨G_23, ⟨(by decide), (by decide)⟩, (Jn_k_lFind_1_2_mk (Or.inl ⟨c_67, ⟨rfl, rfl⟩⟩)), hW, hB_G_23, hF, (Fr.rf (rs := []) (fs := [])), hS, lv_sub hl [0, 1, 2, 3, 4] rfl⟩
        · have c_67 : y_27.toInt ≠ 0 := xI_ne rfl rfl c_67
          refine lv_bipush (v := 64) hx hb dX3_findFor_56 (by decide) ?_
          refine lv_goto (tgt := 62) hx hb dX3_findFor_58 rfl ?_
          have qc_69 : (64 : Int32).toInt = 64 := rfl
          exact hJ_35 64 _ _ _ ⟨G_23, ⟨(by decide), (by decide)⟩, (Jn_k_lFind_1_2_mk (Or.inr ⟨c_67, ⟨rfl, rfl⟩⟩)), hW, hB_G_23, hF, (Fr.rf (rs := []) (fs := [])), hS, lv_sub hl [0, 1, 2, 3, 4] rfl⟩
    · have c_9 : y_8.toInt = p1.toInt := xI_eq rfl rfl c_9
      exact W.vret hx hb hr (fun t ht _ => ⟨⟨G_2, rfl, (P_lFind_1_mk ⟨hB_G_2, hF, ⟨r_1, G_2, hX_5, (Or.inr ⟨c_7, ⟨y_8, ey_8, (Or.inl ⟨c_9, rfl⟩)⟩⟩)⟩⟩), wd_t ht hW⟩, hS.F ht⟩) hS.2.2 dX3_findFor_21

set_option maxHeartbeats 4000000 in
set_option maxRecDepth 100000 in
theorem k_lIsLine_1 (l : Launch) (D : va_G) (k : KT) (A : Nat → Prop) (a : Nat → Nat) (z : SK) (G : GS) (p0 : Int32) (p1 : Int32) (p2 : Int32) (hv_6_4 : G.2.2 6 4 = 1) : Met l yX3_isLine (WS yX3_isLine cX3_isLine 4 (some .boolean)) ({ frames := 2, cells := 0, slots := 0, locals := 43 }) (va_Pc [.ref (a 6), .int p0, .int p1, .int p2] (cW D k A a z G)) (va_Qi (fun (r : Int32) (G1 : GS) => P_lIsLine_1 p0 p1 p2 G r G1) (fun (G1 : GS) t => Wd D k A a G1 t.heap) A) 0 0 A := by
  refine Met.ofW (cc := cX3_isLine) (maxL := 4) (ret := (some .boolean)) (by decide) rfl ?_
  intro p e s m args below meth c s₁ B hml hv
  obtain ⟨rfl, hW, hB_G, hK, hZ⟩ := hv
  have hx := B.exec
  have hb := B.bytes
  have hr := B.returns
  have hts := atoms_spec (ws := WS yX3_isLine cX3_isLine 4 (some .boolean)) B.pre
  have hgd : ∀ w ∈ gd, w ∈ WS yX3_isLine cX3_isLine 4 (some .boolean) := fun w h => List.mem_cons_of_mem _ h
  have hg : ∀ w ∈ gd, w.before _ s = true := fun w h => hts w (hgd w h)
  have hown : s.vm.findClass RX3 = some m.cls := findClass_of_methodNamed B.named
  have hS : va_S A s.heap s.heap [] := va_S.rf
  have hF : Fr [] [] G G := Fr.rf
  have hl := lv_entry ([.ref (a 6), .int p0, .int p1, .int p2]) (n := 4) (Nat.le_of_ble_eq_true rfl)
  rw [lg_entry_eq]
  generalize (lg_sl ([.ref (a 6), .int p0, .int p1, .int p2]) ++ List.replicate (4 - (lg_sl ([.ref (a 6), .int p0, .int p1, .int p2])).length) Slot.unset).toArray = ls at hl ⊢
  have hl : lv_has ls 4 [(0, .ref (a 6)), (1, .int p0), (2, .int p1), (3, .int p2)] := hl
  refine lv_aload_n hx hb dX3_isLine_0 rfl (lv_at hl 0 rfl) ?_
  refine S_getV (n := 1) (C := RX3) (T := TX3) (N := 5) hx hb hg iX3 hown hK hW kd_6 rfl 4 (lt_b rfl) (hg (Cond.fieldLink RX3 21 "SlabWalk$Lines" "paving" "LSlabWalk$Paving;") m353) (fun _ h9 => h9) rfl hv_6_4 dX3_isLine_1 ?_
  refine lv_iload_n hx hb dX3_isLine_4 rfl (lv_at hl 1 rfl) ?_
  refine lv_iload_n hx hb dX3_isLine_5 rfl (lv_at hl 3 rfl) ?_
  refine S_calli (va_runV (As := [.int p0, .int p2]) (rest := []) ⟨hx, hb, hml, hown, hts⟩ (k_hasInch_1 l D k A a z G p0 p2 ) (cwV 2 hts (gd_V hgd m944 m883 m884 m118 m885) rfl rfl rfl hd_X6_hasInch ⟨Nat.le_of_ble_eq_true rfl, Nat.le_of_ble_eq_true rfl⟩) (pre_W hW hB_G hK hZ hS kd_1 rfl) rfl rfl hl.1 rfl (lv_room (Nat.le_of_ble_eq_true rfl)) dX3_isLine_6 ⟨Nat.le_of_ble_eq_true rfl, Nat.le_of_ble_eq_true rfl⟩) hS (fun r_1 G_2 H locs hpo hW hS => ?_)
  have hX_5 : P_hasInch_1 p0 p2 G r_1 G_2 := hpo
  obtain ⟨hB_G_2, hq_3, f_6, hp_4, -⟩ := hpo
  have hF := hF.call9 hq_3 rfl rfl
  refine lv_if_eq (tgt := 42) hx hb dX3_isLine_9 rfl (fun c_7 => ?_) (fun c_7 => ?_)
  · have c_7 : r_1.toInt = 0 := xI_eq rfl rfl c_7
    refine ic_0 hx hb dX3_isLine_42 ?_
    exact W.zret (v := 0) hx hb hr (by decide) (fun t ht _ => ⟨⟨0, G_2, rfl, (P_lIsLine_1_mk ⟨hB_G_2, hF, ⟨by decide, by decide⟩, ⟨r_1, G_2, hX_5, (Or.inl ⟨c_7, ⟨rfl, rfl⟩⟩)⟩⟩), wd_t ht hW⟩, hS.F ht⟩) hS.2.2 dX3_isLine_43
  · have c_7 : r_1.toInt ≠ 0 := xI_ne rfl rfl c_7
    refine lv_aload_n hx hb dX3_isLine_12 rfl (lv_at hl 0 rfl) ?_
    refine S_getR (n := 37) (C := RX3) (T := TX3) (N := 5) hx hb hg iX3 hown hK hW kd_6 rfl 0 (lt_b rfl) (hg (Cond.fieldLink RX3 9 "SlabWalk$Lines" "found" "[I") m349) (fun _ h9 => h9) rfl dX3_isLine_13 ?_
    refine lv_iload_n hx hb dX3_isLine_16 rfl (lv_at hl 1 rfl) ?_
    refine lv_sipush (v := 400) hx hb dX3_isLine_17 (by decide) ?_
    refine lv_imul hx hb dX3_isLine_20 ?_
    refine lv_topi (fun y_8 ey_8 => ?_)
    have ty_8 : y_8.toInt = p0.toInt * 400 := xI_mul rfl rfl ey_8 ((by first | exact ok_9 f_6.1 f_6.2 hp_4 c_7 | omega)) ((by first | exact ok_10 f_6.1 f_6.2 hp_4 c_7 | omega))
    refine lv_iload_n hx hb dX3_isLine_21 rfl (lv_at hl 3 rfl) ?_
    refine lv_iadd hx hb dX3_isLine_22 ?_
    refine lv_topi (fun y_9 ey_9 => ?_)
    have ty_9 : y_9.toInt = y_8.toInt + p2.toInt := xI_add rfl rfl ey_9 ((by first | exact ok_11 f_6.1 f_6.2 hp_4 c_7 ty_8 | omega)) ((by first | exact ok_12 f_6.1 f_6.2 hp_4 c_7 ty_8 | omega))
    refine S_iald hx hb hK hW kd_37 (vin ((by first | exact ok_13 f_6.1 f_6.2 hp_4 c_7 ty_8 ty_9 | omega)) ((by first | exact ok_14 f_6.1 f_6.2 hp_4 c_7 ty_8 ty_9 | omega))) dX3_isLine_23 (fun y_10 ey_10 => ?_)
    refine lv_iload_n hx hb dX3_isLine_24 rfl (lv_at hl 2 rfl) ?_
    refine lv_if_ne (tgt := 33) hx hb dX3_isLine_25 rfl (fun c_11 => ?_) (fun c_11 => ?_)
    · have c_11 : p1.toInt ≠ 0 := xI_ne rfl rfl c_11
      refine lv_iload_n hx hb dX3_isLine_33 rfl (lv_at hl 2 rfl) ?_
      refine lv_iand hx hb dX3_isLine_34 ?_
      refine lv_topi (fun y_12 ey_12 => ?_)
      refine lv_if_eq (tgt := 42) hx hb dX3_isLine_35 rfl (fun c_13 => ?_) (fun c_13 => ?_)
      · have c_13 : y_12.toInt = 0 := xI_eq rfl rfl c_13
        refine ic_0 hx hb dX3_isLine_42 ?_
        exact W.zret (v := 0) hx hb hr (by decide) (fun t ht _ => ⟨⟨0, G_2, rfl, (P_lIsLine_1_mk ⟨hB_G_2, hF, ⟨by decide, by decide⟩, ⟨r_1, G_2, hX_5, (Or.inr ⟨c_7, ⟨y_8, ty_8, ⟨y_9, ty_9, ⟨y_10, ey_10, (Or.inr ⟨c_11, ⟨y_12, ey_12, (Or.inl ⟨c_13, ⟨rfl, rfl⟩⟩)⟩⟩)⟩⟩⟩⟩)⟩⟩), wd_t ht hW⟩, hS.F ht⟩) hS.2.2 dX3_isLine_43
      · have c_13 : y_12.toInt ≠ 0 := xI_ne rfl rfl c_13
        refine ic_1 hx hb dX3_isLine_38 ?_
        refine lv_goto (tgt := 43) hx hb dX3_isLine_39 rfl ?_
        exact W.zret (v := 1) hx hb hr (by decide) (fun t ht _ => ⟨⟨1, G_2, rfl, (P_lIsLine_1_mk ⟨hB_G_2, hF, ⟨by decide, by decide⟩, ⟨r_1, G_2, hX_5, (Or.inr ⟨c_7, ⟨y_8, ty_8, ⟨y_9, ty_9, ⟨y_10, ey_10, (Or.inr ⟨c_11, ⟨y_12, ey_12, (Or.inr ⟨c_13, ⟨rfl, rfl⟩⟩)⟩⟩)⟩⟩⟩⟩)⟩⟩), wd_t ht hW⟩, hS.F ht⟩) hS.2.2 dX3_isLine_43
    · have c_11 : p1.toInt = 0 := xI_eq rfl rfl c_11
      refine lv_bipush (v := 64) hx hb dX3_isLine_28 (by decide) ?_
      refine lv_goto (tgt := 34) hx hb dX3_isLine_30 rfl ?_
      refine lv_iand hx hb dX3_isLine_34 ?_
      refine lv_topi (fun y_14 ey_14 => ?_)
      have ty_14 := xI_and (Y := 64) rfl ey_14 (by decide)
      refine lv_if_eq (tgt := 42) hx hb dX3_isLine_35 rfl (fun c_15 => ?_) (fun c_15 => ?_)
      · have c_15 : y_14.toInt = 0 := xI_eq rfl rfl c_15
        refine ic_0 hx hb dX3_isLine_42 ?_
        exact W.zret (v := 0) hx hb hr (by decide) (fun t ht _ => ⟨⟨0, G_2, rfl, (P_lIsLine_1_mk ⟨hB_G_2, hF, ⟨by decide, by decide⟩, ⟨r_1, G_2, hX_5, (Or.inr ⟨c_7, ⟨y_8, ty_8, ⟨y_9, ty_9, ⟨y_10, ey_10, (Or.inl ⟨c_11, ⟨y_14, ey_14, (Or.inl ⟨c_15, ⟨rfl, rfl⟩⟩)⟩⟩)⟩⟩⟩⟩)⟩⟩), wd_t ht hW⟩, hS.F ht⟩) hS.2.2 dX3_isLine_43
      · have c_15 : y_14.toInt ≠ 0 := xI_ne rfl rfl c_15
        refine ic_1 hx hb dX3_isLine_38 ?_
        refine lv_goto (tgt := 43) hx hb dX3_isLine_39 rfl ?_
        exact W.zret (v := 1) hx hb hr (by decide) (fun t ht _ => ⟨⟨1, G_2, rfl, (P_lIsLine_1_mk ⟨hB_G_2, hF, ⟨by decide, by decide⟩, ⟨r_1, G_2, hX_5, (Or.inr ⟨c_7, ⟨y_8, ty_8, ⟨y_9, ty_9, ⟨y_10, ey_10, (Or.inl ⟨c_11, ⟨y_14, ey_14, (Or.inr ⟨c_15, ⟨rfl, rfl⟩⟩)⟩⟩)⟩⟩⟩⟩)⟩⟩), wd_t ht hW⟩, hS.F ht⟩) hS.2.2 dX3_isLine_43

set_option maxHeartbeats 4000000 in
set_option maxRecDepth 100000 in
theorem k_lIsLawful_1 (l : Launch) (D : va_G) (k : KT) (A : Nat → Prop) (a : Nat → Nat) (z : SK) (G : GS) (p0 : Int32) (p1 : Int32) (p2 : Int32) (p3 : Int32) (hv_6_4 : G.2.2 6 4 = 1) : Met l yX3_isLawful (WS yX3_isLawful cX3_isLawful 6 (some .boolean)) ({ frames := 3, cells := 0, slots := 0, locals := 66 }) (va_Pc [.ref (a 6), .int p0, .int p1, .int p2, .int p3] (cW D k A a z G)) (va_Qi (fun (r : Int32) (G1 : GS) => P_lIsLawful_1 p0 p1 p2 p3 G r G1) (fun (G1 : GS) t => Wd D k A a G1 t.heap) A) 0 0 A := by
  refine Met.ofW (cc := cX3_isLawful) (maxL := 6) (ret := (some .boolean)) (by decide) rfl ?_
  intro p e s m args below meth c s₁ B hml hv
  obtain ⟨rfl, hW, hB_G, hK, hZ⟩ := hv
  have hx := B.exec
  have hb := B.bytes
  have hr := B.returns
  have hts := atoms_spec (ws := WS yX3_isLawful cX3_isLawful 6 (some .boolean)) B.pre
  have hgd : ∀ w ∈ gd, w ∈ WS yX3_isLawful cX3_isLawful 6 (some .boolean) := fun w h => List.mem_cons_of_mem _ h
  have hg : ∀ w ∈ gd, w.before _ s = true := fun w h => hts w (hgd w h)
  have hown : s.vm.findClass RX3 = some m.cls := findClass_of_methodNamed B.named
  have hS : va_S A s.heap s.heap [] := va_S.rf
  have hF : Fr [] [] G G := Fr.rf
  have hl := lv_entry ([.ref (a 6), .int p0, .int p1, .int p2, .int p3]) (n := 6) (Nat.le_of_ble_eq_true rfl)
  rw [lg_entry_eq]
  generalize (lg_sl ([.ref (a 6), .int p0, .int p1, .int p2, .int p3]) ++ List.replicate (6 - (lg_sl ([.ref (a 6), .int p0, .int p1, .int p2, .int p3])).length) Slot.unset).toArray = ls at hl ⊢
  have hl : lv_has ls 6 [(0, .ref (a 6)), (1, .int p0), (2, .int p1), (3, .int p2), (4, .int p3)] := hl
  refine lv_aload_n hx hb dX3_isLawful_0 rfl (lv_at hl 0 rfl) ?_
  refine S_getV (n := 1) (C := RX3) (T := TX3) (N := 5) hx hb hg iX3 hown hK hW kd_6 rfl 4 (lt_b rfl) (hg (Cond.fieldLink RX3 21 "SlabWalk$Lines" "paving" "LSlabWalk$Paving;") m353) (fun _ h9 => h9) rfl hv_6_4 dX3_isLawful_1 ?_
  refine lv_iload_n hx hb dX3_isLawful_4 rfl (lv_at hl 1 rfl) ?_
  refine lv_iload_n hx hb dX3_isLawful_5 rfl (lv_at hl 2 rfl) ?_
  refine lv_iload hx hb dX3_isLawful_6 (lv_at hl 4 rfl) ?_
  refine S_calli (va_runV (As := [.int p0, .int p1, .int p3]) (rest := []) ⟨hx, hb, hml, hown, hts⟩ (k_stands_1 l D k A a z G p0 p1 p3 ) (cwV 3 hts (gd_V hgd m965 m966 m967 m118 m968) rfl rfl rfl hd_X6_stands ⟨Nat.le_of_ble_eq_true rfl, Nat.le_of_ble_eq_true rfl⟩) (pre_W hW hB_G hK hZ hS kd_1 rfl) rfl rfl hl.1 rfl (lv_room (Nat.le_of_ble_eq_true rfl)) dX3_isLawful_8 ⟨Nat.le_of_ble_eq_true rfl, Nat.le_of_ble_eq_true rfl⟩) hS (fun r_1 G_2 H locs hpo hW hS => ?_)
  have hX_5 : P_stands_1 p0 p1 p3 G r_1 G_2 := hpo
  obtain ⟨hB_G_2, hq_3, f_6, hp_4, -⟩ := hpo
  have hF := hF.call9 hq_3 rfl rfl
  refine lv_if_ne (tgt := 16) hx hb dX3_isLawful_11 rfl (fun c_7 => ?_) (fun c_7 => ?_)
  · have c_7 : r_1.toInt ≠ 0 := xI_ne rfl rfl c_7
    refine lv_iload hx hb dX3_isLawful_16 (lv_at hl 4 rfl) ?_
    refine lv_istore (lv' := [(5, .int p3), (0, .ref (a 6)), (1, .int p0), (2, .int p1), (3, .int p2), (4, .int p3)]) hx hb dX3_isLawful_18 hl (lt_b rfl) rfl (fun ls hl => ?_)
    refine loop_N (Inv := fun n H locs ls => ∃ (G_8 : GS) (x_12 : Int32), (n : Int) = 412 - x_12.toInt ∧ (0 ≤ x_12.toInt ∧ x_12.toInt ≤ 412) ∧ Rc (St_k_lIsLawful_1_1 p0 p1 p2 p3) (p3, G_2) (x_12, G_8) ∧ Wd D k A a G_8 H ∧ Bd G_8 ∧ Fr [] [] G G_8 ∧ Fr [] [] G_2 G_8 ∧ va_S A s.heap H locs ∧ lv_has ls 6 [(5, .int x_12), (0, .ref (a 6)), (1, .int p0), (2, .int p1), (3, .int p2), (4, .int p3)]) (fun n_11 H locs ls ih_10 hI => ?_) (412 - p3.toInt : Int).toNat ⟨G_2, p3, (Int.toNat_of_nonneg ((by first | exact ok_160 f_6.1 f_6.2 hp_4 c_7 | omega))), ⟨(by first | exact ok_161 f_6.1 f_6.2 hp_4 c_7 | omega), (by first | exact ok_162 f_6.1 f_6.2 hp_4 c_7 | omega)⟩, Rc.rf, hW, hB_G_2, hF, Fr.rf, hS, lv_sub hl [0, 1, 2, 3, 4, 5] rfl⟩
    obtain ⟨G_8, x_12, hn_15, f_14, hX_13, hW, hB_G_8, hF, hq_9, hS, hl⟩ := hI
    refine lv_iload hx hb dX3_isLawful_20 (lv_at hl 0 rfl) ?_
    refine lv_iload hx hb dX3_isLawful_22 (lv_at hl 5 rfl) ?_
    refine lv_aload_n hx hb dX3_isLawful_24 rfl (lv_at hl 1 rfl) ?_
    refine S_getV (n := 1) (C := RX3) (T := TX3) (N := 5) hx hb hg iX3 hown hK hW kd_6 rfl 4 (lt_b rfl) (hg (Cond.fieldLink RX3 21 "SlabWalk$Lines" "paving" "LSlabWalk$Paving;") m353) (fun _ h9 => h9) rfl ((((hq_9.r9 6 4 rfl rfl).trans (hq_3.r9 6 4 rfl rfl))).trans (hv_6_4)) dX3_isLawful_25 ?_
    refine S_getR (n := 12) (C := RX6) (T := TX6) (N := 17) hx hb hg iX6 hown hK hW kd_1 rfl 2 (lt_b rfl) (hg (Cond.fieldLink RX3 60 "SlabWalk$Paving" "foot" "[I") m164) (fun _ h9 => h9) rfl dX3_isLawful_28 ?_
    refine lv_iload_n hx hb dX3_isLawful_31 rfl (lv_at hl 2 rfl) ?_
    refine S_iald hx hb hK hW kd_12 (vin ((by first | exact ok_163 f_6.1 f_6.2 hp_4 c_7 | omega)) ((by first | exact ok_164 f_6.1 f_6.2 hp_4 c_7 | omega))) dX3_isLawful_32 (fun y_16 ey_16 => ?_)
    have ty_16 : 0 ≤ y_16.toInt ∧ y_16.toInt ≤ 12 := bv_12 hB_G_8 ey_16
    refine lv_iadd hx hb dX3_isLawful_33 ?_
    refine lv_topi (fun y_17 ey_17 => ?_)
    have ty_17 : y_17.toInt = p3.toInt + y_16.toInt := xI_add rfl rfl ey_17 ((by first | exact ok_165 f_6.1 f_6.2 hp_4 c_7 ty_16.1 | omega)) ((by first | exact ok_166 f_6.1 f_6.2 hp_4 c_7 ty_16.2 | omega))
    refine lv_icmp_ge (tgt := 56) hx hb dX3_isLawful_34 rfl (fun c_18 => ?_) (fun c_18 => ?_)
    · have c_18 : y_17.toInt ≤ x_12.toInt := xI_le rfl rfl c_18
      refine ic_1 hx hb dX3_isLawful_56 ?_
      exact W.zret (v := 1) hx hb hr (by decide) (fun t ht _ => ⟨⟨1, G_8, rfl, (P_lIsLawful_1_mk ⟨hB_G_8, hF, ⟨by decide, by decide⟩, ⟨r_1, G_2, hX_5, (Or.inr ⟨c_7, ⟨x_12, G_8, hX_13, f_14, hB_G_8, hq_9, ⟨y_16, ey_16, ⟨y_17, ty_17, (Or.inl ⟨c_18, ⟨rfl, rfl⟩⟩)⟩⟩⟩⟩)⟩⟩), wd_t ht hW⟩, hS.F ht⟩) hS.2.2 dX3_isLawful_57
    · have c_18 : x_12.toInt < y_17.toInt := xI_nle rfl rfl c_18
      refine lv_aload_n hx hb dX3_isLawful_37 rfl (lv_at hl 1 rfl) ?_
      refine lv_iload_n hx hb dX3_isLawful_38 rfl (lv_at hl 3 rfl) ?_
      refine lv_iload_n hx hb dX3_isLawful_39 rfl (lv_at hl 4 rfl) ?_
      refine lv_iload hx hb dX3_isLawful_40 (lv_at hl 0 rfl) ?_
      refine S_calli (va_runV (As := [.int p1, .int p2, .int x_12]) (rest := []) ⟨hx, hb, hml, hown, hts⟩ (k_lIsLine_1 l D k A a z G_8 p1 p2 x_12 ((((hq_9.r9 6 4 rfl rfl).trans (hq_3.r9 6 4 rfl rfl))).trans (hv_6_4))) (cwV 3 hts (gd_V hgd m970 m941 m942 m122 m943) rfl rfl rfl hd_X3_isLine ⟨Nat.le_of_ble_eq_true rfl, Nat.le_of_ble_eq_true rfl⟩) (pre_W hW hB_G_8 hK hZ hS kd_6 rfl) rfl rfl hl.1 rfl (lv_room (Nat.le_of_ble_eq_true rfl)) dX3_isLawful_42 ⟨Nat.le_of_ble_eq_true rfl, Nat.le_of_ble_eq_true rfl⟩) hS (fun r_19 G_20 H locs hpo hW hS => ?_)
      have hX_23 : P_lIsLine_1 p1 p2 x_12 G_8 r_19 G_20 := hpo
      obtain ⟨hB_G_20, hq_21, f_24, -⟩ := hpo
      have hF := hF.call9 hq_21 rfl rfl
      refine lv_if_eq (tgt := 50) hx hb dX3_isLawful_45 rfl (fun c_25 => ?_) (fun c_25 => ?_)
      · have c_25 : r_19.toInt = 0 := xI_eq rfl rfl c_25
        obtain ⟨y_26, ey_26⟩ : ∃ q, q = x_12 + 1 := ⟨_, rfl⟩
        have ty_26 : y_26.toInt = x_12.toInt + 1 := xI_add rfl rfl ey_26 ((by first | exact ok_21 f_14.1 | omega)) ((by first | exact ok_167 f_14.2 | omega))
        refine lv_iinc (v := y_26) (lv' := [(5, .int y_26), (0, .ref (a 6)), (1, .int p0), (2, .int p1), (3, .int p2), (4, .int p3)]) hx hb dX3_isLawful_50 hl (k := 0) rfl (by rw [ey_26]; rfl) (lt_b rfl) rfl (fun ls hl => ?_)
        refine lv_goto (tgt := 20) hx hb dX3_isLawful_53 rfl ?_
        exact ih_10 (412 - y_26.toInt : Int).toNat ((by first | (clear f_6 c_7 f_24 c_25; omega) | omega)) _ _ _ ⟨G_20, y_26, (Int.toNat_of_nonneg ((by first | exact ok_168 f_6.1 f_6.2 hp_4 c_7 f_14.2 ty_16.2 ty_17 c_18 ty_26 | omega))), ⟨(by first | exact ok_23 f_14.1 ty_26 | omega), (by first | exact ok_169 f_6.1 f_6.2 hp_4 c_7 f_14.2 ty_16.2 ty_17 c_18 ty_26 | omega)⟩, (hX_13.st (St_k_lIsLawful_1_1_mk ⟨x_12, G_8, y_26, G_20, rfl, rfl, f_14, hB_G_8, ⟨y_16, ey_16, ⟨y_17, ty_17, ⟨c_18, ⟨r_19, G_20, hX_23, ⟨c_25, ⟨y_26, ty_26, ⟨rfl, rfl⟩⟩⟩⟩⟩⟩⟩⟩)), hW, hB_G_20, hF, (Fr.call9 (rs := []) (fs := []) (Fr.call9 (rs := []) (fs := []) Fr.rf hq_9 rfl rfl) hq_21 rfl rfl), hS, lv_sub hl [0, 1, 2, 3, 4, 5] rfl⟩
      · have c_25 : r_19.toInt ≠ 0 := xI_ne rfl rfl c_25
        refine ic_0 hx hb dX3_isLawful_48 ?_
        exact W.zret (v := 0) hx hb hr (by decide) (fun t ht _ => ⟨⟨0, G_20, rfl, (P_lIsLawful_1_mk ⟨hB_G_20, hF, ⟨by decide, by decide⟩, ⟨r_1, G_2, hX_5, (Or.inr ⟨c_7, ⟨x_12, G_8, hX_13, f_14, hB_G_8, hq_9, ⟨y_16, ey_16, ⟨y_17, ty_17, (Or.inr ⟨c_18, ⟨r_19, G_20, hX_23, ⟨c_25, ⟨rfl, rfl⟩⟩⟩⟩)⟩⟩⟩⟩)⟩⟩), wd_t ht hW⟩, hS.F ht⟩) hS.2.2 dX3_isLawful_49
  · have c_7 : r_1.toInt = 0 := xI_eq rfl rfl c_7
    refine ic_0 hx hb dX3_isLawful_14 ?_
    exact W.zret (v := 0) hx hb hr (by decide) (fun t ht _ => ⟨⟨0, G_2, rfl, (P_lIsLawful_1_mk ⟨hB_G_2, hF, ⟨by decide, by decide⟩, ⟨r_1, G_2, hX_5, (Or.inl ⟨c_7, ⟨rfl, rfl⟩⟩)⟩⟩), wd_t ht hW⟩, hS.F ht⟩) hS.2.2 dX3_isLawful_15



set_option maxHeartbeats 4000000 in
set_option maxRecDepth 100000 in
theorem k_lLook_2 (l : Launch) (D : va_G) (k : KT) (A : Nat → Prop) (a : Nat → Nat) (z : SK) (G : GS)   : Met l yX3_lookAt (WS yX3_lookAt cX3_lookAt 2 none) ({ frames := 1, cells := 0, slots := 0, locals := 23 }) (va_Pc [.ref (a 6), .ref (a 2)] (cW D k A a z G)) (va_Qv (fun (G1 : GS) => P_lLook_2 G G1) (fun (G1 : GS) t => Wd D k A a G1 t.heap) A) 0 0 A := by
  refine Met.ofW (cc := cX3_lookAt) (maxL := 2) (ret := none) (by decide) rfl ?_
  intro p e s m args below meth c s₁ B hml hv
  obtain ⟨rfl, hW, hB_G, hK, hZ⟩ := hv
  have hx := B.exec
  have hb := B.bytes
  have hr := B.returns
  have hts := atoms_spec (ws := WS yX3_lookAt cX3_lookAt 2 none) B.pre
  have hgd : ∀ w ∈ gd, w ∈ WS yX3_lookAt cX3_lookAt 2 none := fun w h => List.mem_cons_of_mem _ h
  have hg : ∀ w ∈ gd, w.before _ s = true := fun w h => hts w (hgd w h)
  have hown : s.vm.findClass RX3 = some m.cls := findClass_of_methodNamed B.named
  have hS : va_S A s.heap s.heap [] := va_S.rf
  have hF : Fr [38] [(6, 4)] G G := Fr.rf
  have hl := lv_entry ([.ref (a 6), .ref (a 2)]) (n := 2) (Nat.le_of_ble_eq_true rfl)
  rw [lg_entry_eq]
  generalize (lg_sl ([.ref (a 6), .ref (a 2)]) ++ List.replicate (2 - (lg_sl ([.ref (a 6), .ref (a 2)])).length) Slot.unset).toArray = ls at hl ⊢
  have hl : lv_has ls 2 [(0, .ref (a 6)), (1, .ref (a 2))] := hl
  refine lv_aload_n hx hb dX3_lookAt_0 rfl (lv_at hl 0 rfl) ?_
  refine lv_aload_n hx hb dX3_lookAt_1 rfl (lv_at hl 1 rfl) ?_
  refine S_putV (ty := .object "SlabWalk$Paving") (n := 2) (C := RX3) (T := TX3) (N := 5) hx hb hg iX3 tyX3 tyX3_ok nmX3 hown hK hW hS kd_6 rfl 4 (lt_b rfl) (hg (Cond.fieldLink RX3 21 "SlabWalk$Lines" "paving" "LSlabWalk$Paving;") m353) (fun _ h9 => h9) rfl (by decide +kernel) rfl rfl rfl dX3_lookAt_2 (fun G_1 H locs eG_1 hW hS => ?_)
  have hB_G_1 : Bd G_1 := hB_G.putr eG_1 (by decide) (by decide)
  have hF := hF.putr eG_1 (Or.inr (by decide))
  refine lv_aload_n hx hb dX3_lookAt_5 rfl (lv_at hl 0 rfl) ?_
  refine S_getR (n := 38) (C := RX3) (T := TX3) (N := 5) hx hb hg iX3 hown hK hW kd_6 rfl 1 (lt_b rfl) (hg (Cond.fieldLink RX3 15 "SlabWalk$Lines" "foundOn" "[I") m350) (fun _ h9 => h9) rfl dX3_lookAt_6 ?_
  refine ic_m1 hx hb dX3_lookAt_9 ?_
  refine S_callv (va_runS (As := [.ref (a 38), .int (-1)]) (rest := []) ⟨hx, hb, hml, hown, hts⟩ (k_fill_38 l D k A a z G_1 (-1) ) (va_cwS 2 hts (gd_S hgd m555 m556 m129 m557) rfl rfl rfl hd_J7_fill_53178.2 ⟨Nat.le_of_ble_eq_true rfl, Nat.le_of_ble_eq_true rfl⟩) (pre_S hW hB_G_1 hK hZ hS) rfl rfl hl.1 rfl (lv_room (Nat.le_of_ble_eq_true rfl)) dX3_lookAt_10 ⟨Nat.le_of_ble_eq_true rfl, Nat.le_of_ble_eq_true rfl⟩) hS (fun G_3 H locs hpo hW hS => ?_)
  have hX_6 : P_fill_38 (-1) G_1 G_3 := hpo
  obtain ⟨hB_G_3, hq_4, -⟩ := hpo
  have hF := hF.call9 hq_4 rfl rfl
  exact W.vret hx hb hr (fun t ht _ => ⟨⟨G_3, rfl, (P_lLook_2_mk ⟨hB_G_3, hF, ⟨G_1, hB_G_1, (Fr.putr (rs := []) (fs := [(6, 4)]) Fr.rf eG_1 (Or.inr (by decide))), (gp_re eG_1), ⟨G_3, hX_6, rfl⟩⟩⟩), wd_t ht hW⟩, hS.F ht⟩) hS.2.2 dX3_lookAt_13

set_option maxHeartbeats 4000000 in
set_option maxRecDepth 100000 in
theorem k_lValue_2 (l : Launch) (D : va_G) (k : KT) (A : Nat → Prop) (a : Nat → Nat) (z : SK) (G : GS) (p0 : Int32) (p1 : Int32) (p2 : Int32) (ha_p0 : 0 ≤ p0.toInt ∧ p0.toInt ≤ 5) (hv_6_4 : G.2.2 6 4 = 2) : Met l yX3_valueOf (WS yX3_valueOf cX3_valueOf 8 (some .int)) ({ frames := 2, cells := 0, slots := 0, locals := 43 }) (va_Pc [.ref (a 6), .int p0, .int p1, .int p2] (cW D k A a z G)) (va_Qi (fun (r : Int32) (G1 : GS) => P_lValue_2 p0 p1 p2 G r G1) (fun (G1 : GS) t => Wd D k A a G1 t.heap) A) 0 0 A := by
  refine Met.ofW (cc := cX3_valueOf) (maxL := 8) (ret := (some .int)) (by decide) rfl ?_
  intro p e s m args below meth c s₁ B hml hv
  obtain ⟨rfl, hW, hB_G, hK, hZ⟩ := hv
  have hx := B.exec
  have hb := B.bytes
  have hr := B.returns
  have hts := atoms_spec (ws := WS yX3_valueOf cX3_valueOf 8 (some .int)) B.pre
  have hgd : ∀ w ∈ gd, w ∈ WS yX3_valueOf cX3_valueOf 8 (some .int) := fun w h => List.mem_cons_of_mem _ h
  have hg : ∀ w ∈ gd, w.before _ s = true := fun w h => hts w (hgd w h)
  have hown : s.vm.findClass RX3 = some m.cls := findClass_of_methodNamed B.named
  have hS : va_S A s.heap s.heap [] := va_S.rf
  have hF : Fr [39] [(6, 3)] G G := Fr.rf
  have hl := lv_entry ([.ref (a 6), .int p0, .int p1, .int p2]) (n := 8) (Nat.le_of_ble_eq_true rfl)
  rw [lg_entry_eq]
  generalize (lg_sl ([.ref (a 6), .int p0, .int p1, .int p2]) ++ List.replicate (8 - (lg_sl ([.ref (a 6), .int p0, .int p1, .int p2])).length) Slot.unset).toArray = ls at hl ⊢
  have hl : lv_has ls 8 [(0, .ref (a 6)), (1, .int p0), (2, .int p1), (3, .int p2)] := hl
  refine lv_aload_n hx hb dX3_valueOf_0 rfl (lv_at hl 0 rfl) ?_
  refine ic_0 hx hb dX3_valueOf_1 ?_
  refine S_putI (ty := .int) (C := RX3) (T := TX3) (N := 5) hx hb hg iX3 tyX3 tyX3_ok nmX3 hown hK hW hS kd_6 rfl 3 (lt_b rfl) (hg (Cond.fieldLink RX3 66 "SlabWalk$Lines" "top" "I") m352) (fun _ h9 => h9) rfl (by decide +kernel) rfl rfl rfl dX3_valueOf_2 (fun G_1 H locs eG_1 hW hS => ?_)
  have hB_G_1 : Bd G_1 := hB_G.put (V := 0) (lo := 0) (hi := 100) eG_1 rfl rfl rfl (by decide) (by decide) (hB_G.2.put eG_1 rfl)
  have hF := hF.put eG_1 (Or.inr (by decide))
  refine lv_aload_n hx hb dX3_valueOf_5 rfl (lv_at hl 0 rfl) ?_
  refine S_getV (n := 2) (C := RX3) (T := TX3) (N := 5) hx hb hg iX3 hown hK hW kd_6 rfl 4 (lt_b rfl) (hg (Cond.fieldLink RX3 21 "SlabWalk$Lines" "paving" "LSlabWalk$Paving;") m353) (fun _ h9 => h9) rfl (((congrFun (congrFun (congrArg (fun q => q.2.2) eG_1) 6) 4)).trans (hv_6_4)) dX3_valueOf_6 ?_
  refine S_getR (n := 28) (C := RX6) (T := TX6) (N := 17) hx hb hg iX6 hown hK hW kd_2 rfl 8 (lt_b rfl) (hg (Cond.fieldLink RX3 69 "SlabWalk$Paving" "codeEnd" "[I") m184) (fun _ h9 => h9) rfl dX3_valueOf_9 ?_
  refine lv_iload_n hx hb dX3_valueOf_12 rfl (lv_at hl 1 rfl) ?_
  refine S_iald hx hb hK hW kd_28 (vin ((by first | exact ha_p0.1 | omega)) ((by first | exact ok_142 ha_p0.2 | omega))) dX3_valueOf_13 (fun y_2 ey_2 => ?_)
  have ty_2 : 0 ≤ y_2.toInt ∧ y_2.toInt ≤ 580 := bv_28 hB_G_1 ey_2
  refine lv_istore (lv' := [(4, .int y_2), (0, .ref (a 6)), (1, .int p0), (2, .int p1), (3, .int p2)]) hx hb dX3_valueOf_14 hl (lt_b rfl) rfl (fun ls hl => ?_)
  refine loop_N (Inv := fun n H locs ls => ∃ (G_3 : GS) (x_7 : Int32), (n : Int) = 580 - x_7.toInt ∧ (0 ≤ x_7.toInt ∧ x_7.toInt ≤ 580) ∧ Rc (St_k_lValue_2_1 p0 p1 p2) (y_2, G_1) (x_7, G_3) ∧ Wd D k A a G_3 H ∧ Bd G_3 ∧ Fr [39] [(6, 3)] G G_3 ∧ Fr [39] [(6, 3)] G_1 G_3 ∧ va_S A s.heap H locs ∧ lv_has ls 8 [(4, .int x_7), (0, .ref (a 6)), (1, .int p0), (2, .int p1), (3, .int p2)]) (fun n_6 H locs ls ih_5 hI => ?_) (580 - y_2.toInt : Int).toNat ⟨G_1, y_2, (Int.toNat_of_nonneg ((by first | exact ok_143 ty_2.2 | omega))), ⟨(by first | exact ty_2.1 | omega), (by first | exact ty_2.2 | omega)⟩, Rc.rf, hW, hB_G_1, hF, Fr.rf, hS, lv_sub hl [0, 1, 2, 3, 4] rfl⟩
  obtain ⟨G_3, x_7, hn_10, f_9, hX_8, hW, hB_G_3, hF, hq_4, hS, hl⟩ := hI
  refine lv_iload hx hb dX3_valueOf_16 (lv_at hl 0 rfl) ?_
  refine lv_aload_n hx hb dX3_valueOf_18 rfl (lv_at hl 1 rfl) ?_
  refine S_getV (n := 2) (C := RX3) (T := TX3) (N := 5) hx hb hg iX3 hown hK hW kd_6 rfl 4 (lt_b rfl) (hg (Cond.fieldLink RX3 21 "SlabWalk$Lines" "paving" "LSlabWalk$Paving;") m353) (fun _ h9 => h9) rfl ((((hq_4.r9 6 4 rfl rfl).trans (congrFun (congrFun (congrArg (fun q => q.2.2) eG_1) 6) 4))).trans (hv_6_4)) dX3_valueOf_19 ?_
  refine S_getR (n := 28) (C := RX6) (T := TX6) (N := 17) hx hb hg iX6 hown hK hW kd_2 rfl 8 (lt_b rfl) (hg (Cond.fieldLink RX3 69 "SlabWalk$Paving" "codeEnd" "[I") m184) (fun _ h9 => h9) rfl dX3_valueOf_22 ?_
  refine lv_iload_n hx hb dX3_valueOf_25 rfl (lv_at hl 2 rfl) ?_
  refine ic_1 hx hb dX3_valueOf_26 ?_
  refine lv_iadd hx hb dX3_valueOf_27 ?_
  refine lv_topi (fun y_11 ey_11 => ?_)
  have ty_11 : y_11.toInt = p0.toInt + 1 := xI_add rfl rfl ey_11 ((by first | exact ok_21 ha_p0.1 | omega)) ((by first | exact ok_144 ha_p0.2 | omega))
  refine S_iald hx hb hK hW kd_28 (vin ((by first | exact ok_23 ha_p0.1 ty_11 | omega)) ((by first | exact ok_145 ha_p0.2 ty_11 | omega))) dX3_valueOf_28 (fun y_12 ey_12 => ?_)
  have ty_12 : 0 ≤ y_12.toInt ∧ y_12.toInt ≤ 580 := bv_28 hB_G_3 ey_12
  refine lv_icmp_ge (tgt := 172) hx hb dX3_valueOf_29 rfl (fun c_13 => ?_) (fun c_13 => ?_)
  · have c_13 : y_12.toInt ≤ x_7.toInt := xI_le rfl rfl c_13
    refine lv_aload_n hx hb dX3_valueOf_172 rfl (lv_at hl 1 rfl) ?_
    refine S_calli (va_runV (As := []) (rest := []) ⟨hx, hb, hml, hown, hts⟩ (k_lPop l D k A a z G_3  ) (cwV 0 hts (gd_V hgd m929 m931 m30 m122 m932) rfl rfl rfl hd_X3_pop ⟨Nat.le_of_ble_eq_true rfl, Nat.le_of_ble_eq_true rfl⟩) (pre_W hW hB_G_3 hK hZ hS kd_6 rfl) rfl rfl hl.1 rfl (lv_room (Nat.le_of_ble_eq_true rfl)) dX3_valueOf_173 ⟨Nat.le_of_ble_eq_true rfl, Nat.le_of_ble_eq_true rfl⟩) hS (fun r_14 G_15 H locs hpo hW hS => ?_)
    have hX_18 : P_lPop G_3 r_14 G_15 := hpo
    obtain ⟨hB_G_15, hq_16, -⟩ := hpo
    have hF := hF.call9 hq_16 rfl rfl
    exact W.iret (v := r_14) hx hb hr (fun t ht _ => ⟨⟨r_14, G_15, rfl, (P_lValue_2_mk ⟨hB_G_15, hF, ⟨y_2, ey_2.trans (congrFun (rw_put eG_1 (by decide)) _), ⟨G_1, hB_G_1, (Fr.put (rs := []) (fs := [(6, 3)]) Fr.rf eG_1 (Or.inr (by decide))), (gp_eq eG_1), ⟨x_7, G_3, hX_8, f_9, hB_G_3, hq_4, ⟨y_11, ty_11, ⟨y_12, ey_12, ⟨c_13, ⟨r_14, G_15, hX_18, ⟨rfl, rfl⟩⟩⟩⟩⟩⟩⟩⟩⟩), wd_t ht hW⟩, hS.F ht⟩) hS.2.2 dX3_valueOf_176
  · have c_13 : x_7.toInt < y_12.toInt := xI_nle rfl rfl c_13
    refine lv_aload_n hx hb dX3_valueOf_32 rfl (lv_at hl 1 rfl) ?_
    refine S_getV (n := 2) (C := RX3) (T := TX3) (N := 5) hx hb hg iX3 hown hK hW kd_6 rfl 4 (lt_b rfl) (hg (Cond.fieldLink RX3 21 "SlabWalk$Lines" "paving" "LSlabWalk$Paving;") m353) (fun _ h9 => h9) rfl ((((hq_4.r9 6 4 rfl rfl).trans (congrFun (congrFun (congrArg (fun q => q.2.2) eG_1) 6) 4))).trans (hv_6_4)) dX3_valueOf_33 ?_
    refine S_getR (n := 27) (C := RX6) (T := TX6) (N := 17) hx hb hg iX6 hown hK hW kd_2 rfl 7 (lt_b rfl) (hg (Cond.fieldLink RX3 72 "SlabWalk$Paving" "code" "[I") m182) (fun _ h9 => h9) rfl dX3_valueOf_36 ?_
    refine lv_iload hx hb dX3_valueOf_39 (lv_at hl 0 rfl) ?_
    refine S_iald hx hb hK hW kd_27 (vin ((by first | exact f_9.1 | omega)) ((by first | exact ok_146 f_9.2 ty_12.2 c_13 | omega))) dX3_valueOf_41 (fun y_19 ey_19 => ?_)
    refine lv_sipush (v := 1023) hx hb dX3_valueOf_42 (by decide) ?_
    refine lv_iand hx hb dX3_valueOf_45 ?_
    refine lv_topi (fun y_20 ey_20 => ?_)
    have ty_20 := xI_and (Y := 1023) rfl ey_20 (by decide)
    refine lv_istore (lv' := [(5, .int y_20), (4, .int x_7), (0, .ref (a 6)), (1, .int p0), (2, .int p1), (3, .int p2)]) hx hb dX3_valueOf_46 hl (lt_b rfl) rfl (fun ls hl => ?_)
    refine lv_iload hx hb dX3_valueOf_48 (lv_at hl 0 rfl) ?_
    refine lv_sipush (v := 201) hx hb dX3_valueOf_50 (by decide) ?_
    refine lv_icmp_ne (tgt := 76) hx hb dX3_valueOf_53 rfl (fun c_21 => ?_) (fun c_21 => ?_)
    · have c_21 : y_20.toInt ≠ 201 := xI_ne rfl rfl c_21
      refine lv_iload hx hb dX3_valueOf_76 (lv_at hl 0 rfl) ?_
      refine lv_sipush (v := 146) hx hb dX3_valueOf_78 (by decide) ?_
      refine lv_icmp_ne (tgt := 103) hx hb dX3_valueOf_81 rfl (fun c_22 => ?_) (fun c_22 => ?_)
      · have c_22 : y_20.toInt ≠ 146 := xI_ne rfl rfl c_22
        refine lv_iload hx hb dX3_valueOf_103 (lv_at hl 0 rfl) ?_
        refine lv_sipush (v := 144) hx hb dX3_valueOf_105 (by decide) ?_
        refine W.cut (σ := Unit) (pcJ := 127) (J := fun y H locs ls => ∃ (G_29 : GS), Jn_k_lValue_2_2 y_20 G_3 G_29 ∧ Wd D k A a G_29 H ∧ Bd G_29 ∧ Fr [39] [(6, 3)] G G_29 ∧ Fr [] [] G_3 G_29 ∧ va_S A s.heap H locs ∧ lv_has ls 8 [(5, .int y_20), (4, .int x_7), (0, .ref (a 6)), (1, .int p0), (2, .int p1), (3, .int p2)]) (stJ := fun _ => []) ?_ (fun hJ_30 => ?_)
        · intro y H locs ls hI
          obtain ⟨G_29, hX_32, hW, hB_G_29, hF, hq_31, hS, hl⟩ := hI
          refine lv_aload_n hx hb dX3_valueOf_127 rfl (lv_at hl 2 rfl) ?_
          refine S_calli (va_runV (As := []) (rest := []) ⟨hx, hb, hml, hown, hts⟩ (k_lPop l D k A a z G_29  ) (cwV 0 hts (gd_V hgd m929 m931 m30 m122 m932) rfl rfl rfl hd_X3_pop ⟨Nat.le_of_ble_eq_true rfl, Nat.le_of_ble_eq_true rfl⟩) (pre_W hW hB_G_29 hK hZ hS kd_6 rfl) rfl rfl hl.1 rfl (lv_room (Nat.le_of_ble_eq_true rfl)) dX3_valueOf_128 ⟨Nat.le_of_ble_eq_true rfl, Nat.le_of_ble_eq_true rfl⟩) hS (fun r_33 G_34 H locs hpo hW hS => ?_)
          have hX_37 : P_lPop G_29 r_33 G_34 := hpo
          obtain ⟨hB_G_34, hq_35, -⟩ := hpo
          have hF := hF.call9 hq_35 rfl rfl
          refine lv_istore (lv' := [(6, .int r_33), (5, .int y_20), (4, .int x_7), (0, .ref (a 6)), (1, .int p0), (2, .int p1), (3, .int p2)]) hx hb dX3_valueOf_131 hl (lt_b rfl) rfl (fun ls hl => ?_)
          refine lv_aload_n hx hb dX3_valueOf_133 rfl (lv_at hl 3 rfl) ?_
          refine S_calli (va_runV (As := []) (rest := []) ⟨hx, hb, hml, hown, hts⟩ (k_lPop l D k A a z G_34  ) (cwV 0 hts (gd_V hgd m929 m931 m30 m122 m932) rfl rfl rfl hd_X3_pop ⟨Nat.le_of_ble_eq_true rfl, Nat.le_of_ble_eq_true rfl⟩) (pre_W hW hB_G_34 hK hZ hS kd_6 rfl) rfl rfl hl.1 rfl (lv_room (Nat.le_of_ble_eq_true rfl)) dX3_valueOf_134 ⟨Nat.le_of_ble_eq_true rfl, Nat.le_of_ble_eq_true rfl⟩) hS (fun r_38 G_39 H locs hpo hW hS => ?_)
          have hX_42 : P_lPop G_34 r_38 G_39 := hpo
          obtain ⟨hB_G_39, hq_40, -⟩ := hpo
          have hF := hF.call9 hq_40 rfl rfl
          refine lv_istore (lv' := [(7, .int r_38), (6, .int r_33), (5, .int y_20), (4, .int x_7), (0, .ref (a 6)), (1, .int p0), (2, .int p1), (3, .int p2)]) hx hb dX3_valueOf_137 hl (lt_b rfl) rfl (fun ls hl => ?_)
          refine lv_aload_n hx hb dX3_valueOf_139 rfl (lv_at hl 4 rfl) ?_
          refine lv_iload hx hb dX3_valueOf_140 (lv_at hl 2 rfl) ?_
          refine lv_iload hx hb dX3_valueOf_142 (lv_at hl 0 rfl) ?_
          refine lv_iload hx hb dX3_valueOf_144 (lv_at hl 1 rfl) ?_
          refine S_calli (va_runS (As := [.int y_20, .int r_38, .int r_33]) (rest := [.ref (a 6)]) ⟨hx, hb, hml, hown, hts⟩ (k_lJoin l D k A a z G_39 y_20 r_38 r_33 ) (va_cwS 3 hts (gd_S hgd m933 m934 m122 m935) rfl rfl rfl hd_X3_join.2 ⟨Nat.le_of_ble_eq_true rfl, Nat.le_of_ble_eq_true rfl⟩) (pre_S hW hB_G_39 hK hZ hS) rfl rfl hl.1 rfl (lv_room (Nat.le_of_ble_eq_true rfl)) dX3_valueOf_146 ⟨Nat.le_of_ble_eq_true rfl, Nat.le_of_ble_eq_true rfl⟩) hS (fun r_43 G_44 H locs hpo hW hS => ?_)
          have hX_47 : P_lJoin y_20 r_38 r_33 G_39 r_43 G_44 := hpo
          obtain ⟨hB_G_44, hq_45, -⟩ := hpo
          have hF := hF.call9 hq_45 rfl rfl
          refine S_callv (va_runV (As := [.int r_43]) (rest := []) ⟨hx, hb, hml, hown, hts⟩ (k_lPush l D k A a z G_44 r_43 ) (cwV 1 hts (gd_V hgd m925 m927 m29 m122 m928) rfl rfl rfl hd_X3_push ⟨Nat.le_of_ble_eq_true rfl, Nat.le_of_ble_eq_true rfl⟩) (pre_W hW hB_G_44 hK hZ hS kd_6 rfl) rfl rfl hl.1 rfl (lv_room (Nat.le_of_ble_eq_true rfl)) dX3_valueOf_149 ⟨Nat.le_of_ble_eq_true rfl, Nat.le_of_ble_eq_true rfl⟩) hS (fun G_49 H locs hpo hW hS => ?_)
          have hX_52 : P_lPush r_43 G_44 G_49 := hpo
          obtain ⟨hB_G_49, hq_50, -⟩ := hpo
          have hF := hF.call9 hq_50 rfl rfl
          refine lv_goto (tgt := 166) hx hb dX3_valueOf_152 rfl ?_
          obtain ⟨y_53, ey_53⟩ : ∃ q, q = x_7 + 1 := ⟨_, rfl⟩
          have ty_53 : y_53.toInt = x_7.toInt + 1 := xI_add rfl rfl ey_53 ((by first | exact ok_21 f_9.1 | omega)) ((by first | exact ok_22 f_9.2 | omega))
          refine lv_iinc (v := y_53) (lv' := [(4, .int y_53), (7, .int r_38), (6, .int r_33), (5, .int y_20), (0, .ref (a 6)), (1, .int p0), (2, .int p1), (3, .int p2)]) hx hb dX3_valueOf_166 hl (k := 3) rfl (by rw [ey_53]; rfl) (lt_b rfl) rfl (fun ls hl => ?_)
          refine lv_goto (tgt := 16) hx hb dX3_valueOf_169 rfl ?_
          exact ih_5 (580 - y_53.toInt : Int).toNat ((by first | (clear ha_p0 ty_2 ty_11 ty_20 c_21 c_22; omega) | omega)) _ _ _ ⟨G_49, y_53, (Int.toNat_of_nonneg ((by first | exact ok_147 f_9.2 ty_12.2 c_13 ty_53 | omega))), ⟨(by first | exact ok_23 f_9.1 ty_53 | omega), (by first | exact ok_148 f_9.2 ty_12.2 c_13 ty_53 | omega)⟩, (hX_8.st (St_k_lValue_2_1_mk ⟨x_7, G_3, y_53, G_49, rfl, rfl, f_9, hB_G_3, ⟨y_11, ty_11, ⟨y_12, ey_12, ⟨c_13, ⟨y_19, ey_19, ⟨y_20, ey_20, (Or.inr ⟨c_21, (Or.inr ⟨c_22, (Or.inr ⟨G_29, hX_32, hB_G_29, hq_31, ⟨r_33, G_34, hX_37, ⟨r_38, G_39, hX_42, ⟨r_43, G_44, hX_47, ⟨G_49, hX_52, ⟨y_53, ty_53, ⟨rfl, rfl⟩⟩⟩⟩⟩⟩⟩)⟩)⟩)⟩⟩⟩⟩⟩⟩)), hW, hB_G_49, hF, (Fr.call9 (rs := [39]) (fs := [(6, 3)]) (Fr.call9 (rs := [39]) (fs := [(6, 3)]) (Fr.call9 (rs := [39]) (fs := [(6, 3)]) (Fr.call9 (rs := [39]) (fs := [(6, 3)]) (Fr.call9 (rs := [39]) (fs := [(6, 3)]) (Fr.call9 (rs := [39]) (fs := [(6, 3)]) Fr.rf hq_4 rfl rfl) hq_31 rfl rfl) hq_35 rfl rfl) hq_40 rfl rfl) hq_45 rfl rfl) hq_50 rfl rfl), hS, lv_sub hl [0, 4, 5, 6, 7] rfl⟩
        refine lv_icmp_eq (tgt := 127) hx hb dX3_valueOf_108 rfl (fun c_54 => ?_) (fun c_54 => ?_)
        · have c_54 : y_20.toInt = 144 := xI_eq rfl rfl c_54
          exact hJ_30 () _ _ _ ⟨G_3, (Jn_k_lValue_2_2_mk (Or.inl ⟨c_54, rfl⟩)), hW, hB_G_3, hF, (Fr.rf (rs := []) (fs := [])), hS, lv_sub hl [0, 1, 2, 3, 4, 5] rfl⟩
        · have c_54 : y_20.toInt ≠ 144 := xI_ne rfl rfl c_54
          refine lv_iload hx hb dX3_valueOf_111 (lv_at hl 0 rfl) ?_
          refine lv_sipush (v := 145) hx hb dX3_valueOf_113 (by decide) ?_
          refine lv_icmp_eq (tgt := 127) hx hb dX3_valueOf_116 rfl (fun c_55 => ?_) (fun c_55 => ?_)
          · have c_55 : y_20.toInt = 145 := xI_eq rfl rfl c_55
            exact hJ_30 () _ _ _ ⟨G_3, (Jn_k_lValue_2_2_mk (Or.inr ⟨c_54, (Or.inl ⟨c_55, rfl⟩)⟩)), hW, hB_G_3, hF, (Fr.rf (rs := []) (fs := [])), hS, lv_sub hl [0, 1, 2, 3, 4, 5] rfl⟩
          · have c_55 : y_20.toInt ≠ 145 := xI_ne rfl rfl c_55
            refine lv_iload hx hb dX3_valueOf_119 (lv_at hl 0 rfl) ?_
            refine lv_sipush (v := 128) hx hb dX3_valueOf_121 (by decide) ?_
            refine lv_icmp_ge (tgt := 155) hx hb dX3_valueOf_124 rfl (fun c_56 => ?_) (fun c_56 => ?_)
            · have c_56 : 128 ≤ y_20.toInt := xI_le rfl rfl c_56
              refine lv_aload_n hx hb dX3_valueOf_155 rfl (lv_at hl 2 rfl) ?_
              refine lv_iload hx hb dX3_valueOf_156 (lv_at hl 0 rfl) ?_
              refine lv_iload_n hx hb dX3_valueOf_158 rfl (lv_at hl 4 rfl) ?_
              refine lv_iload_n hx hb dX3_valueOf_159 rfl (lv_at hl 5 rfl) ?_
              refine S_calli (va_runS (As := [.int y_20, .int p1, .int p2]) (rest := [.ref (a 6)]) ⟨hx, hb, hml, hown, hts⟩ (k_lOwn l D k A a z G_3 y_20 p1 p2 ) (va_cwS 3 hts (gd_S hgd m936 m937 m122 m938) rfl rfl rfl hd_X3_ownOf.2 ⟨Nat.le_of_ble_eq_true rfl, Nat.le_of_ble_eq_true rfl⟩) (pre_S hW hB_G_3 hK hZ hS) rfl rfl hl.1 rfl (lv_room (Nat.le_of_ble_eq_true rfl)) dX3_valueOf_160 ⟨Nat.le_of_ble_eq_true rfl, Nat.le_of_ble_eq_true rfl⟩) hS (fun r_57 G_58 H locs hpo hW hS => ?_)
              have hX_61 : P_lOwn y_20 p1 p2 G_3 r_57 G_58 := hpo
              obtain ⟨hB_G_58, hq_59, -⟩ := hpo
              have hF := hF.call9 hq_59 rfl rfl
              refine S_callv (va_runV (As := [.int r_57]) (rest := []) ⟨hx, hb, hml, hown, hts⟩ (k_lPush l D k A a z G_58 r_57 ) (cwV 1 hts (gd_V hgd m925 m927 m29 m122 m928) rfl rfl rfl hd_X3_push ⟨Nat.le_of_ble_eq_true rfl, Nat.le_of_ble_eq_true rfl⟩) (pre_W hW hB_G_58 hK hZ hS kd_6 rfl) rfl rfl hl.1 rfl (lv_room (Nat.le_of_ble_eq_true rfl)) dX3_valueOf_163 ⟨Nat.le_of_ble_eq_true rfl, Nat.le_of_ble_eq_true rfl⟩) hS (fun G_63 H locs hpo hW hS => ?_)
              have hX_66 : P_lPush r_57 G_58 G_63 := hpo
              obtain ⟨hB_G_63, hq_64, -⟩ := hpo
              have hF := hF.call9 hq_64 rfl rfl
              obtain ⟨y_67, ey_67⟩ : ∃ q, q = x_7 + 1 := ⟨_, rfl⟩
              have ty_67 : y_67.toInt = x_7.toInt + 1 := xI_add rfl rfl ey_67 ((by first | exact ok_21 f_9.1 | omega)) ((by first | exact ok_22 f_9.2 | omega))
              refine lv_iinc (v := y_67) (lv' := [(4, .int y_67), (5, .int y_20), (0, .ref (a 6)), (1, .int p0), (2, .int p1), (3, .int p2)]) hx hb dX3_valueOf_166 hl (k := 1) rfl (by rw [ey_67]; rfl) (lt_b rfl) rfl (fun ls hl => ?_)
              refine lv_goto (tgt := 16) hx hb dX3_valueOf_169 rfl ?_
              exact ih_5 (580 - y_67.toInt : Int).toNat ((by first | (clear ha_p0 ty_2 ty_11 ty_20 c_21 c_22 c_54 c_55 c_56; omega) | omega)) _ _ _ ⟨G_63, y_67, (Int.toNat_of_nonneg ((by first | exact ok_147 f_9.2 ty_12.2 c_13 ty_67 | omega))), ⟨(by first | exact ok_23 f_9.1 ty_67 | omega), (by first | exact ok_148 f_9.2 ty_12.2 c_13 ty_67 | omega)⟩, (hX_8.st (St_k_lValue_2_1_mk ⟨x_7, G_3, y_67, G_63, rfl, rfl, f_9, hB_G_3, ⟨y_11, ty_11, ⟨y_12, ey_12, ⟨c_13, ⟨y_19, ey_19, ⟨y_20, ey_20, (Or.inr ⟨c_21, (Or.inr ⟨c_22, (Or.inl ⟨c_54, ⟨c_55, ⟨c_56, ⟨r_57, G_58, hX_61, ⟨G_63, hX_66, ⟨y_67, ty_67, ⟨rfl, rfl⟩⟩⟩⟩⟩⟩⟩)⟩)⟩)⟩⟩⟩⟩⟩⟩)), hW, hB_G_63, hF, (Fr.call9 (rs := [39]) (fs := [(6, 3)]) (Fr.call9 (rs := [39]) (fs := [(6, 3)]) (Fr.call9 (rs := [39]) (fs := [(6, 3)]) Fr.rf hq_4 rfl rfl) hq_59 rfl rfl) hq_64 rfl rfl), hS, lv_sub hl [0, 2, 3, 4, 5] rfl⟩
            · have c_56 : y_20.toInt < 128 := xI_nle rfl rfl c_56
              exact hJ_30 () _ _ _ ⟨G_3, (Jn_k_lValue_2_2_mk (Or.inr ⟨c_54, (Or.inr ⟨c_55, ⟨c_56, rfl⟩⟩)⟩)), hW, hB_G_3, hF, (Fr.rf (rs := []) (fs := [])), hS, lv_sub hl [0, 1, 2, 3, 4, 5] rfl⟩
      · have c_22 : y_20.toInt = 146 := xI_eq rfl rfl c_22
        refine lv_aload_n hx hb dX3_valueOf_84 rfl (lv_at hl 2 rfl) ?_
        refine lv_aload_n hx hb dX3_valueOf_85 rfl (lv_at hl 2 rfl) ?_
        refine S_calli (va_runV (As := []) (rest := [.ref (a 6)]) ⟨hx, hb, hml, hown, hts⟩ (k_lPop l D k A a z G_3  ) (cwV 0 hts (gd_V hgd m929 m931 m30 m122 m932) rfl rfl rfl hd_X3_pop ⟨Nat.le_of_ble_eq_true rfl, Nat.le_of_ble_eq_true rfl⟩) (pre_W hW hB_G_3 hK hZ hS kd_6 rfl) rfl rfl hl.1 rfl (lv_room (Nat.le_of_ble_eq_true rfl)) dX3_valueOf_86 ⟨Nat.le_of_ble_eq_true rfl, Nat.le_of_ble_eq_true rfl⟩) hS (fun r_68 G_69 H locs hpo hW hS => ?_)
        have hX_72 : P_lPop G_3 r_68 G_69 := hpo
        obtain ⟨hB_G_69, hq_70, -⟩ := hpo
        have hF := hF.call9 hq_70 rfl rfl
        refine lv_if_ne (tgt := 96) hx hb dX3_valueOf_89 rfl (fun c_73 => ?_) (fun c_73 => ?_)
        · have c_73 : r_68.toInt ≠ 0 := xI_ne rfl rfl c_73
          refine ic_0 hx hb dX3_valueOf_96 ?_
          refine S_callv (va_runV (As := [.int 0]) (rest := []) ⟨hx, hb, hml, hown, hts⟩ (k_lPush l D k A a z G_69 0 ) (cwV 1 hts (gd_V hgd m925 m927 m29 m122 m928) rfl rfl rfl hd_X3_push ⟨Nat.le_of_ble_eq_true rfl, Nat.le_of_ble_eq_true rfl⟩) (pre_W hW hB_G_69 hK hZ hS kd_6 rfl) rfl rfl hl.1 rfl (lv_room (Nat.le_of_ble_eq_true rfl)) dX3_valueOf_97 ⟨Nat.le_of_ble_eq_true rfl, Nat.le_of_ble_eq_true rfl⟩) hS (fun G_75 H locs hpo hW hS => ?_)
          have hX_78 : P_lPush 0 G_69 G_75 := hpo
          obtain ⟨hB_G_75, hq_76, -⟩ := hpo
          have hF := hF.call9 hq_76 rfl rfl
          refine lv_goto (tgt := 166) hx hb dX3_valueOf_100 rfl ?_
          obtain ⟨y_79, ey_79⟩ : ∃ q, q = x_7 + 1 := ⟨_, rfl⟩
          have ty_79 : y_79.toInt = x_7.toInt + 1 := xI_add rfl rfl ey_79 ((by first | exact ok_21 f_9.1 | omega)) ((by first | exact ok_22 f_9.2 | omega))
          refine lv_iinc (v := y_79) (lv' := [(4, .int y_79), (5, .int y_20), (0, .ref (a 6)), (1, .int p0), (2, .int p1), (3, .int p2)]) hx hb dX3_valueOf_166 hl (k := 1) rfl (by rw [ey_79]; rfl) (lt_b rfl) rfl (fun ls hl => ?_)
          refine lv_goto (tgt := 16) hx hb dX3_valueOf_169 rfl ?_
          exact ih_5 (580 - y_79.toInt : Int).toNat ((by first | (clear ha_p0 ty_2 ty_11 ty_20 c_21 c_22 c_73; omega) | omega)) _ _ _ ⟨G_75, y_79, (Int.toNat_of_nonneg ((by first | exact ok_147 f_9.2 ty_12.2 c_13 ty_79 | omega))), ⟨(by first | exact ok_23 f_9.1 ty_79 | omega), (by first | exact ok_148 f_9.2 ty_12.2 c_13 ty_79 | omega)⟩, (hX_8.st (St_k_lValue_2_1_mk ⟨x_7, G_3, y_79, G_75, rfl, rfl, f_9, hB_G_3, ⟨y_11, ty_11, ⟨y_12, ey_12, ⟨c_13, ⟨y_19, ey_19, ⟨y_20, ey_20, (Or.inr ⟨c_21, (Or.inl ⟨c_22, ⟨r_68, G_69, hX_72, (Or.inr ⟨c_73, ⟨G_75, hX_78, ⟨y_79, ty_79, ⟨rfl, rfl⟩⟩⟩⟩)⟩⟩)⟩)⟩⟩⟩⟩⟩⟩)), hW, hB_G_75, hF, (Fr.call9 (rs := [39]) (fs := [(6, 3)]) (Fr.call9 (rs := [39]) (fs := [(6, 3)]) (Fr.call9 (rs := [39]) (fs := [(6, 3)]) Fr.rf hq_4 rfl rfl) hq_70 rfl rfl) hq_76 rfl rfl), hS, lv_sub hl [0, 2, 3, 4, 5] rfl⟩
        · have c_73 : r_68.toInt = 0 := xI_eq rfl rfl c_73
          refine ic_1 hx hb dX3_valueOf_92 ?_
          refine lv_goto (tgt := 97) hx hb dX3_valueOf_93 rfl ?_
          refine S_callv (va_runV (As := [.int 1]) (rest := []) ⟨hx, hb, hml, hown, hts⟩ (k_lPush l D k A a z G_69 1 ) (cwV 1 hts (gd_V hgd m925 m927 m29 m122 m928) rfl rfl rfl hd_X3_push ⟨Nat.le_of_ble_eq_true rfl, Nat.le_of_ble_eq_true rfl⟩) (pre_W hW hB_G_69 hK hZ hS kd_6 rfl) rfl rfl hl.1 rfl (lv_room (Nat.le_of_ble_eq_true rfl)) dX3_valueOf_97 ⟨Nat.le_of_ble_eq_true rfl, Nat.le_of_ble_eq_true rfl⟩) hS (fun G_81 H locs hpo hW hS => ?_)
          have hX_84 : P_lPush 1 G_69 G_81 := hpo
          obtain ⟨hB_G_81, hq_82, -⟩ := hpo
          have hF := hF.call9 hq_82 rfl rfl
          refine lv_goto (tgt := 166) hx hb dX3_valueOf_100 rfl ?_
          obtain ⟨y_85, ey_85⟩ : ∃ q, q = x_7 + 1 := ⟨_, rfl⟩
          have ty_85 : y_85.toInt = x_7.toInt + 1 := xI_add rfl rfl ey_85 ((by first | exact ok_21 f_9.1 | omega)) ((by first | exact ok_22 f_9.2 | omega))
          refine lv_iinc (v := y_85) (lv' := [(4, .int y_85), (5, .int y_20), (0, .ref (a 6)), (1, .int p0), (2, .int p1), (3, .int p2)]) hx hb dX3_valueOf_166 hl (k := 1) rfl (by rw [ey_85]; rfl) (lt_b rfl) rfl (fun ls hl => ?_)
          refine lv_goto (tgt := 16) hx hb dX3_valueOf_169 rfl ?_
          exact ih_5 (580 - y_85.toInt : Int).toNat ((by first | (clear ha_p0 ty_2 ty_11 ty_20 c_21 c_22 c_73; omega) | omega)) _ _ _ ⟨G_81, y_85, (Int.toNat_of_nonneg ((by first | exact ok_147 f_9.2 ty_12.2 c_13 ty_85 | omega))), ⟨(by first | exact ok_23 f_9.1 ty_85 | omega), (by first | exact ok_148 f_9.2 ty_12.2 c_13 ty_85 | omega)⟩, (hX_8.st (St_k_lValue_2_1_mk ⟨x_7, G_3, y_85, G_81, rfl, rfl, f_9, hB_G_3, ⟨y_11, ty_11, ⟨y_12, ey_12, ⟨c_13, ⟨y_19, ey_19, ⟨y_20, ey_20, (Or.inr ⟨c_21, (Or.inl ⟨c_22, ⟨r_68, G_69, hX_72, (Or.inl ⟨c_73, ⟨G_81, hX_84, ⟨y_85, ty_85, ⟨rfl, rfl⟩⟩⟩⟩)⟩⟩)⟩)⟩⟩⟩⟩⟩⟩)), hW, hB_G_81, hF, (Fr.call9 (rs := [39]) (fs := [(6, 3)]) (Fr.call9 (rs := [39]) (fs := [(6, 3)]) (Fr.call9 (rs := [39]) (fs := [(6, 3)]) Fr.rf hq_4 rfl rfl) hq_70 rfl rfl) hq_82 rfl rfl), hS, lv_sub hl [0, 2, 3, 4, 5] rfl⟩
    · have c_21 : y_20.toInt = 201 := xI_eq rfl rfl c_21
      refine lv_aload_n hx hb dX3_valueOf_56 rfl (lv_at hl 2 rfl) ?_
      refine lv_aload_n hx hb dX3_valueOf_57 rfl (lv_at hl 2 rfl) ?_
      refine S_getV (n := 2) (C := RX3) (T := TX3) (N := 5) hx hb hg iX3 hown hK hW kd_6 rfl 4 (lt_b rfl) (hg (Cond.fieldLink RX3 21 "SlabWalk$Lines" "paving" "LSlabWalk$Paving;") m353) (fun _ h9 => h9) rfl ((((hq_4.r9 6 4 rfl rfl).trans (congrFun (congrFun (congrArg (fun q => q.2.2) eG_1) 6) 4))).trans (hv_6_4)) dX3_valueOf_58 ?_
      refine S_getR (n := 27) (C := RX6) (T := TX6) (N := 17) hx hb hg iX6 hown hK hW kd_2 rfl 7 (lt_b rfl) (hg (Cond.fieldLink RX3 72 "SlabWalk$Paving" "code" "[I") m182) (fun _ h9 => h9) rfl dX3_valueOf_61 ?_
      refine lv_iload hx hb dX3_valueOf_64 (lv_at hl 1 rfl) ?_
      refine S_iald hx hb hK hW kd_27 (vin ((by first | exact f_9.1 | omega)) ((by first | exact ok_146 f_9.2 ty_12.2 c_13 | omega))) dX3_valueOf_66 (fun y_86 ey_86 => ?_)
      refine lv_bipush (v := 10) hx hb dX3_valueOf_67 (by decide) ?_
      refine lv_ishr hx hb dX3_valueOf_69 ?_
      refine lv_topi (fun y_87 ey_87 => ?_)
      refine S_callv (va_runV (As := [.int y_87]) (rest := []) ⟨hx, hb, hml, hown, hts⟩ (k_lPush l D k A a z G_3 y_87 ) (cwV 1 hts (gd_V hgd m925 m927 m29 m122 m928) rfl rfl rfl hd_X3_push ⟨Nat.le_of_ble_eq_true rfl, Nat.le_of_ble_eq_true rfl⟩) (pre_W hW hB_G_3 hK hZ hS kd_6 rfl) rfl rfl hl.1 rfl (lv_room (Nat.le_of_ble_eq_true rfl)) dX3_valueOf_70 ⟨Nat.le_of_ble_eq_true rfl, Nat.le_of_ble_eq_true rfl⟩) hS (fun G_89 H locs hpo hW hS => ?_)
      have hX_92 : P_lPush y_87 G_3 G_89 := hpo
      obtain ⟨hB_G_89, hq_90, -⟩ := hpo
      have hF := hF.call9 hq_90 rfl rfl
      refine lv_goto (tgt := 166) hx hb dX3_valueOf_73 rfl ?_
      obtain ⟨y_93, ey_93⟩ : ∃ q, q = x_7 + 1 := ⟨_, rfl⟩
      have ty_93 : y_93.toInt = x_7.toInt + 1 := xI_add rfl rfl ey_93 ((by first | exact ok_21 f_9.1 | omega)) ((by first | exact ok_22 f_9.2 | omega))
      refine lv_iinc (v := y_93) (lv' := [(4, .int y_93), (5, .int y_20), (0, .ref (a 6)), (1, .int p0), (2, .int p1), (3, .int p2)]) hx hb dX3_valueOf_166 hl (k := 1) rfl (by rw [ey_93]; rfl) (lt_b rfl) rfl (fun ls hl => ?_)
      refine lv_goto (tgt := 16) hx hb dX3_valueOf_169 rfl ?_
      exact ih_5 (580 - y_93.toInt : Int).toNat ((by first | (clear ha_p0 ty_2 ty_11 ty_20 c_21; omega) | omega)) _ _ _ ⟨G_89, y_93, (Int.toNat_of_nonneg ((by first | exact ok_147 f_9.2 ty_12.2 c_13 ty_93 | omega))), ⟨(by first | exact ok_23 f_9.1 ty_93 | omega), (by first | exact ok_148 f_9.2 ty_12.2 c_13 ty_93 | omega)⟩, (hX_8.st (St_k_lValue_2_1_mk ⟨x_7, G_3, y_93, G_89, rfl, rfl, f_9, hB_G_3, ⟨y_11, ty_11, ⟨y_12, ey_12, ⟨c_13, ⟨y_19, ey_19, ⟨y_20, ey_20, (Or.inl ⟨c_21, ⟨y_86, ey_86, ⟨y_87, ey_87, ⟨G_89, hX_92, ⟨y_93, ty_93, ⟨rfl, rfl⟩⟩⟩⟩⟩⟩)⟩⟩⟩⟩⟩⟩)), hW, hB_G_89, hF, (Fr.call9 (rs := [39]) (fs := [(6, 3)]) (Fr.call9 (rs := [39]) (fs := [(6, 3)]) Fr.rf hq_4 rfl rfl) hq_90 rfl rfl), hS, lv_sub hl [0, 2, 3, 4, 5] rfl⟩

set_option maxHeartbeats 4000000 in
set_option maxRecDepth 100000 in
theorem k_lFind_2 (l : Launch) (D : va_G) (k : KT) (A : Nat → Prop) (a : Nat → Nat) (z : SK) (G : GS) (p0 : Int32) (p1 : Int32) (hv_6_4 : G.2.2 6 4 = 2) : Met l yX3_findFor (WS yX3_findFor cX3_findFor 7 none) ({ frames := 3, cells := 0, slots := 0, locals := 70 }) (va_Pc [.ref (a 6), .int p0, .int p1] (cW D k A a z G)) (va_Qv (fun (G1 : GS) => P_lFind_2 p0 p1 G G1) (fun (G1 : GS) t => Wd D k A a G1 t.heap) A) 0 0 A := by
  refine Met.ofW (cc := cX3_findFor) (maxL := 7) (ret := none) (by decide) rfl ?_
  intro p e s m args below meth c s₁ B hml hv
  obtain ⟨rfl, hW, hB_G, hK, hZ⟩ := hv
  have hx := B.exec
  have hb := B.bytes
  have hr := B.returns
  have hts := atoms_spec (ws := WS yX3_findFor cX3_findFor 7 none) B.pre
  have hgd : ∀ w ∈ gd, w ∈ WS yX3_findFor cX3_findFor 7 none := fun w h => List.mem_cons_of_mem _ h
  have hg : ∀ w ∈ gd, w.before _ s = true := fun w h => hts w (hgd w h)
  have hown : s.vm.findClass RX3 = some m.cls := findClass_of_methodNamed B.named
  have hS : va_S A s.heap s.heap [] := va_S.rf
  have hF : Fr [37, 38, 39] [(6, 3)] G G := Fr.rf
  have hl := lv_entry ([.ref (a 6), .int p0, .int p1]) (n := 7) (Nat.le_of_ble_eq_true rfl)
  rw [lg_entry_eq]
  generalize (lg_sl ([.ref (a 6), .int p0, .int p1]) ++ List.replicate (7 - (lg_sl ([.ref (a 6), .int p0, .int p1])).length) Slot.unset).toArray = ls at hl ⊢
  have hl : lv_has ls 7 [(0, .ref (a 6)), (1, .int p0), (2, .int p1)] := hl
  refine lv_aload_n hx hb dX3_findFor_0 rfl (lv_at hl 0 rfl) ?_
  refine S_getV (n := 2) (C := RX3) (T := TX3) (N := 5) hx hb hg iX3 hown hK hW kd_6 rfl 4 (lt_b rfl) (hg (Cond.fieldLink RX3 21 "SlabWalk$Lines" "paving" "LSlabWalk$Paving;") m353) (fun _ h9 => h9) rfl hv_6_4 dX3_findFor_1 ?_
  refine lv_iload_n hx hb dX3_findFor_4 rfl (lv_at hl 1 rfl) ?_
  refine S_calli (va_runV (As := [.int p0]) (rest := []) ⟨hx, hb, hml, hown, hts⟩ (k_hasStreet_2 l D k A a z G p0 ) (cwV 1 hts (gd_V hgd m919 m887 m888 m118 m889) rfl rfl rfl hd_X6_hasStreet ⟨Nat.le_of_ble_eq_true rfl, Nat.le_of_ble_eq_true rfl⟩) (pre_W hW hB_G hK hZ hS kd_2 rfl) rfl rfl hl.1 rfl (lv_room (Nat.le_of_ble_eq_true rfl)) dX3_findFor_5 ⟨Nat.le_of_ble_eq_true rfl, Nat.le_of_ble_eq_true rfl⟩) hS (fun r_1 G_2 H locs hpo hW hS => ?_)
  have hX_5 : P_hasStreet_2 p0 G r_1 G_2 := hpo
  obtain ⟨hB_G_2, hq_3, f_6, hp_4, -⟩ := hpo
  have hF := hF.call9 hq_3 rfl rfl
  refine lv_if_eq (tgt := 21) hx hb dX3_findFor_8 rfl (fun c_7 => ?_) (fun c_7 => ?_)
  · have c_7 : r_1.toInt = 0 := xI_eq rfl rfl c_7
    exact W.vret hx hb hr (fun t ht _ => ⟨⟨G_2, rfl, (P_lFind_2_mk ⟨hB_G_2, hF, ⟨r_1, G_2, hX_5, (Or.inl ⟨c_7, rfl⟩)⟩⟩), wd_t ht hW⟩, hS.F ht⟩) hS.2.2 dX3_findFor_21
  · have c_7 : r_1.toInt ≠ 0 := xI_ne rfl rfl c_7
    refine lv_aload_n hx hb dX3_findFor_11 rfl (lv_at hl 0 rfl) ?_
    refine S_getR (n := 38) (C := RX3) (T := TX3) (N := 5) hx hb hg iX3 hown hK hW kd_6 rfl 1 (lt_b rfl) (hg (Cond.fieldLink RX3 15 "SlabWalk$Lines" "foundOn" "[I") m350) (fun _ h9 => h9) rfl dX3_findFor_12 ?_
    refine lv_iload_n hx hb dX3_findFor_15 rfl (lv_at hl 1 rfl) ?_
    refine S_iald hx hb hK hW kd_38 (vin ((by first | exact ok_3 f_6.1 f_6.2 hp_4 c_7 | omega)) ((by first | exact ok_4 f_6.1 f_6.2 hp_4 c_7 | omega))) dX3_findFor_16 (fun y_8 ey_8 => ?_)
    refine lv_iload_n hx hb dX3_findFor_17 rfl (lv_at hl 2 rfl) ?_
    refine lv_icmp_ne (tgt := 22) hx hb dX3_findFor_18 rfl (fun c_9 => ?_) (fun c_9 => ?_)
    · have c_9 : y_8.toInt ≠ p1.toInt := xI_ne rfl rfl c_9
      refine ic_0 hx hb dX3_findFor_22 ?_
      refine lv_istore_n (lv' := [(3, .int 0), (0, .ref (a 6)), (1, .int p0), (2, .int p1)]) hx hb dX3_findFor_23 rfl hl (lt_b rfl) rfl (fun ls hl => ?_)
      have qc_16 : (0 : Int32).toInt = 0 := rfl
      refine loop_N (Inv := fun n H locs ls => ∃ (G_10 : GS) (x_14 : Int32), (n : Int) = 400 - x_14.toInt ∧ (0 ≤ x_14.toInt ∧ x_14.toInt ≤ 400) ∧ Rc (St_k_lFind_2_1 p0 p1 G) (0, G_2) (x_14, G_10) ∧ Wd D k A a G_10 H ∧ Bd G_10 ∧ Fr [37, 38, 39] [(6, 3)] G G_10 ∧ Fr [37, 39] [(6, 3)] G_2 G_10 ∧ va_S A s.heap H locs ∧ lv_has ls 7 [(3, .int x_14), (0, .ref (a 6)), (1, .int p0), (2, .int p1)]) (fun n_13 H locs ls ih_12 hI => ?_) (400 - 0 : Int).toNat ⟨G_2, 0, (Int.toNat_of_nonneg ((by decide))), ⟨(by decide), (by decide)⟩, Rc.rf, hW, hB_G_2, hF, Fr.rf, hS, lv_sub hl [0, 1, 2, 3] rfl⟩
      obtain ⟨G_10, x_14, hn_18, f_17, hX_15, hW, hB_G_10, hF, hq_11, hS, hl⟩ := hI
      refine lv_iload_n hx hb dX3_findFor_24 rfl (lv_at hl 0 rfl) ?_
      refine lv_aload_n hx hb dX3_findFor_25 rfl (lv_at hl 1 rfl) ?_
      refine S_getV (n := 2) (C := RX3) (T := TX3) (N := 5) hx hb hg iX3 hown hK hW kd_6 rfl 4 (lt_b rfl) (hg (Cond.fieldLink RX3 21 "SlabWalk$Lines" "paving" "LSlabWalk$Paving;") m353) (fun _ h9 => h9) rfl ((((hq_11.r9 6 4 rfl rfl).trans (hq_3.r9 6 4 rfl rfl))).trans (hv_6_4)) dX3_findFor_26 ?_
      refine S_getR (n := 20) (C := RX6) (T := TX6) (N := 17) hx hb hg iX6 hown hK hW kd_2 rfl 0 (lt_b rfl) (hg (Cond.fieldLink RX3 37 "SlabWalk$Paving" "length" "[I") m158) (fun _ h9 => h9) rfl dX3_findFor_29 ?_
      refine lv_iload_n hx hb dX3_findFor_32 rfl (lv_at hl 2 rfl) ?_
      refine S_iald hx hb hK hW kd_20 (vin ((by first | exact ok_3 f_6.1 f_6.2 hp_4 c_7 | omega)) ((by first | exact ok_4 f_6.1 f_6.2 hp_4 c_7 | omega))) dX3_findFor_33 (fun y_19 ey_19 => ?_)
      have ty_19 : 0 ≤ y_19.toInt ∧ y_19.toInt ≤ 400 := bv_20 hB_G_10 ey_19
      refine lv_icmp_ge (tgt := 137) hx hb dX3_findFor_34 rfl (fun c_20 => ?_) (fun c_20 => ?_)
      · have c_20 : y_19.toInt ≤ x_14.toInt := xI_le rfl rfl c_20
        refine lv_aload_n hx hb dX3_findFor_137 rfl (lv_at hl 1 rfl) ?_
        refine S_getR (n := 38) (C := RX3) (T := TX3) (N := 5) hx hb hg iX3 hown hK hW kd_6 rfl 1 (lt_b rfl) (hg (Cond.fieldLink RX3 15 "SlabWalk$Lines" "foundOn" "[I") m350) (fun _ h9 => h9) rfl dX3_findFor_138 ?_
        refine lv_iload_n hx hb dX3_findFor_141 rfl (lv_at hl 2 rfl) ?_
        refine lv_iload_n hx hb dX3_findFor_142 rfl (lv_at hl 3 rfl) ?_
        refine S_iast hx hb hK hW hS kd_38 (vin ((by first | exact ok_3 f_6.1 f_6.2 hp_4 c_7 | omega)) ((by first | exact ok_4 f_6.1 f_6.2 hp_4 c_7 | omega))) dX3_findFor_143 (fun G_21 H locs eG_21 hW hS => ?_)
        have hB_G_21 : Bd G_21 := hB_G_10.put (lo := (-2147483648)) (hi := 2147483647) eG_21 rfl rfl rfl (tI_rng _).1 (tI_rng _).2 (hB_G_10.2.put eG_21 rfl)
        have hF := hF.put eG_21 (Or.inl (by decide))
        exact W.vret hx hb hr (fun t ht _ => ⟨⟨G_21, rfl, (P_lFind_2_mk ⟨hB_G_21, hF, ⟨r_1, G_2, hX_5, (Or.inr ⟨c_7, ⟨y_8, ey_8, (Or.inr ⟨c_9, ⟨x_14, G_10, hX_15, f_17, hB_G_10, hq_11, ⟨y_19, ey_19, ⟨c_20, ⟨(Fr.put (rs := [38]) (fs := []) Fr.rf eG_21 (Or.inl (by decide))), rw_ast eG_21⟩⟩⟩⟩⟩)⟩⟩)⟩⟩), wd_t ht hW⟩, hS.F ht⟩) hS.2.2 dX3_findFor_144
      · have c_20 : x_14.toInt < y_19.toInt := xI_nle rfl rfl c_20
        refine lv_aload_n hx hb dX3_findFor_37 rfl (lv_at hl 1 rfl) ?_
        refine S_getV (n := 2) (C := RX3) (T := TX3) (N := 5) hx hb hg iX3 hown hK hW kd_6 rfl 4 (lt_b rfl) (hg (Cond.fieldLink RX3 21 "SlabWalk$Lines" "paving" "LSlabWalk$Paving;") m353) (fun _ h9 => h9) rfl ((((hq_11.r9 6 4 rfl rfl).trans (hq_3.r9 6 4 rfl rfl))).trans (hv_6_4)) dX3_findFor_38 ?_
        refine lv_iload_n hx hb dX3_findFor_41 rfl (lv_at hl 2 rfl) ?_
        refine lv_iload_n hx hb dX3_findFor_42 rfl (lv_at hl 0 rfl) ?_
        refine S_calli (va_runV (As := [.int p0, .int x_14]) (rest := []) ⟨hx, hb, hml, hown, hts⟩ (k_inchAt_2 l D k A a z G_10 p0 x_14 ) (cwV 2 hts (gd_V hgd m920 m891 m892 m118 m893) rfl rfl rfl hd_X6_inchAt ⟨Nat.le_of_ble_eq_true rfl, Nat.le_of_ble_eq_true rfl⟩) (pre_W hW hB_G_10 hK hZ hS kd_2 rfl) rfl rfl hl.1 rfl (lv_room (Nat.le_of_ble_eq_true rfl)) dX3_findFor_43 ⟨Nat.le_of_ble_eq_true rfl, Nat.le_of_ble_eq_true rfl⟩) hS (fun r_22 G_23 H locs hpo hW hS => ?_)
        have hX_26 : P_inchAt_2 p0 x_14 G_10 r_22 G_23 := hpo
        obtain ⟨hB_G_23, hq_24, -⟩ := hpo
        have hF := hF.call9 hq_24 rfl rfl
        refine lv_istore (lv' := [(4, .int r_22), (3, .int x_14), (0, .ref (a 6)), (1, .int p0), (2, .int p1)]) hx hb dX3_findFor_46 hl (lt_b rfl) rfl (fun ls hl => ?_)
        refine lv_iload hx hb dX3_findFor_48 (lv_at hl 0 rfl) ?_
        refine lv_bipush (v := 13) hx hb dX3_findFor_50 (by decide) ?_
        refine lv_iand hx hb dX3_findFor_52 ?_
        refine lv_topi (fun y_27 ey_27 => ?_)
        have ty_27 := xI_and (Y := 13) rfl ey_27 (by decide)
        refine W.cut (σ := Int32) (pcJ := 62) (J := fun y H locs ls => ∃ (G_34 : GS), (0 ≤ y.toInt ∧ y.toInt ≤ 64) ∧ Jn_k_lFind_2_2 y_27 G_23 y G_34 ∧ Wd D k A a G_34 H ∧ Bd G_34 ∧ Fr [37, 38, 39] [(6, 3)] G G_34 ∧ Fr [] [] G_23 G_34 ∧ va_S A s.heap H locs ∧ lv_has ls 7 [(4, .int r_22), (3, .int x_14), (0, .ref (a 6)), (1, .int p0), (2, .int p1)]) (stJ := fun y => [.int y]) ?_ (fun hJ_35 => ?_)
        · intro y H locs ls hI
          obtain ⟨w_33, hy⟩ : ∃ q, q = y := ⟨_, rfl⟩
          subst hy
          obtain ⟨G_34, f_38, hX_37, hW, hB_G_34, hF, hq_36, hS, hl⟩ := hI
          refine lv_istore (lv' := [(5, .int w_33), (4, .int r_22), (3, .int x_14), (0, .ref (a 6)), (1, .int p0), (2, .int p1)]) hx hb dX3_findFor_62 hl (lt_b rfl) rfl (fun ls hl => ?_)
          refine ic_0 hx hb dX3_findFor_64 ?_
          refine lv_istore (lv' := [(6, .int 0), (5, .int w_33), (4, .int r_22), (3, .int x_14), (0, .ref (a 6)), (1, .int p0), (2, .int p1)]) hx hb dX3_findFor_65 hl (lt_b rfl) rfl (fun ls hl => ?_)
          have qc_46 : (0 : Int32).toInt = 0 := rfl
          refine loop_N (Inv := fun n H locs ls => ∃ (G_39 : GS) (x_43 : Int32) (x_44 : Int32), (n : Int) = 6 - x_43.toInt ∧ (0 ≤ x_43.toInt ∧ x_43.toInt ≤ 6) ∧ Rc (St_k_lFind_2_3 p1 r_22 G) (0, w_33, G_34) (x_43, x_44, G_39) ∧ Wd D k A a G_39 H ∧ Bd G_39 ∧ Fr [37, 38, 39] [(6, 3)] G G_39 ∧ Fr [39] [(6, 3)] G_34 G_39 ∧ va_S A s.heap H locs ∧ lv_has ls 7 [(6, .int x_43), (5, .int x_44), (4, .int r_22), (3, .int x_14), (0, .ref (a 6)), (1, .int p0), (2, .int p1)]) (fun n_42 H locs ls ih_41 hI => ?_) (6 - 0 : Int).toNat ⟨G_34, 0, w_33, (Int.toNat_of_nonneg ((by decide))), ⟨(by decide), (by decide)⟩, Rc.rf, hW, hB_G_34, hF, Fr.rf, hS, lv_sub hl [0, 1, 2, 3, 4, 5, 6] rfl⟩
          obtain ⟨G_39, x_43, x_44, hn_48, f_47, hX_45, hW, hB_G_39, hF, hq_40, hS, hl⟩ := hI
          refine lv_iload hx hb dX3_findFor_67 (lv_at hl 0 rfl) ?_
          refine lv_aload_n hx hb dX3_findFor_69 rfl (lv_at hl 4 rfl) ?_
          refine S_getV (n := 2) (C := RX3) (T := TX3) (N := 5) hx hb hg iX3 hown hK hW kd_6 rfl 4 (lt_b rfl) (hg (Cond.fieldLink RX3 21 "SlabWalk$Lines" "paving" "LSlabWalk$Paving;") m353) (fun _ h9 => h9) rfl ((((hq_40.r9 6 4 rfl rfl).trans ((hq_36.r9 6 4 rfl rfl).trans ((hq_24.r9 6 4 rfl rfl).trans ((hq_11.r9 6 4 rfl rfl).trans (hq_3.r9 6 4 rfl rfl)))))).trans (hv_6_4)) dX3_findFor_70 ?_
          have b_49 : 0 ≤ (G.1 2 11).toInt ∧ (G.1 2 11).toInt ≤ 6 := bd_2_11 hB_G
          refine S_getI (v := (G.1 2 11)) (C := RX6) (T := TX6) (N := 17) hx hb hg iX6 hown hK hW kd_2 rfl 11 (lt_b rfl) (hg (Cond.fieldLink RX3 44 "SlabWalk$Paving" "rules" "I") m193) (fun _ h9 => h9) rfl ((hq_40.i9 2 11 rfl rfl).trans ((hq_36.i9 2 11 rfl rfl).trans ((hq_24.i9 2 11 rfl rfl).trans ((hq_11.i9 2 11 rfl rfl).trans (hq_3.i9 2 11 rfl rfl))))) dX3_findFor_73 ?_
          refine lv_icmp_ge (tgt := 117) hx hb dX3_findFor_76 rfl (fun c_50 => ?_) (fun c_50 => ?_)
          · have c_50 : (G.1 2 11).toInt ≤ x_43.toInt := xI_le rfl rfl c_50
            refine lv_aload_n hx hb dX3_findFor_117 rfl (lv_at hl 4 rfl) ?_
            refine S_getR (n := 37) (C := RX3) (T := TX3) (N := 5) hx hb hg iX3 hown hK hW kd_6 rfl 0 (lt_b rfl) (hg (Cond.fieldLink RX3 9 "SlabWalk$Lines" "found" "[I") m349) (fun _ h9 => h9) rfl dX3_findFor_118 ?_
            refine lv_iload_n hx hb dX3_findFor_121 rfl (lv_at hl 5 rfl) ?_
            refine lv_sipush (v := 400) hx hb dX3_findFor_122 (by decide) ?_
            refine lv_imul hx hb dX3_findFor_125 ?_
            refine lv_topi (fun y_51 ey_51 => ?_)
            have ty_51 : y_51.toInt = p0.toInt * 400 := xI_mul rfl rfl ey_51 ((by first | exact ok_149 f_6.1 f_6.2 hp_4 c_7 | omega)) ((by first | exact ok_150 f_6.1 f_6.2 hp_4 c_7 | omega))
            refine lv_iload_n hx hb dX3_findFor_126 rfl (lv_at hl 3 rfl) ?_
            refine lv_iadd hx hb dX3_findFor_127 ?_
            refine lv_topi (fun y_52 ey_52 => ?_)
            have ty_52 : y_52.toInt = y_51.toInt + x_14.toInt := xI_add rfl rfl ey_52 ((by first | exact ok_151 f_6.1 f_6.2 hp_4 c_7 f_17.1 ty_51 | omega)) ((by first | exact ok_152 f_6.1 f_6.2 hp_4 c_7 f_17.2 ty_51 | omega))
            refine lv_iload hx hb dX3_findFor_128 (lv_at hl 1 rfl) ?_
            refine S_iast hx hb hK hW hS kd_37 (vin ((by first | exact ok_153 f_6.1 f_6.2 hp_4 c_7 f_17.1 ty_51 ty_52 | omega)) ((by first | exact ok_154 f_6.1 f_6.2 hp_4 c_7 f_17.2 ty_19.2 c_20 ty_51 ty_52 | omega))) dX3_findFor_130 (fun G_53 H locs eG_53 hW hS => ?_)
            have hB_G_53 : Bd G_53 := hB_G_39.put (lo := (-2147483648)) (hi := 2147483647) eG_53 rfl rfl rfl (tI_rng _).1 (tI_rng _).2 (hB_G_39.2.put eG_53 rfl)
            have hF := hF.put eG_53 (Or.inl (by decide))
            obtain ⟨y_54, ey_54⟩ : ∃ q, q = x_14 + 1 := ⟨_, rfl⟩
            have ty_54 : y_54.toInt = x_14.toInt + 1 := xI_add rfl rfl ey_54 ((by first | exact ok_21 f_17.1 | omega)) ((by first | exact ok_40 f_17.2 | omega))
            refine lv_iinc (v := y_54) (lv' := [(3, .int y_54), (6, .int x_43), (5, .int x_44), (4, .int r_22), (0, .ref (a 6)), (1, .int p0), (2, .int p1)]) hx hb dX3_findFor_131 hl (k := 3) rfl (by rw [ey_54]; rfl) (lt_b rfl) rfl (fun ls hl => ?_)
            refine lv_goto (tgt := 24) hx hb dX3_findFor_134 rfl ?_
            exact ih_12 (400 - y_54.toInt : Int).toNat ((by first | (clear c_9 ty_27 f_38 hn_48 f_47 b_49 c_50; omega) | omega)) _ _ _ ⟨G_53, y_54, (Int.toNat_of_nonneg ((by first | exact ok_155 f_17.2 ty_19.2 c_20 ty_54 | omega))), ⟨(by first | exact ok_23 f_17.1 ty_54 | omega), (by first | exact ok_64 f_17.2 ty_19.2 c_20 ty_54 | omega)⟩, (hX_15.st (St_k_lFind_2_1_mk ⟨x_14, G_10, y_54, G_53, rfl, rfl, f_17, hB_G_10, ⟨y_19, ey_19, ⟨c_20, ⟨r_22, G_23, hX_26, ⟨y_27, ey_27, ⟨w_33, G_34, hX_37, f_38, hB_G_34, hq_36, ⟨x_43, x_44, G_39, hX_45, f_47, hB_G_39, hq_40, ⟨c_50, ⟨y_51, ty_51, ⟨y_52, ty_52, ⟨y_54, ty_54, ⟨rfl, (Fr.put (rs := [37]) (fs := []) Fr.rf eG_53 (Or.inl (by decide))), rw_ast eG_53⟩⟩⟩⟩⟩⟩⟩⟩⟩⟩⟩⟩)), hW, hB_G_53, hF, (Fr.put (rs := [37, 39]) (fs := [(6, 3)]) (Fr.call9 (rs := [37, 39]) (fs := [(6, 3)]) (Fr.call9 (rs := [37, 39]) (fs := [(6, 3)]) (Fr.call9 (rs := [37, 39]) (fs := [(6, 3)]) (Fr.call9 (rs := [37, 39]) (fs := [(6, 3)]) Fr.rf hq_11 rfl rfl) hq_24 rfl rfl) hq_36 rfl rfl) hq_40 rfl rfl) eG_53 (Or.inl (by decide))), hS, lv_sub hl [0, 4, 5, 6] rfl⟩
          · have c_50 : x_43.toInt < (G.1 2 11).toInt := xI_nle rfl rfl c_50
            refine lv_iload hx hb dX3_findFor_79 (lv_at hl 0 rfl) ?_
            refine lv_bipush (v := 6) hx hb dX3_findFor_81 (by decide) ?_
            refine lv_icmp_ge (tgt := 117) hx hb dX3_findFor_83 rfl (fun c_55 => ?_) (fun c_55 => ?_)
            · have c_55 : 6 ≤ x_43.toInt := xI_le rfl rfl c_55
              exfalso; first | exact ok_2 b_49.2 c_50 c_55 | omega
            · have c_55 : x_43.toInt < 6 := xI_nle rfl rfl c_55
              refine lv_iload hx hb dX3_findFor_86 (lv_at hl 1 rfl) ?_
              refine lv_aload_n hx hb dX3_findFor_88 rfl (lv_at hl 4 rfl) ?_
              refine lv_iload hx hb dX3_findFor_89 (lv_at hl 0 rfl) ?_
              refine lv_iload hx hb dX3_findFor_91 (lv_at hl 2 rfl) ?_
              refine lv_iload_n hx hb dX3_findFor_93 rfl (lv_at hl 6 rfl) ?_
              refine S_calli (va_runV (As := [.int x_43, .int r_22, .int p1]) (rest := [.int x_44]) ⟨hx, hb, hml, hown, hts⟩ (k_lValue_2 l D k A a z G_39 x_43 r_22 p1 ⟨(by first | exact f_47.1 | omega), (by first | exact ok_156 f_47.2 c_55 | omega)⟩ ((((hq_40.r9 6 4 rfl rfl).trans ((hq_36.r9 6 4 rfl rfl).trans ((hq_24.r9 6 4 rfl rfl).trans ((hq_11.r9 6 4 rfl rfl).trans (hq_3.r9 6 4 rfl rfl)))))).trans (hv_6_4))) (cwV 3 hts (gd_V hgd m921 m923 m28 m122 m924) rfl rfl rfl hd_X3_valueOf ⟨Nat.le_of_ble_eq_true rfl, Nat.le_of_ble_eq_true rfl⟩) (pre_W hW hB_G_39 hK hZ hS kd_6 rfl) rfl rfl hl.1 rfl (lv_room (Nat.le_of_ble_eq_true rfl)) dX3_findFor_94 ⟨Nat.le_of_ble_eq_true rfl, Nat.le_of_ble_eq_true rfl⟩) hS (fun r_56 G_57 H locs hpo hW hS => ?_)
              have hX_60 : P_lValue_2 x_43 r_22 p1 G_39 r_56 G_57 := hpo
              obtain ⟨hB_G_57, hq_58, -⟩ := hpo
              have hF := hF.call9 hq_58 rfl rfl
              refine lv_if_eq (tgt := 107) hx hb dX3_findFor_97 rfl (fun c_61 => ?_) (fun c_61 => ?_)
              · have c_61 : r_56.toInt = 0 := xI_eq rfl rfl c_61
                refine ic_0 hx hb dX3_findFor_107 ?_
                refine lv_ior hx hb dX3_findFor_108 ?_
                refine lv_topi (fun y_62 ey_62 => ?_)
                refine lv_istore (lv' := [(5, .int y_62), (6, .int x_43), (4, .int r_22), (3, .int x_14), (0, .ref (a 6)), (1, .int p0), (2, .int p1)]) hx hb dX3_findFor_109 hl (lt_b rfl) rfl (fun ls hl => ?_)
                obtain ⟨y_63, ey_63⟩ : ∃ q, q = x_43 + 1 := ⟨_, rfl⟩
                have ty_63 : y_63.toInt = x_43.toInt + 1 := xI_add rfl rfl ey_63 ((by first | exact ok_21 f_47.1 | omega)) ((by first | exact ok_157 f_47.2 | omega))
                refine lv_iinc (v := y_63) (lv' := [(6, .int y_63), (5, .int y_62), (4, .int r_22), (3, .int x_14), (0, .ref (a 6)), (1, .int p0), (2, .int p1)]) hx hb dX3_findFor_111 hl (k := 1) rfl (by rw [ey_63]; rfl) (lt_b rfl) rfl (fun ls hl => ?_)
                refine lv_goto (tgt := 67) hx hb dX3_findFor_114 rfl ?_
                exact ih_41 (6 - y_63.toInt : Int).toNat ((by first | (clear f_6 hp_4 c_7 c_9 hn_18 f_17 ty_19 c_20 ty_27 f_38 c_61; omega) | omega)) _ _ _ ⟨G_57, y_63, y_62, (Int.toNat_of_nonneg ((by first | exact ok_158 f_47.2 c_55 ty_63 | omega))), ⟨(by first | exact ok_23 f_47.1 ty_63 | omega), (by first | exact ok_159 f_47.2 c_55 ty_63 | omega)⟩, (hX_45.st (St_k_lFind_2_3_mk ⟨x_43, x_44, G_39, y_63, y_62, G_57, rfl, rfl, f_47, hB_G_39, ⟨c_50, ⟨r_56, G_57, hX_60, (Or.inl ⟨c_61, ⟨y_62, ey_62, ⟨y_63, ty_63, ⟨rfl, rfl, rfl⟩⟩⟩⟩)⟩⟩⟩)), hW, hB_G_57, hF, (Fr.call9 (rs := [39]) (fs := [(6, 3)]) (Fr.call9 (rs := [39]) (fs := [(6, 3)]) Fr.rf hq_40 rfl rfl) hq_58 rfl rfl), hS, lv_sub hl [0, 1, 2, 3, 4, 5, 6] rfl⟩
              · have c_61 : r_56.toInt ≠ 0 := xI_ne rfl rfl c_61
                refine ic_1 hx hb dX3_findFor_100 ?_
                refine lv_iload hx hb dX3_findFor_101 (lv_at hl 0 rfl) ?_
                refine lv_ishl hx hb dX3_findFor_103 ?_
                refine lv_topi (fun y_64 ey_64 => ?_)
                have ty_64 := sh5 (Y := x_43.toInt) rfl ey_64 rfl (by first | (clear f_6 hp_4 c_7 c_9 hn_18 f_17 ty_19 c_20 ty_27 f_38 hn_48 c_61; omega) | omega) (by first | (clear f_6 hp_4 c_7 c_9 hn_18 f_17 ty_19 c_20 ty_27 f_38 hn_48 c_61; omega) | omega)
                refine lv_goto (tgt := 108) hx hb dX3_findFor_104 rfl ?_
                refine lv_ior hx hb dX3_findFor_108 ?_
                refine lv_topi (fun y_65 ey_65 => ?_)
                refine lv_istore (lv' := [(5, .int y_65), (6, .int x_43), (4, .int r_22), (3, .int x_14), (0, .ref (a 6)), (1, .int p0), (2, .int p1)]) hx hb dX3_findFor_109 hl (lt_b rfl) rfl (fun ls hl => ?_)
                obtain ⟨y_66, ey_66⟩ : ∃ q, q = x_43 + 1 := ⟨_, rfl⟩
                have ty_66 : y_66.toInt = x_43.toInt + 1 := xI_add rfl rfl ey_66 ((by first | exact ok_21 f_47.1 | omega)) ((by first | exact ok_157 f_47.2 | omega))
                refine lv_iinc (v := y_66) (lv' := [(6, .int y_66), (5, .int y_65), (4, .int r_22), (3, .int x_14), (0, .ref (a 6)), (1, .int p0), (2, .int p1)]) hx hb dX3_findFor_111 hl (k := 1) rfl (by rw [ey_66]; rfl) (lt_b rfl) rfl (fun ls hl => ?_)
                refine lv_goto (tgt := 67) hx hb dX3_findFor_114 rfl ?_
                exact ih_41 (6 - y_66.toInt : Int).toNat ((by first | (clear f_6 hp_4 c_7 c_9 hn_18 f_17 ty_19 c_20 ty_27 f_38 c_61 ty_64; omega) | omega)) _ _ _ ⟨G_57, y_66, y_65, (Int.toNat_of_nonneg ((by first | exact ok_158 f_47.2 c_55 ty_66 | omega))), ⟨(by first | exact ok_23 f_47.1 ty_66 | omega), (by first | exact ok_159 f_47.2 c_55 ty_66 | omega)⟩, (hX_45.st (St_k_lFind_2_3_mk ⟨x_43, x_44, G_39, y_66, y_65, G_57, rfl, rfl, f_47, hB_G_39, ⟨c_50, ⟨r_56, G_57, hX_60, (Or.inr ⟨c_61, ⟨y_64, ey_64, ⟨y_65, ey_65, ⟨y_66, ty_66, ⟨rfl, rfl, rfl⟩⟩⟩⟩⟩)⟩⟩⟩)), hW, hB_G_57, hF, (Fr.call9 (rs := [39]) (fs := [(6, 3)]) (Fr.call9 (rs := [39]) (fs := [(6, 3)]) Fr.rf hq_40 rfl rfl) hq_58 rfl rfl), hS, lv_sub hl [0, 1, 2, 3, 4, 5, 6] rfl⟩
        refine lv_if_eq (tgt := 61) hx hb dX3_findFor_53 rfl (fun c_67 => ?_) (fun c_67 => ?_)
        · have c_67 : y_27.toInt = 0 := xI_eq rfl rfl c_67
          refine ic_0 hx hb dX3_findFor_61 ?_
          have qc_68 : (0 : Int32).toInt = 0 := rfl
          exact hJ_35 0 _ _ _ ⟨G_23, ⟨(by decide), (by decide)⟩, (Jn_k_lFind_2_2_mk (Or.inl ⟨c_67, ⟨rfl, rfl⟩⟩)), hW, hB_G_23, hF, (Fr.rf (rs := []) (fs := [])), hS, lv_sub hl [0, 1, 2, 3, 4] rfl⟩
        · have c_67 : y_27.toInt ≠ 0 := xI_ne rfl rfl c_67
          refine lv_bipush (v := 64) hx hb dX3_findFor_56 (by decide) ?_
          refine lv_goto (tgt := 62) hx hb dX3_findFor_58 rfl ?_
          have qc_69 : (64 : Int32).toInt = 64 := rfl
          exact hJ_35 64 _ _ _ ⟨G_23, ⟨(by decide), (by decide)⟩, (Jn_k_lFind_2_2_mk (Or.inr ⟨c_67, ⟨rfl, rfl⟩⟩)), hW, hB_G_23, hF, (Fr.rf (rs := []) (fs := [])), hS, lv_sub hl [0, 1, 2, 3, 4] rfl⟩
    · have c_9 : y_8.toInt = p1.toInt := xI_eq rfl rfl c_9
      exact W.vret hx hb hr (fun t ht _ => ⟨⟨G_2, rfl, (P_lFind_2_mk ⟨hB_G_2, hF, ⟨r_1, G_2, hX_5, (Or.inr ⟨c_7, ⟨y_8, ey_8, (Or.inl ⟨c_9, rfl⟩)⟩⟩)⟩⟩), wd_t ht hW⟩, hS.F ht⟩) hS.2.2 dX3_findFor_21

set_option maxHeartbeats 4000000 in
set_option maxRecDepth 100000 in
theorem k_lIsLine_2 (l : Launch) (D : va_G) (k : KT) (A : Nat → Prop) (a : Nat → Nat) (z : SK) (G : GS) (p0 : Int32) (p1 : Int32) (p2 : Int32) (hv_6_4 : G.2.2 6 4 = 2) : Met l yX3_isLine (WS yX3_isLine cX3_isLine 4 (some .boolean)) ({ frames := 2, cells := 0, slots := 0, locals := 43 }) (va_Pc [.ref (a 6), .int p0, .int p1, .int p2] (cW D k A a z G)) (va_Qi (fun (r : Int32) (G1 : GS) => P_lIsLine_2 p0 p1 p2 G r G1) (fun (G1 : GS) t => Wd D k A a G1 t.heap) A) 0 0 A := by
  refine Met.ofW (cc := cX3_isLine) (maxL := 4) (ret := (some .boolean)) (by decide) rfl ?_
  intro p e s m args below meth c s₁ B hml hv
  obtain ⟨rfl, hW, hB_G, hK, hZ⟩ := hv
  have hx := B.exec
  have hb := B.bytes
  have hr := B.returns
  have hts := atoms_spec (ws := WS yX3_isLine cX3_isLine 4 (some .boolean)) B.pre
  have hgd : ∀ w ∈ gd, w ∈ WS yX3_isLine cX3_isLine 4 (some .boolean) := fun w h => List.mem_cons_of_mem _ h
  have hg : ∀ w ∈ gd, w.before _ s = true := fun w h => hts w (hgd w h)
  have hown : s.vm.findClass RX3 = some m.cls := findClass_of_methodNamed B.named
  have hS : va_S A s.heap s.heap [] := va_S.rf
  have hF : Fr [] [] G G := Fr.rf
  have hl := lv_entry ([.ref (a 6), .int p0, .int p1, .int p2]) (n := 4) (Nat.le_of_ble_eq_true rfl)
  rw [lg_entry_eq]
  generalize (lg_sl ([.ref (a 6), .int p0, .int p1, .int p2]) ++ List.replicate (4 - (lg_sl ([.ref (a 6), .int p0, .int p1, .int p2])).length) Slot.unset).toArray = ls at hl ⊢
  have hl : lv_has ls 4 [(0, .ref (a 6)), (1, .int p0), (2, .int p1), (3, .int p2)] := hl
  refine lv_aload_n hx hb dX3_isLine_0 rfl (lv_at hl 0 rfl) ?_
  refine S_getV (n := 2) (C := RX3) (T := TX3) (N := 5) hx hb hg iX3 hown hK hW kd_6 rfl 4 (lt_b rfl) (hg (Cond.fieldLink RX3 21 "SlabWalk$Lines" "paving" "LSlabWalk$Paving;") m353) (fun _ h9 => h9) rfl hv_6_4 dX3_isLine_1 ?_
  refine lv_iload_n hx hb dX3_isLine_4 rfl (lv_at hl 1 rfl) ?_
  refine lv_iload_n hx hb dX3_isLine_5 rfl (lv_at hl 3 rfl) ?_
  refine S_calli (va_runV (As := [.int p0, .int p2]) (rest := []) ⟨hx, hb, hml, hown, hts⟩ (k_hasInch_2 l D k A a z G p0 p2 ) (cwV 2 hts (gd_V hgd m944 m883 m884 m118 m885) rfl rfl rfl hd_X6_hasInch ⟨Nat.le_of_ble_eq_true rfl, Nat.le_of_ble_eq_true rfl⟩) (pre_W hW hB_G hK hZ hS kd_2 rfl) rfl rfl hl.1 rfl (lv_room (Nat.le_of_ble_eq_true rfl)) dX3_isLine_6 ⟨Nat.le_of_ble_eq_true rfl, Nat.le_of_ble_eq_true rfl⟩) hS (fun r_1 G_2 H locs hpo hW hS => ?_)
  have hX_5 : P_hasInch_2 p0 p2 G r_1 G_2 := hpo
  obtain ⟨hB_G_2, hq_3, f_6, hp_4, -⟩ := hpo
  have hF := hF.call9 hq_3 rfl rfl
  refine lv_if_eq (tgt := 42) hx hb dX3_isLine_9 rfl (fun c_7 => ?_) (fun c_7 => ?_)
  · have c_7 : r_1.toInt = 0 := xI_eq rfl rfl c_7
    refine ic_0 hx hb dX3_isLine_42 ?_
    exact W.zret (v := 0) hx hb hr (by decide) (fun t ht _ => ⟨⟨0, G_2, rfl, (P_lIsLine_2_mk ⟨hB_G_2, hF, ⟨by decide, by decide⟩, ⟨r_1, G_2, hX_5, (Or.inl ⟨c_7, ⟨rfl, rfl⟩⟩)⟩⟩), wd_t ht hW⟩, hS.F ht⟩) hS.2.2 dX3_isLine_43
  · have c_7 : r_1.toInt ≠ 0 := xI_ne rfl rfl c_7
    refine lv_aload_n hx hb dX3_isLine_12 rfl (lv_at hl 0 rfl) ?_
    refine S_getR (n := 37) (C := RX3) (T := TX3) (N := 5) hx hb hg iX3 hown hK hW kd_6 rfl 0 (lt_b rfl) (hg (Cond.fieldLink RX3 9 "SlabWalk$Lines" "found" "[I") m349) (fun _ h9 => h9) rfl dX3_isLine_13 ?_
    refine lv_iload_n hx hb dX3_isLine_16 rfl (lv_at hl 1 rfl) ?_
    refine lv_sipush (v := 400) hx hb dX3_isLine_17 (by decide) ?_
    refine lv_imul hx hb dX3_isLine_20 ?_
    refine lv_topi (fun y_8 ey_8 => ?_)
    have ty_8 : y_8.toInt = p0.toInt * 400 := xI_mul rfl rfl ey_8 ((by first | exact ok_9 f_6.1 f_6.2 hp_4 c_7 | omega)) ((by first | exact ok_10 f_6.1 f_6.2 hp_4 c_7 | omega))
    refine lv_iload_n hx hb dX3_isLine_21 rfl (lv_at hl 3 rfl) ?_
    refine lv_iadd hx hb dX3_isLine_22 ?_
    refine lv_topi (fun y_9 ey_9 => ?_)
    have ty_9 : y_9.toInt = y_8.toInt + p2.toInt := xI_add rfl rfl ey_9 ((by first | exact ok_11 f_6.1 f_6.2 hp_4 c_7 ty_8 | omega)) ((by first | exact ok_12 f_6.1 f_6.2 hp_4 c_7 ty_8 | omega))
    refine S_iald hx hb hK hW kd_37 (vin ((by first | exact ok_13 f_6.1 f_6.2 hp_4 c_7 ty_8 ty_9 | omega)) ((by first | exact ok_14 f_6.1 f_6.2 hp_4 c_7 ty_8 ty_9 | omega))) dX3_isLine_23 (fun y_10 ey_10 => ?_)
    refine lv_iload_n hx hb dX3_isLine_24 rfl (lv_at hl 2 rfl) ?_
    refine lv_if_ne (tgt := 33) hx hb dX3_isLine_25 rfl (fun c_11 => ?_) (fun c_11 => ?_)
    · have c_11 : p1.toInt ≠ 0 := xI_ne rfl rfl c_11
      refine lv_iload_n hx hb dX3_isLine_33 rfl (lv_at hl 2 rfl) ?_
      refine lv_iand hx hb dX3_isLine_34 ?_
      refine lv_topi (fun y_12 ey_12 => ?_)
      refine lv_if_eq (tgt := 42) hx hb dX3_isLine_35 rfl (fun c_13 => ?_) (fun c_13 => ?_)
      · have c_13 : y_12.toInt = 0 := xI_eq rfl rfl c_13
        refine ic_0 hx hb dX3_isLine_42 ?_
        exact W.zret (v := 0) hx hb hr (by decide) (fun t ht _ => ⟨⟨0, G_2, rfl, (P_lIsLine_2_mk ⟨hB_G_2, hF, ⟨by decide, by decide⟩, ⟨r_1, G_2, hX_5, (Or.inr ⟨c_7, ⟨y_8, ty_8, ⟨y_9, ty_9, ⟨y_10, ey_10, (Or.inr ⟨c_11, ⟨y_12, ey_12, (Or.inl ⟨c_13, ⟨rfl, rfl⟩⟩)⟩⟩)⟩⟩⟩⟩)⟩⟩), wd_t ht hW⟩, hS.F ht⟩) hS.2.2 dX3_isLine_43
      · have c_13 : y_12.toInt ≠ 0 := xI_ne rfl rfl c_13
        refine ic_1 hx hb dX3_isLine_38 ?_
        refine lv_goto (tgt := 43) hx hb dX3_isLine_39 rfl ?_
        exact W.zret (v := 1) hx hb hr (by decide) (fun t ht _ => ⟨⟨1, G_2, rfl, (P_lIsLine_2_mk ⟨hB_G_2, hF, ⟨by decide, by decide⟩, ⟨r_1, G_2, hX_5, (Or.inr ⟨c_7, ⟨y_8, ty_8, ⟨y_9, ty_9, ⟨y_10, ey_10, (Or.inr ⟨c_11, ⟨y_12, ey_12, (Or.inr ⟨c_13, ⟨rfl, rfl⟩⟩)⟩⟩)⟩⟩⟩⟩)⟩⟩), wd_t ht hW⟩, hS.F ht⟩) hS.2.2 dX3_isLine_43
    · have c_11 : p1.toInt = 0 := xI_eq rfl rfl c_11
      refine lv_bipush (v := 64) hx hb dX3_isLine_28 (by decide) ?_
      refine lv_goto (tgt := 34) hx hb dX3_isLine_30 rfl ?_
      refine lv_iand hx hb dX3_isLine_34 ?_
      refine lv_topi (fun y_14 ey_14 => ?_)
      have ty_14 := xI_and (Y := 64) rfl ey_14 (by decide)
      refine lv_if_eq (tgt := 42) hx hb dX3_isLine_35 rfl (fun c_15 => ?_) (fun c_15 => ?_)
      · have c_15 : y_14.toInt = 0 := xI_eq rfl rfl c_15
        refine ic_0 hx hb dX3_isLine_42 ?_
        exact W.zret (v := 0) hx hb hr (by decide) (fun t ht _ => ⟨⟨0, G_2, rfl, (P_lIsLine_2_mk ⟨hB_G_2, hF, ⟨by decide, by decide⟩, ⟨r_1, G_2, hX_5, (Or.inr ⟨c_7, ⟨y_8, ty_8, ⟨y_9, ty_9, ⟨y_10, ey_10, (Or.inl ⟨c_11, ⟨y_14, ey_14, (Or.inl ⟨c_15, ⟨rfl, rfl⟩⟩)⟩⟩)⟩⟩⟩⟩)⟩⟩), wd_t ht hW⟩, hS.F ht⟩) hS.2.2 dX3_isLine_43
      · have c_15 : y_14.toInt ≠ 0 := xI_ne rfl rfl c_15
        refine ic_1 hx hb dX3_isLine_38 ?_
        refine lv_goto (tgt := 43) hx hb dX3_isLine_39 rfl ?_
        exact W.zret (v := 1) hx hb hr (by decide) (fun t ht _ => ⟨⟨1, G_2, rfl, (P_lIsLine_2_mk ⟨hB_G_2, hF, ⟨by decide, by decide⟩, ⟨r_1, G_2, hX_5, (Or.inr ⟨c_7, ⟨y_8, ty_8, ⟨y_9, ty_9, ⟨y_10, ey_10, (Or.inl ⟨c_11, ⟨y_14, ey_14, (Or.inr ⟨c_15, ⟨rfl, rfl⟩⟩)⟩⟩)⟩⟩⟩⟩)⟩⟩), wd_t ht hW⟩, hS.F ht⟩) hS.2.2 dX3_isLine_43

set_option maxHeartbeats 4000000 in
set_option maxRecDepth 100000 in
theorem k_lIsLawful_2 (l : Launch) (D : va_G) (k : KT) (A : Nat → Prop) (a : Nat → Nat) (z : SK) (G : GS) (p0 : Int32) (p1 : Int32) (p2 : Int32) (p3 : Int32) (hv_6_4 : G.2.2 6 4 = 2) : Met l yX3_isLawful (WS yX3_isLawful cX3_isLawful 6 (some .boolean)) ({ frames := 3, cells := 0, slots := 0, locals := 66 }) (va_Pc [.ref (a 6), .int p0, .int p1, .int p2, .int p3] (cW D k A a z G)) (va_Qi (fun (r : Int32) (G1 : GS) => P_lIsLawful_2 p0 p1 p2 p3 G r G1) (fun (G1 : GS) t => Wd D k A a G1 t.heap) A) 0 0 A := by
  refine Met.ofW (cc := cX3_isLawful) (maxL := 6) (ret := (some .boolean)) (by decide) rfl ?_
  intro p e s m args below meth c s₁ B hml hv
  obtain ⟨rfl, hW, hB_G, hK, hZ⟩ := hv
  have hx := B.exec
  have hb := B.bytes
  have hr := B.returns
  have hts := atoms_spec (ws := WS yX3_isLawful cX3_isLawful 6 (some .boolean)) B.pre
  have hgd : ∀ w ∈ gd, w ∈ WS yX3_isLawful cX3_isLawful 6 (some .boolean) := fun w h => List.mem_cons_of_mem _ h
  have hg : ∀ w ∈ gd, w.before _ s = true := fun w h => hts w (hgd w h)
  have hown : s.vm.findClass RX3 = some m.cls := findClass_of_methodNamed B.named
  have hS : va_S A s.heap s.heap [] := va_S.rf
  have hF : Fr [] [] G G := Fr.rf
  have hl := lv_entry ([.ref (a 6), .int p0, .int p1, .int p2, .int p3]) (n := 6) (Nat.le_of_ble_eq_true rfl)
  rw [lg_entry_eq]
  generalize (lg_sl ([.ref (a 6), .int p0, .int p1, .int p2, .int p3]) ++ List.replicate (6 - (lg_sl ([.ref (a 6), .int p0, .int p1, .int p2, .int p3])).length) Slot.unset).toArray = ls at hl ⊢
  have hl : lv_has ls 6 [(0, .ref (a 6)), (1, .int p0), (2, .int p1), (3, .int p2), (4, .int p3)] := hl
  refine lv_aload_n hx hb dX3_isLawful_0 rfl (lv_at hl 0 rfl) ?_
  refine S_getV (n := 2) (C := RX3) (T := TX3) (N := 5) hx hb hg iX3 hown hK hW kd_6 rfl 4 (lt_b rfl) (hg (Cond.fieldLink RX3 21 "SlabWalk$Lines" "paving" "LSlabWalk$Paving;") m353) (fun _ h9 => h9) rfl hv_6_4 dX3_isLawful_1 ?_
  refine lv_iload_n hx hb dX3_isLawful_4 rfl (lv_at hl 1 rfl) ?_
  refine lv_iload_n hx hb dX3_isLawful_5 rfl (lv_at hl 2 rfl) ?_
  refine lv_iload hx hb dX3_isLawful_6 (lv_at hl 4 rfl) ?_
  refine S_calli (va_runV (As := [.int p0, .int p1, .int p3]) (rest := []) ⟨hx, hb, hml, hown, hts⟩ (k_stands_2 l D k A a z G p0 p1 p3 ) (cwV 3 hts (gd_V hgd m965 m966 m967 m118 m968) rfl rfl rfl hd_X6_stands ⟨Nat.le_of_ble_eq_true rfl, Nat.le_of_ble_eq_true rfl⟩) (pre_W hW hB_G hK hZ hS kd_2 rfl) rfl rfl hl.1 rfl (lv_room (Nat.le_of_ble_eq_true rfl)) dX3_isLawful_8 ⟨Nat.le_of_ble_eq_true rfl, Nat.le_of_ble_eq_true rfl⟩) hS (fun r_1 G_2 H locs hpo hW hS => ?_)
  have hX_5 : P_stands_2 p0 p1 p3 G r_1 G_2 := hpo
  obtain ⟨hB_G_2, hq_3, f_6, hp_4, -⟩ := hpo
  have hF := hF.call9 hq_3 rfl rfl
  refine lv_if_ne (tgt := 16) hx hb dX3_isLawful_11 rfl (fun c_7 => ?_) (fun c_7 => ?_)
  · have c_7 : r_1.toInt ≠ 0 := xI_ne rfl rfl c_7
    refine lv_iload hx hb dX3_isLawful_16 (lv_at hl 4 rfl) ?_
    refine lv_istore (lv' := [(5, .int p3), (0, .ref (a 6)), (1, .int p0), (2, .int p1), (3, .int p2), (4, .int p3)]) hx hb dX3_isLawful_18 hl (lt_b rfl) rfl (fun ls hl => ?_)
    refine loop_N (Inv := fun n H locs ls => ∃ (G_8 : GS) (x_12 : Int32), (n : Int) = 412 - x_12.toInt ∧ (0 ≤ x_12.toInt ∧ x_12.toInt ≤ 412) ∧ Rc (St_k_lIsLawful_2_1 p0 p1 p2 p3) (p3, G_2) (x_12, G_8) ∧ Wd D k A a G_8 H ∧ Bd G_8 ∧ Fr [] [] G G_8 ∧ Fr [] [] G_2 G_8 ∧ va_S A s.heap H locs ∧ lv_has ls 6 [(5, .int x_12), (0, .ref (a 6)), (1, .int p0), (2, .int p1), (3, .int p2), (4, .int p3)]) (fun n_11 H locs ls ih_10 hI => ?_) (412 - p3.toInt : Int).toNat ⟨G_2, p3, (Int.toNat_of_nonneg ((by first | exact ok_160 f_6.1 f_6.2 hp_4 c_7 | omega))), ⟨(by first | exact ok_161 f_6.1 f_6.2 hp_4 c_7 | omega), (by first | exact ok_162 f_6.1 f_6.2 hp_4 c_7 | omega)⟩, Rc.rf, hW, hB_G_2, hF, Fr.rf, hS, lv_sub hl [0, 1, 2, 3, 4, 5] rfl⟩
    obtain ⟨G_8, x_12, hn_15, f_14, hX_13, hW, hB_G_8, hF, hq_9, hS, hl⟩ := hI
    refine lv_iload hx hb dX3_isLawful_20 (lv_at hl 0 rfl) ?_
    refine lv_iload hx hb dX3_isLawful_22 (lv_at hl 5 rfl) ?_
    refine lv_aload_n hx hb dX3_isLawful_24 rfl (lv_at hl 1 rfl) ?_
    refine S_getV (n := 2) (C := RX3) (T := TX3) (N := 5) hx hb hg iX3 hown hK hW kd_6 rfl 4 (lt_b rfl) (hg (Cond.fieldLink RX3 21 "SlabWalk$Lines" "paving" "LSlabWalk$Paving;") m353) (fun _ h9 => h9) rfl ((((hq_9.r9 6 4 rfl rfl).trans (hq_3.r9 6 4 rfl rfl))).trans (hv_6_4)) dX3_isLawful_25 ?_
    refine S_getR (n := 22) (C := RX6) (T := TX6) (N := 17) hx hb hg iX6 hown hK hW kd_2 rfl 2 (lt_b rfl) (hg (Cond.fieldLink RX3 60 "SlabWalk$Paving" "foot" "[I") m164) (fun _ h9 => h9) rfl dX3_isLawful_28 ?_
    refine lv_iload_n hx hb dX3_isLawful_31 rfl (lv_at hl 2 rfl) ?_
    refine S_iald hx hb hK hW kd_22 (vin ((by first | exact ok_163 f_6.1 f_6.2 hp_4 c_7 | omega)) ((by first | exact ok_164 f_6.1 f_6.2 hp_4 c_7 | omega))) dX3_isLawful_32 (fun y_16 ey_16 => ?_)
    have ty_16 : 0 ≤ y_16.toInt ∧ y_16.toInt ≤ 12 := bv_22 hB_G_8 ey_16
    refine lv_iadd hx hb dX3_isLawful_33 ?_
    refine lv_topi (fun y_17 ey_17 => ?_)
    have ty_17 : y_17.toInt = p3.toInt + y_16.toInt := xI_add rfl rfl ey_17 ((by first | exact ok_165 f_6.1 f_6.2 hp_4 c_7 ty_16.1 | omega)) ((by first | exact ok_166 f_6.1 f_6.2 hp_4 c_7 ty_16.2 | omega))
    refine lv_icmp_ge (tgt := 56) hx hb dX3_isLawful_34 rfl (fun c_18 => ?_) (fun c_18 => ?_)
    · have c_18 : y_17.toInt ≤ x_12.toInt := xI_le rfl rfl c_18
      refine ic_1 hx hb dX3_isLawful_56 ?_
      exact W.zret (v := 1) hx hb hr (by decide) (fun t ht _ => ⟨⟨1, G_8, rfl, (P_lIsLawful_2_mk ⟨hB_G_8, hF, ⟨by decide, by decide⟩, ⟨r_1, G_2, hX_5, (Or.inr ⟨c_7, ⟨x_12, G_8, hX_13, f_14, hB_G_8, hq_9, ⟨y_16, ey_16, ⟨y_17, ty_17, (Or.inl ⟨c_18, ⟨rfl, rfl⟩⟩)⟩⟩⟩⟩)⟩⟩), wd_t ht hW⟩, hS.F ht⟩) hS.2.2 dX3_isLawful_57
    · have c_18 : x_12.toInt < y_17.toInt := xI_nle rfl rfl c_18
      refine lv_aload_n hx hb dX3_isLawful_37 rfl (lv_at hl 1 rfl) ?_
      refine lv_iload_n hx hb dX3_isLawful_38 rfl (lv_at hl 3 rfl) ?_
      refine lv_iload_n hx hb dX3_isLawful_39 rfl (lv_at hl 4 rfl) ?_
      refine lv_iload hx hb dX3_isLawful_40 (lv_at hl 0 rfl) ?_
      refine S_calli (va_runV (As := [.int p1, .int p2, .int x_12]) (rest := []) ⟨hx, hb, hml, hown, hts⟩ (k_lIsLine_2 l D k A a z G_8 p1 p2 x_12 ((((hq_9.r9 6 4 rfl rfl).trans (hq_3.r9 6 4 rfl rfl))).trans (hv_6_4))) (cwV 3 hts (gd_V hgd m970 m941 m942 m122 m943) rfl rfl rfl hd_X3_isLine ⟨Nat.le_of_ble_eq_true rfl, Nat.le_of_ble_eq_true rfl⟩) (pre_W hW hB_G_8 hK hZ hS kd_6 rfl) rfl rfl hl.1 rfl (lv_room (Nat.le_of_ble_eq_true rfl)) dX3_isLawful_42 ⟨Nat.le_of_ble_eq_true rfl, Nat.le_of_ble_eq_true rfl⟩) hS (fun r_19 G_20 H locs hpo hW hS => ?_)
      have hX_23 : P_lIsLine_2 p1 p2 x_12 G_8 r_19 G_20 := hpo
      obtain ⟨hB_G_20, hq_21, f_24, -⟩ := hpo
      have hF := hF.call9 hq_21 rfl rfl
      refine lv_if_eq (tgt := 50) hx hb dX3_isLawful_45 rfl (fun c_25 => ?_) (fun c_25 => ?_)
      · have c_25 : r_19.toInt = 0 := xI_eq rfl rfl c_25
        obtain ⟨y_26, ey_26⟩ : ∃ q, q = x_12 + 1 := ⟨_, rfl⟩
        have ty_26 : y_26.toInt = x_12.toInt + 1 := xI_add rfl rfl ey_26 ((by first | exact ok_21 f_14.1 | omega)) ((by first | exact ok_167 f_14.2 | omega))
        refine lv_iinc (v := y_26) (lv' := [(5, .int y_26), (0, .ref (a 6)), (1, .int p0), (2, .int p1), (3, .int p2), (4, .int p3)]) hx hb dX3_isLawful_50 hl (k := 0) rfl (by rw [ey_26]; rfl) (lt_b rfl) rfl (fun ls hl => ?_)
        refine lv_goto (tgt := 20) hx hb dX3_isLawful_53 rfl ?_
        exact ih_10 (412 - y_26.toInt : Int).toNat ((by first | (clear f_6 c_7 f_24 c_25; omega) | omega)) _ _ _ ⟨G_20, y_26, (Int.toNat_of_nonneg ((by first | exact ok_168 f_6.1 f_6.2 hp_4 c_7 f_14.2 ty_16.2 ty_17 c_18 ty_26 | omega))), ⟨(by first | exact ok_23 f_14.1 ty_26 | omega), (by first | exact ok_169 f_6.1 f_6.2 hp_4 c_7 f_14.2 ty_16.2 ty_17 c_18 ty_26 | omega)⟩, (hX_13.st (St_k_lIsLawful_2_1_mk ⟨x_12, G_8, y_26, G_20, rfl, rfl, f_14, hB_G_8, ⟨y_16, ey_16, ⟨y_17, ty_17, ⟨c_18, ⟨r_19, G_20, hX_23, ⟨c_25, ⟨y_26, ty_26, ⟨rfl, rfl⟩⟩⟩⟩⟩⟩⟩⟩)), hW, hB_G_20, hF, (Fr.call9 (rs := []) (fs := []) (Fr.call9 (rs := []) (fs := []) Fr.rf hq_9 rfl rfl) hq_21 rfl rfl), hS, lv_sub hl [0, 1, 2, 3, 4, 5] rfl⟩
      · have c_25 : r_19.toInt ≠ 0 := xI_ne rfl rfl c_25
        refine ic_0 hx hb dX3_isLawful_48 ?_
        exact W.zret (v := 0) hx hb hr (by decide) (fun t ht _ => ⟨⟨0, G_20, rfl, (P_lIsLawful_2_mk ⟨hB_G_20, hF, ⟨by decide, by decide⟩, ⟨r_1, G_2, hX_5, (Or.inr ⟨c_7, ⟨x_12, G_8, hX_13, f_14, hB_G_8, hq_9, ⟨y_16, ey_16, ⟨y_17, ty_17, (Or.inr ⟨c_18, ⟨r_19, G_20, hX_23, ⟨c_25, ⟨rfl, rfl⟩⟩⟩⟩)⟩⟩⟩⟩)⟩⟩), wd_t ht hW⟩, hS.F ht⟩) hS.2.2 dX3_isLawful_49
  · have c_7 : r_1.toInt = 0 := xI_eq rfl rfl c_7
    refine ic_0 hx hb dX3_isLawful_14 ?_
    exact W.zret (v := 0) hx hb hr (by decide) (fun t ht _ => ⟨⟨0, G_2, rfl, (P_lIsLawful_2_mk ⟨hB_G_2, hF, ⟨by decide, by decide⟩, ⟨r_1, G_2, hX_5, (Or.inl ⟨c_7, ⟨rfl, rfl⟩⟩)⟩⟩), wd_t ht hW⟩, hS.F ht⟩) hS.2.2 dX3_isLawful_15

theorem m382 : Cond.fieldLink RX0 37 "SlabWalk$Course" "most" "I" ∈ gd := gdc_2_1 10 rfl gw_fieldLink
theorem m390 : Cond.fieldLink RX0 50 "SlabWalk$Course" "last" "I" ∈ gd := gdc_2_2 2 rfl gw_fieldLink
theorem m1006 : Cond.methodLink RX0 62 Lib.Math.min.name ∈ gd := gdc_4_10 10 rfl gw_methodLink
noncomputable def rbX0_lastFirst_0 : List (Nat × List Nat) := [(0, [42]), (1, [180, 0, 37]), (4, [4]), (5, [100]), (6, [42]), (7, [180, 0, 50]), (10, [184, 0, 62]), (13, [172])]
theorem rcX0_lastFirst_0 : dgo (lb cX0_lastFirst) 0 rbX0_lastFirst_0 = true := by decide +kernel
theorem dX0_lastFirst_0 : decode cX0_lastFirst 0 = .ok (.aload_n 0, 1) := dk_42 (dw rcX0_lastFirst_0 0 rfl)
theorem dX0_lastFirst_1 : decode cX0_lastFirst 1 = .ok (.getfield 37, 3) := dk_180 (dw rcX0_lastFirst_0 1 rfl) rfl
theorem dX0_lastFirst_4 : decode cX0_lastFirst 4 = .ok (.iconst 1, 1) := dk_4 (dw rcX0_lastFirst_0 2 rfl)
theorem dX0_lastFirst_5 : decode cX0_lastFirst 5 = .ok (.isub, 1) := dk_100 (dw rcX0_lastFirst_0 3 rfl)
theorem dX0_lastFirst_6 : decode cX0_lastFirst 6 = .ok (.aload_n 0, 1) := dk_42 (dw rcX0_lastFirst_0 4 rfl)
theorem dX0_lastFirst_7 : decode cX0_lastFirst 7 = .ok (.getfield 50, 3) := dk_180 (dw rcX0_lastFirst_0 5 rfl) rfl
theorem dX0_lastFirst_10 : decode cX0_lastFirst 10 = .ok (.invokestatic 62, 3) := dk_184 (dw rcX0_lastFirst_0 6 rfl) rfl
theorem dX0_lastFirst_13 : decode cX0_lastFirst 13 = .ok (.ireturn, 1) := dk_172 (dw rcX0_lastFirst_0 7 rfl)
set_option maxHeartbeats 4000000 in
set_option maxRecDepth 100000 in
theorem k_cFirst (l : Launch) (D : va_G) (k : KT) (A : Nat → Prop) (a : Nat → Nat) (z : SK) (G : GS)  (hci : (G.1 7 6).toInt ≤ 399 ∧ (G.1 7 3).toInt ≤ (G.1 7 4).toInt ∧ ((G.1 7 7).toInt ≤ 0 ∨ (G.1 7 7).toInt + (G.1 7 4).toInt ≤ (G.1 7 6).toInt + 1)) : Met l yX0_lastFirst (WS yX0_lastFirst cX0_lastFirst 1 (some .int)) ({ frames := 1, cells := 0, slots := 0, locals := 13 }) (va_Pc [.ref (a 7)] (cW D k A a z G)) (va_Qi (fun (r : Int32) (G1 : GS) => P_cFirst G r G1) (fun (G1 : GS) t => Wd D k A a G1 t.heap) A) 0 0 A := by
  refine Met.ofW (cc := cX0_lastFirst) (maxL := 1) (ret := (some .int)) (by decide) rfl ?_
  intro p e s m args below meth c s₁ B hml hv
  obtain ⟨rfl, hW, hB_G, hK, hZ⟩ := hv
  have hx := B.exec
  have hb := B.bytes
  have hr := B.returns
  have hts := atoms_spec (ws := WS yX0_lastFirst cX0_lastFirst 1 (some .int)) B.pre
  have hgd : ∀ w ∈ gd, w ∈ WS yX0_lastFirst cX0_lastFirst 1 (some .int) := fun w h => List.mem_cons_of_mem _ h
  have hg : ∀ w ∈ gd, w.before _ s = true := fun w h => hts w (hgd w h)
  have hown : s.vm.findClass RX0 = some m.cls := findClass_of_methodNamed B.named
  have hS : va_S A s.heap s.heap [] := va_S.rf
  have hF : Fr [] [] G G := Fr.rf
  have hl := lv_entry ([.ref (a 7)]) (n := 1) (Nat.le_of_ble_eq_true rfl)
  rw [lg_entry_eq]
  generalize (lg_sl ([.ref (a 7)]) ++ List.replicate (1 - (lg_sl ([.ref (a 7)])).length) Slot.unset).toArray = ls at hl ⊢
  have hl : lv_has ls 1 [(0, .ref (a 7))] := hl
  have b_1 : (-1) ≤ (G.1 7 6).toInt ∧ (G.1 7 6).toInt ≤ 400 := bd_7_6 hB_G
  refine lv_aload_n hx hb dX0_lastFirst_0 rfl (lv_at hl 0 rfl) ?_
  have b_2 : 0 ≤ (G.1 7 4).toInt ∧ (G.1 7 4).toInt ≤ 60 := bd_7_4 hB_G
  refine S_getI (v := (G.1 7 4)) (C := RX0) (T := TX0) (N := 8) hx hb hg iX0 hown hK hW kd_7 rfl 4 (lt_b rfl) (hg (Cond.fieldLink RX0 37 "SlabWalk$Course" "most" "I") m382) (fun _ h9 => h9) rfl rfl dX0_lastFirst_1 ?_
  refine ic_1 hx hb dX0_lastFirst_4 ?_
  refine lv_isub hx hb dX0_lastFirst_5 ?_
  refine lv_topi (fun y_3 ey_3 => ?_)
  have ty_3 : y_3.toInt = (G.1 7 4).toInt - 1 := xI_sub rfl rfl ey_3 ((by first | exact ok_56 b_2.1 | omega)) ((by first | exact ok_170 b_2.2 | omega))
  refine lv_aload_n hx hb dX0_lastFirst_6 rfl (lv_at hl 0 rfl) ?_
  refine S_getI (v := (G.1 7 6)) (C := RX0) (T := TX0) (N := 8) hx hb hg iX0 hown hK hW kd_7 rfl 6 (lt_b rfl) (hg (Cond.fieldLink RX0 50 "SlabWalk$Course" "last" "I") m390) (fun _ h9 => h9) rfl rfl dX0_lastFirst_7 ?_
  refine va_mmin hx hb (by rw [hml]; exact hl.1.symm) hown (hg (Cond.methodLink RX0 62 Lib.Math.min.name) m1006) (hg (Cond.static Lib.Math.min.name) m636) (hg (Cond.initialized "java/lang/Math") m132) (hg (Cond.code Lib.Math.min.name Lib.Math.min.code 2 (some .int)) m637) (Nat.le_of_ble_eq_true rfl) (Nat.le_of_ble_eq_true rfl) (Nat.le_of_ble_eq_true rfl) (Nat.le_of_ble_eq_true rfl) dX0_lastFirst_10 ?_
  refine lv_topi (fun y_4 ey_4 => ?_)
  have ty_4 := xI_min (X := y_3.toInt) (Y := (G.1 7 6).toInt) rfl rfl ey_4
  exact W.iret (v := y_4) hx hb hr (fun t ht _ => ⟨⟨y_4, G, rfl, (P_cFirst_mk ⟨hB_G, hF, ⟨(by first | exact ok_171 b_1.1 b_2.1 ty_3 ty_4 | omega), (by first | exact ok_172 hci.1 b_1.2 b_2.2 ty_3 ty_4 | omega)⟩, ((by first | exact ok_173 ty_4 | omega)), ⟨y_3, ty_3, ⟨y_4, ty_4, ⟨rfl, rfl⟩⟩⟩⟩), wd_t ht hW⟩, hS.F ht⟩) hS.2.2 dX0_lastFirst_13

theorem m157 : Cond.fieldLink RX0 15 "SlabWalk$Paving" "length" "[I" ∈ gd := gdc_1_2 9 rfl gw_fieldLink
theorem m163 : Cond.fieldLink RX0 24 "SlabWalk$Paving" "foot" "[I" ∈ gd := gdc_1_2 15 rfl gw_fieldLink
theorem m167 : Cond.fieldLink RX0 29 "SlabWalk$Paving" "least" "[I" ∈ gd := gdc_1_3 3 rfl gw_fieldLink
theorem m171 : Cond.fieldLink RX0 34 "SlabWalk$Paving" "most" "[I" ∈ gd := gdc_1_3 7 rfl gw_fieldLink
theorem m175 : Cond.fieldLink RX0 39 "SlabWalk$Paving" "leap" "[I" ∈ gd := gdc_1_3 11 rfl gw_fieldLink
theorem m371 : Cond.fieldLink RX0 9 "SlabWalk$Course" "lawful" "[Z" ∈ gd := gdc_2_0 15 rfl gw_fieldLink
theorem m375 : Cond.fieldLink RX0 21 "SlabWalk$Course" "length" "I" ∈ gd := gdc_2_1 3 rfl gw_fieldLink
theorem m376 : Cond.fieldLink RX0 27 "SlabWalk$Course" "foot" "I" ∈ gd := gdc_2_1 4 rfl gw_fieldLink
theorem m377 : Cond.fieldLink RX0 32 "SlabWalk$Course" "least" "I" ∈ gd := gdc_2_1 5 rfl gw_fieldLink
theorem m385 : Cond.fieldLink RX0 42 "SlabWalk$Course" "leap" "I" ∈ gd := gdc_2_1 13 rfl gw_fieldLink
theorem m393 : Cond.fieldLink RX0 53 "SlabWalk$Course" "end" "I" ∈ gd := gdc_2_2 5 rfl gw_fieldLink
theorem m983 : Cond.methodLink RX0 44 Lib.Math.max.name ∈ gd := gdc_4_9 3 rfl gw_methodLink
theorem m988 : Cond.methodLink RX0 56 yX3_isLine ∈ gd := gdc_4_9 8 rfl gw_methodLink
noncomputable def rbX0_findLawful_0 : List (Nat × List Nat) := [(0, [3]), (1, [54, 4]), (3, [42]), (4, [180, 0, 21]), (7, [4]), (8, [100]), (9, [54, 5]), (11, [21, 5]), (13, [155, 0, 51]), (16, [43]), (17, [28]), (18, [29]), (19, [21, 5]), (21, [182, 0, 56]), (24, [153, 0, 7]), (27, [3]), (28, [167, 0, 7]), (31, [21, 4]), (33, [4]), (34, [96]), (35, [54, 4]), (37, [42]), (38, [180, 0, 9]), (41, [21, 5])]
theorem rcX0_findLawful_0 : dgo (lb cX0_findLawful) 0 rbX0_findLawful_0 = true := by decide +kernel
theorem dX0_findLawful_0 : decode cX0_findLawful 0 = .ok (.iconst 0, 1) := dk_3 (dw rcX0_findLawful_0 0 rfl)
theorem dX0_findLawful_1 : decode cX0_findLawful 1 = .ok (.istore 4, 2) := dk_54 (dw rcX0_findLawful_0 1 rfl)
theorem dX0_findLawful_3 : decode cX0_findLawful 3 = .ok (.aload_n 0, 1) := dk_42 (dw rcX0_findLawful_0 2 rfl)
theorem dX0_findLawful_4 : decode cX0_findLawful 4 = .ok (.getfield 21, 3) := dk_180 (dw rcX0_findLawful_0 3 rfl) rfl
theorem dX0_findLawful_7 : decode cX0_findLawful 7 = .ok (.iconst 1, 1) := dk_4 (dw rcX0_findLawful_0 4 rfl)
theorem dX0_findLawful_8 : decode cX0_findLawful 8 = .ok (.isub, 1) := dk_100 (dw rcX0_findLawful_0 5 rfl)
theorem dX0_findLawful_9 : decode cX0_findLawful 9 = .ok (.istore 5, 2) := dk_54 (dw rcX0_findLawful_0 6 rfl)
theorem dX0_findLawful_11 : decode cX0_findLawful 11 = .ok (.iload 5, 2) := dk_21 (dw rcX0_findLawful_0 7 rfl)
theorem dX0_findLawful_13 : decode cX0_findLawful 13 = .ok (.ifCond .lt 51, 3) := dk_155 (dw rcX0_findLawful_0 8 rfl) rfl
theorem dX0_findLawful_16 : decode cX0_findLawful 16 = .ok (.aload_n 1, 1) := dk_43 (dw rcX0_findLawful_0 9 rfl)
theorem dX0_findLawful_17 : decode cX0_findLawful 17 = .ok (.iload_n 2, 1) := dk_28 (dw rcX0_findLawful_0 10 rfl)
theorem dX0_findLawful_18 : decode cX0_findLawful 18 = .ok (.iload_n 3, 1) := dk_29 (dw rcX0_findLawful_0 11 rfl)
theorem dX0_findLawful_19 : decode cX0_findLawful 19 = .ok (.iload 5, 2) := dk_21 (dw rcX0_findLawful_0 12 rfl)
theorem dX0_findLawful_21 : decode cX0_findLawful 21 = .ok (.invokevirtual 56, 3) := dk_182 (dw rcX0_findLawful_0 13 rfl) rfl
theorem dX0_findLawful_24 : decode cX0_findLawful 24 = .ok (.ifCond .eq 7, 3) := dk_153 (dw rcX0_findLawful_0 14 rfl) rfl
theorem dX0_findLawful_27 : decode cX0_findLawful 27 = .ok (.iconst 0, 1) := dk_3 (dw rcX0_findLawful_0 15 rfl)
theorem dX0_findLawful_28 : decode cX0_findLawful 28 = .ok (.goto 7, 3) := dk_167 (dw rcX0_findLawful_0 16 rfl) rfl
theorem dX0_findLawful_31 : decode cX0_findLawful 31 = .ok (.iload 4, 2) := dk_21 (dw rcX0_findLawful_0 17 rfl)
theorem dX0_findLawful_33 : decode cX0_findLawful 33 = .ok (.iconst 1, 1) := dk_4 (dw rcX0_findLawful_0 18 rfl)
theorem dX0_findLawful_34 : decode cX0_findLawful 34 = .ok (.iadd, 1) := dk_96 (dw rcX0_findLawful_0 19 rfl)
theorem dX0_findLawful_35 : decode cX0_findLawful 35 = .ok (.istore 4, 2) := dk_54 (dw rcX0_findLawful_0 20 rfl)
theorem dX0_findLawful_37 : decode cX0_findLawful 37 = .ok (.aload_n 0, 1) := dk_42 (dw rcX0_findLawful_0 21 rfl)
theorem dX0_findLawful_38 : decode cX0_findLawful 38 = .ok (.getfield 9, 3) := dk_180 (dw rcX0_findLawful_0 22 rfl) rfl
theorem dX0_findLawful_41 : decode cX0_findLawful 41 = .ok (.iload 5, 2) := dk_21 (dw rcX0_findLawful_0 23 rfl)
noncomputable def rbX0_findLawful_43 : List (Nat × List Nat) := [(43, [21, 4]), (45, [42]), (46, [180, 0, 27]), (49, [161, 0, 7]), (52, [4]), (53, [167, 0, 4]), (56, [3]), (57, [84]), (58, [132, 5, 255]), (61, [167, 255, 206]), (64, [177])]
theorem rcX0_findLawful_43 : dgo (lb cX0_findLawful) 0 rbX0_findLawful_43 = true := by decide +kernel
theorem dX0_findLawful_43 : decode cX0_findLawful 43 = .ok (.iload 4, 2) := dk_21 (dw rcX0_findLawful_43 0 rfl)
theorem dX0_findLawful_45 : decode cX0_findLawful 45 = .ok (.aload_n 0, 1) := dk_42 (dw rcX0_findLawful_43 1 rfl)
theorem dX0_findLawful_46 : decode cX0_findLawful 46 = .ok (.getfield 27, 3) := dk_180 (dw rcX0_findLawful_43 2 rfl) rfl
theorem dX0_findLawful_49 : decode cX0_findLawful 49 = .ok (.if_icmp .lt 7, 3) := dk_161 (dw rcX0_findLawful_43 3 rfl) rfl
theorem dX0_findLawful_52 : decode cX0_findLawful 52 = .ok (.iconst 1, 1) := dk_4 (dw rcX0_findLawful_43 4 rfl)
theorem dX0_findLawful_53 : decode cX0_findLawful 53 = .ok (.goto 4, 3) := dk_167 (dw rcX0_findLawful_43 5 rfl) rfl
theorem dX0_findLawful_56 : decode cX0_findLawful 56 = .ok (.iconst 0, 1) := dk_3 (dw rcX0_findLawful_43 6 rfl)
theorem dX0_findLawful_57 : decode cX0_findLawful 57 = .ok (.bastore, 1) := dk_84 (dw rcX0_findLawful_43 7 rfl)
theorem dX0_findLawful_58 : decode cX0_findLawful 58 = .ok (.iinc 5 (-1), 3) := dk_132 (dw rcX0_findLawful_43 8 rfl) rfl
theorem dX0_findLawful_61 : decode cX0_findLawful 61 = .ok (.goto (-50), 3) := dk_167 (dw rcX0_findLawful_43 9 rfl) rfl
theorem dX0_findLawful_64 : decode cX0_findLawful 64 = .ok (.return_, 1) := dk_177 (dw rcX0_findLawful_43 10 rfl)
noncomputable def rbX0_lookAt_0 : List (Nat × List Nat) := [(0, [42]), (1, [43]), (2, [180, 0, 15]), (5, [29]), (6, [46]), (7, [181, 0, 21]), (10, [42]), (11, [43]), (12, [180, 0, 24]), (15, [28]), (16, [46]), (17, [181, 0, 27]), (20, [42]), (21, [43]), (22, [180, 0, 29]), (25, [28]), (26, [46]), (27, [181, 0, 32]), (30, [42]), (31, [43]), (32, [180, 0, 34]), (35, [28]), (36, [46]), (37, [181, 0, 37])]
theorem rcX0_lookAt_0 : dgo (lb cX0_lookAt) 0 rbX0_lookAt_0 = true := by decide +kernel
theorem dX0_lookAt_0 : decode cX0_lookAt 0 = .ok (.aload_n 0, 1) := dk_42 (dw rcX0_lookAt_0 0 rfl)
theorem dX0_lookAt_1 : decode cX0_lookAt 1 = .ok (.aload_n 1, 1) := dk_43 (dw rcX0_lookAt_0 1 rfl)
theorem dX0_lookAt_2 : decode cX0_lookAt 2 = .ok (.getfield 15, 3) := dk_180 (dw rcX0_lookAt_0 2 rfl) rfl
theorem dX0_lookAt_5 : decode cX0_lookAt 5 = .ok (.iload_n 3, 1) := dk_29 (dw rcX0_lookAt_0 3 rfl)
theorem dX0_lookAt_6 : decode cX0_lookAt 6 = .ok (.iaload, 1) := dk_46 (dw rcX0_lookAt_0 4 rfl)
theorem dX0_lookAt_7 : decode cX0_lookAt 7 = .ok (.putfield 21, 3) := dk_181 (dw rcX0_lookAt_0 5 rfl) rfl
theorem dX0_lookAt_10 : decode cX0_lookAt 10 = .ok (.aload_n 0, 1) := dk_42 (dw rcX0_lookAt_0 6 rfl)
theorem dX0_lookAt_11 : decode cX0_lookAt 11 = .ok (.aload_n 1, 1) := dk_43 (dw rcX0_lookAt_0 7 rfl)
theorem dX0_lookAt_12 : decode cX0_lookAt 12 = .ok (.getfield 24, 3) := dk_180 (dw rcX0_lookAt_0 8 rfl) rfl
theorem dX0_lookAt_15 : decode cX0_lookAt 15 = .ok (.iload_n 2, 1) := dk_28 (dw rcX0_lookAt_0 9 rfl)
theorem dX0_lookAt_16 : decode cX0_lookAt 16 = .ok (.iaload, 1) := dk_46 (dw rcX0_lookAt_0 10 rfl)
theorem dX0_lookAt_17 : decode cX0_lookAt 17 = .ok (.putfield 27, 3) := dk_181 (dw rcX0_lookAt_0 11 rfl) rfl
theorem dX0_lookAt_20 : decode cX0_lookAt 20 = .ok (.aload_n 0, 1) := dk_42 (dw rcX0_lookAt_0 12 rfl)
theorem dX0_lookAt_21 : decode cX0_lookAt 21 = .ok (.aload_n 1, 1) := dk_43 (dw rcX0_lookAt_0 13 rfl)
theorem dX0_lookAt_22 : decode cX0_lookAt 22 = .ok (.getfield 29, 3) := dk_180 (dw rcX0_lookAt_0 14 rfl) rfl
theorem dX0_lookAt_25 : decode cX0_lookAt 25 = .ok (.iload_n 2, 1) := dk_28 (dw rcX0_lookAt_0 15 rfl)
theorem dX0_lookAt_26 : decode cX0_lookAt 26 = .ok (.iaload, 1) := dk_46 (dw rcX0_lookAt_0 16 rfl)
theorem dX0_lookAt_27 : decode cX0_lookAt 27 = .ok (.putfield 32, 3) := dk_181 (dw rcX0_lookAt_0 17 rfl) rfl
theorem dX0_lookAt_30 : decode cX0_lookAt 30 = .ok (.aload_n 0, 1) := dk_42 (dw rcX0_lookAt_0 18 rfl)
theorem dX0_lookAt_31 : decode cX0_lookAt 31 = .ok (.aload_n 1, 1) := dk_43 (dw rcX0_lookAt_0 19 rfl)
theorem dX0_lookAt_32 : decode cX0_lookAt 32 = .ok (.getfield 34, 3) := dk_180 (dw rcX0_lookAt_0 20 rfl) rfl
theorem dX0_lookAt_35 : decode cX0_lookAt 35 = .ok (.iload_n 2, 1) := dk_28 (dw rcX0_lookAt_0 21 rfl)
theorem dX0_lookAt_36 : decode cX0_lookAt 36 = .ok (.iaload, 1) := dk_46 (dw rcX0_lookAt_0 22 rfl)
theorem dX0_lookAt_37 : decode cX0_lookAt 37 = .ok (.putfield 37, 3) := dk_181 (dw rcX0_lookAt_0 23 rfl) rfl
noncomputable def rbX0_lookAt_40 : List (Nat × List Nat) := [(40, [42]), (41, [43]), (42, [180, 0, 39]), (45, [28]), (46, [46]), (47, [181, 0, 42]), (50, [42]), (51, [2]), (52, [42]), (53, [180, 0, 21]), (56, [42]), (57, [180, 0, 27]), (60, [100]), (61, [184, 0, 44]), (64, [181, 0, 50]), (67, [42]), (68, [3]), (69, [42]), (70, [180, 0, 21]), (73, [42]), (74, [180, 0, 27]), (77, [100]), (78, [42]), (79, [180, 0, 37])]
theorem rcX0_lookAt_40 : dgo (lb cX0_lookAt) 0 rbX0_lookAt_40 = true := by decide +kernel
theorem dX0_lookAt_40 : decode cX0_lookAt 40 = .ok (.aload_n 0, 1) := dk_42 (dw rcX0_lookAt_40 0 rfl)
theorem dX0_lookAt_41 : decode cX0_lookAt 41 = .ok (.aload_n 1, 1) := dk_43 (dw rcX0_lookAt_40 1 rfl)
theorem dX0_lookAt_42 : decode cX0_lookAt 42 = .ok (.getfield 39, 3) := dk_180 (dw rcX0_lookAt_40 2 rfl) rfl
theorem dX0_lookAt_45 : decode cX0_lookAt 45 = .ok (.iload_n 2, 1) := dk_28 (dw rcX0_lookAt_40 3 rfl)
theorem dX0_lookAt_46 : decode cX0_lookAt 46 = .ok (.iaload, 1) := dk_46 (dw rcX0_lookAt_40 4 rfl)
theorem dX0_lookAt_47 : decode cX0_lookAt 47 = .ok (.putfield 42, 3) := dk_181 (dw rcX0_lookAt_40 5 rfl) rfl
theorem dX0_lookAt_50 : decode cX0_lookAt 50 = .ok (.aload_n 0, 1) := dk_42 (dw rcX0_lookAt_40 6 rfl)
theorem dX0_lookAt_51 : decode cX0_lookAt 51 = .ok (.iconst (-1), 1) := dk_2 (dw rcX0_lookAt_40 7 rfl)
theorem dX0_lookAt_52 : decode cX0_lookAt 52 = .ok (.aload_n 0, 1) := dk_42 (dw rcX0_lookAt_40 8 rfl)
theorem dX0_lookAt_53 : decode cX0_lookAt 53 = .ok (.getfield 21, 3) := dk_180 (dw rcX0_lookAt_40 9 rfl) rfl
theorem dX0_lookAt_56 : decode cX0_lookAt 56 = .ok (.aload_n 0, 1) := dk_42 (dw rcX0_lookAt_40 10 rfl)
theorem dX0_lookAt_57 : decode cX0_lookAt 57 = .ok (.getfield 27, 3) := dk_180 (dw rcX0_lookAt_40 11 rfl) rfl
theorem dX0_lookAt_60 : decode cX0_lookAt 60 = .ok (.isub, 1) := dk_100 (dw rcX0_lookAt_40 12 rfl)
theorem dX0_lookAt_61 : decode cX0_lookAt 61 = .ok (.invokestatic 44, 3) := dk_184 (dw rcX0_lookAt_40 13 rfl) rfl
theorem dX0_lookAt_64 : decode cX0_lookAt 64 = .ok (.putfield 50, 3) := dk_181 (dw rcX0_lookAt_40 14 rfl) rfl
theorem dX0_lookAt_67 : decode cX0_lookAt 67 = .ok (.aload_n 0, 1) := dk_42 (dw rcX0_lookAt_40 15 rfl)
theorem dX0_lookAt_68 : decode cX0_lookAt 68 = .ok (.iconst 0, 1) := dk_3 (dw rcX0_lookAt_40 16 rfl)
theorem dX0_lookAt_69 : decode cX0_lookAt 69 = .ok (.aload_n 0, 1) := dk_42 (dw rcX0_lookAt_40 17 rfl)
theorem dX0_lookAt_70 : decode cX0_lookAt 70 = .ok (.getfield 21, 3) := dk_180 (dw rcX0_lookAt_40 18 rfl) rfl
theorem dX0_lookAt_73 : decode cX0_lookAt 73 = .ok (.aload_n 0, 1) := dk_42 (dw rcX0_lookAt_40 19 rfl)
theorem dX0_lookAt_74 : decode cX0_lookAt 74 = .ok (.getfield 27, 3) := dk_180 (dw rcX0_lookAt_40 20 rfl) rfl
theorem dX0_lookAt_77 : decode cX0_lookAt 77 = .ok (.isub, 1) := dk_100 (dw rcX0_lookAt_40 21 rfl)
theorem dX0_lookAt_78 : decode cX0_lookAt 78 = .ok (.aload_n 0, 1) := dk_42 (dw rcX0_lookAt_40 22 rfl)
theorem dX0_lookAt_79 : decode cX0_lookAt 79 = .ok (.getfield 37, 3) := dk_180 (dw rcX0_lookAt_40 23 rfl) rfl
noncomputable def rbX0_lookAt_82 : List (Nat × List Nat) := [(82, [100]), (83, [4]), (84, [96]), (85, [184, 0, 44]), (88, [181, 0, 53]), (91, [177])]
theorem rcX0_lookAt_82 : dgo (lb cX0_lookAt) 0 rbX0_lookAt_82 = true := by decide +kernel
theorem dX0_lookAt_82 : decode cX0_lookAt 82 = .ok (.isub, 1) := dk_100 (dw rcX0_lookAt_82 0 rfl)
theorem dX0_lookAt_83 : decode cX0_lookAt 83 = .ok (.iconst 1, 1) := dk_4 (dw rcX0_lookAt_82 1 rfl)
theorem dX0_lookAt_84 : decode cX0_lookAt 84 = .ok (.iadd, 1) := dk_96 (dw rcX0_lookAt_82 2 rfl)
theorem dX0_lookAt_85 : decode cX0_lookAt 85 = .ok (.invokestatic 44, 3) := dk_184 (dw rcX0_lookAt_82 3 rfl) rfl
theorem dX0_lookAt_88 : decode cX0_lookAt 88 = .ok (.putfield 53, 3) := dk_181 (dw rcX0_lookAt_82 4 rfl) rfl
theorem dX0_lookAt_91 : decode cX0_lookAt 91 = .ok (.return_, 1) := dk_177 (dw rcX0_lookAt_82 5 rfl)
set_option maxHeartbeats 4000000 in
set_option maxRecDepth 100000 in
theorem k_cLook_1 (l : Launch) (D : va_G) (k : KT) (A : Nat → Prop) (a : Nat → Nat) (z : SK) (G : GS) (p0 : Int32) (p1 : Int32) (ha_p0 : 0 ≤ p0.toInt ∧ p0.toInt ≤ 3) (ha_p1 : 0 ≤ p1.toInt ∧ p1.toInt ≤ 2) (hw : p0.toInt < (G.1 1 10).toInt) : Met l yX0_lookAt (WS yX0_lookAt cX0_lookAt 4 none) ({ frames := 1, cells := 0, slots := 0, locals := 14 }) (va_Pc [.ref (a 7), .ref (a 1), .int p0, .int p1] (cW D k A a z G)) (va_Qv (fun (G1 : GS) => P_cLook_1 p0 p1 G G1) (fun (G1 : GS) t => Wd D k A a G1 t.heap) A) 0 0 A := by
  refine Met.ofW (cc := cX0_lookAt) (maxL := 4) (ret := none) (by decide) rfl ?_
  intro p e s m args below meth c s₁ B hml hv
  obtain ⟨rfl, hW, hB_G, hK, hZ⟩ := hv
  have hx := B.exec
  have hb := B.bytes
  have hr := B.returns
  have hts := atoms_spec (ws := WS yX0_lookAt cX0_lookAt 4 none) B.pre
  have hgd : ∀ w ∈ gd, w ∈ WS yX0_lookAt cX0_lookAt 4 none := fun w h => List.mem_cons_of_mem _ h
  have hg : ∀ w ∈ gd, w.before _ s = true := fun w h => hts w (hgd w h)
  have hown : s.vm.findClass RX0 = some m.cls := findClass_of_methodNamed B.named
  have hS : va_S A s.heap s.heap [] := va_S.rf
  have hF : Fr [] [(7, 1), (7, 2), (7, 3), (7, 4), (7, 5), (7, 6), (7, 7)] G G := Fr.rf
  have hl := lv_entry ([.ref (a 7), .ref (a 1), .int p0, .int p1]) (n := 4) (Nat.le_of_ble_eq_true rfl)
  rw [lg_entry_eq]
  generalize (lg_sl ([.ref (a 7), .ref (a 1), .int p0, .int p1]) ++ List.replicate (4 - (lg_sl ([.ref (a 7), .ref (a 1), .int p0, .int p1])).length) Slot.unset).toArray = ls at hl ⊢
  have hl : lv_has ls 4 [(0, .ref (a 7)), (1, .ref (a 1)), (2, .int p0), (3, .int p1)] := hl
  refine lv_aload_n hx hb dX0_lookAt_0 rfl (lv_at hl 0 rfl) ?_
  refine lv_aload_n hx hb dX0_lookAt_1 rfl (lv_at hl 1 rfl) ?_
  refine S_getR (n := 10) (C := RX6) (T := TX6) (N := 17) hx hb hg iX6 hown hK hW kd_1 rfl 0 (lt_b rfl) (hg (Cond.fieldLink RX0 15 "SlabWalk$Paving" "length" "[I") m157) (fun _ h9 => h9) rfl dX0_lookAt_2 ?_
  refine lv_iload_n hx hb dX0_lookAt_5 rfl (lv_at hl 3 rfl) ?_
  refine S_iald hx hb hK hW kd_10 (vin ((by first | exact ha_p1.1 | omega)) ((by first | exact ok_174 ha_p1.2 | omega))) dX0_lookAt_6 (fun y_1 ey_1 => ?_)
  have ty_1 : 0 ≤ y_1.toInt ∧ y_1.toInt ≤ 400 := bv_10 hB_G ey_1
  refine S_putI (ty := .int) (C := RX0) (T := TX0) (N := 8) hx hb hg iX0 tyX0 tyX0_ok nmX0 hown hK hW hS kd_7 rfl 1 (lt_b rfl) (hg (Cond.fieldLink RX0 21 "SlabWalk$Course" "length" "I") m375) (fun _ h9 => h9) rfl (by decide +kernel) rfl rfl rfl dX0_lookAt_7 (fun G_2 H locs eG_2 hW hS => ?_)
  have hB_G_2 : Bd G_2 := hB_G.put (V := y_1.toInt) (lo := 0) (hi := 400) eG_2 rfl rfl rfl ((by first | exact ty_1.1 | omega)) ((by first | exact ty_1.2 | omega)) (hB_G.2.put eG_2 rfl)
  have hF := hF.put eG_2 (Or.inr (by decide))
  refine lv_aload_n hx hb dX0_lookAt_10 rfl (lv_at hl 0 rfl) ?_
  refine lv_aload_n hx hb dX0_lookAt_11 rfl (lv_at hl 1 rfl) ?_
  refine S_getR (n := 12) (C := RX6) (T := TX6) (N := 17) hx hb hg iX6 hown hK hW kd_1 rfl 2 (lt_b rfl) (hg (Cond.fieldLink RX0 24 "SlabWalk$Paving" "foot" "[I") m163) (fun _ h9 => h9) rfl dX0_lookAt_12 ?_
  refine lv_iload_n hx hb dX0_lookAt_15 rfl (lv_at hl 2 rfl) ?_
  refine S_iald hx hb hK hW kd_12 (vin ((by first | exact ha_p0.1 | omega)) ((by first | exact ok_175 ha_p0.2 | omega))) dX0_lookAt_16 (fun y_3 ey_3 => ?_)
  have ty_3 : 0 ≤ y_3.toInt ∧ y_3.toInt ≤ 12 := bv_12 hB_G_2 ey_3
  have b_4 : 0 ≤ (G.1 1 10).toInt ∧ (G.1 1 10).toInt ≤ 4 := bd_1_10 hB_G
  have u_5 : 1 ≤ y_3.toInt := by have q := (hB_G_2.2.of1 (w := p0.toNatClampNeg) (by rw [tN (by omega), show G_2.1 1 10 = (G.1 1 10) from (gp_ne eG_2 (by decide))]; omega)).1; rw [← ey_3] at q; exact q
  refine S_putI (ty := .int) (C := RX0) (T := TX0) (N := 8) hx hb hg iX0 tyX0 tyX0_ok nmX0 hown hK hW hS kd_7 rfl 2 (lt_b rfl) (hg (Cond.fieldLink RX0 27 "SlabWalk$Course" "foot" "I") m376) (fun _ h9 => h9) rfl (by decide +kernel) rfl rfl rfl dX0_lookAt_17 (fun G_6 H locs eG_6 hW hS => ?_)
  have hB_G_6 : Bd G_6 := hB_G_2.put (V := y_3.toInt) (lo := 0) (hi := 12) eG_6 rfl rfl rfl ((by first | exact ty_3.1 | omega)) ((by first | exact ty_3.2 | omega)) (hB_G_2.2.put eG_6 rfl)
  have hF := hF.put eG_6 (Or.inr (by decide))
  refine lv_aload_n hx hb dX0_lookAt_20 rfl (lv_at hl 0 rfl) ?_
  refine lv_aload_n hx hb dX0_lookAt_21 rfl (lv_at hl 1 rfl) ?_
  refine S_getR (n := 13) (C := RX6) (T := TX6) (N := 17) hx hb hg iX6 hown hK hW kd_1 rfl 3 (lt_b rfl) (hg (Cond.fieldLink RX0 29 "SlabWalk$Paving" "least" "[I") m167) (fun _ h9 => h9) rfl dX0_lookAt_22 ?_
  refine lv_iload_n hx hb dX0_lookAt_25 rfl (lv_at hl 2 rfl) ?_
  refine S_iald hx hb hK hW kd_13 (vin ((by first | exact ha_p0.1 | omega)) ((by first | exact ok_175 ha_p0.2 | omega))) dX0_lookAt_26 (fun y_7 ey_7 => ?_)
  have ty_7 : 0 ≤ y_7.toInt ∧ y_7.toInt ≤ 60 := bv_13 hB_G_6 ey_7
  refine S_putI (ty := .int) (C := RX0) (T := TX0) (N := 8) hx hb hg iX0 tyX0 tyX0_ok nmX0 hown hK hW hS kd_7 rfl 3 (lt_b rfl) (hg (Cond.fieldLink RX0 32 "SlabWalk$Course" "least" "I") m377) (fun _ h9 => h9) rfl (by decide +kernel) rfl rfl rfl dX0_lookAt_27 (fun G_8 H locs eG_8 hW hS => ?_)
  have hB_G_8 : Bd G_8 := hB_G_6.put (V := y_7.toInt) (lo := 0) (hi := 60) eG_8 rfl rfl rfl ((by first | exact ty_7.1 | omega)) ((by first | exact ty_7.2 | omega)) (hB_G_6.2.put eG_8 rfl)
  have hF := hF.put eG_8 (Or.inr (by decide))
  refine lv_aload_n hx hb dX0_lookAt_30 rfl (lv_at hl 0 rfl) ?_
  refine lv_aload_n hx hb dX0_lookAt_31 rfl (lv_at hl 1 rfl) ?_
  refine S_getR (n := 14) (C := RX6) (T := TX6) (N := 17) hx hb hg iX6 hown hK hW kd_1 rfl 4 (lt_b rfl) (hg (Cond.fieldLink RX0 34 "SlabWalk$Paving" "most" "[I") m171) (fun _ h9 => h9) rfl dX0_lookAt_32 ?_
  refine lv_iload_n hx hb dX0_lookAt_35 rfl (lv_at hl 2 rfl) ?_
  refine S_iald hx hb hK hW kd_14 (vin ((by first | exact ha_p0.1 | omega)) ((by first | exact ok_175 ha_p0.2 | omega))) dX0_lookAt_36 (fun y_9 ey_9 => ?_)
  have ty_9 : 0 ≤ y_9.toInt ∧ y_9.toInt ≤ 60 := bv_14 hB_G_8 ey_9
  have u_10 : y_7.toInt ≤ y_9.toInt := by have q := (hB_G_8.2.of1 (w := p0.toNatClampNeg) (by rw [tN (by first | (clear ha_p1 ty_1 ty_3 u_5; omega) | omega), show G_8.1 1 10 = (G.1 1 10) from ((gp_ne eG_8 (by decide)).trans ((gp_ne eG_6 (by decide)).trans ((gp_ne eG_2 (by decide)).trans (rfl))))]; omega)).2; rw [← ey_9, show G_8.1 13 p0.toNatClampNeg = y_7 from ((gp_ne eG_8 (fun q => absurd q.1 (Nat.ne_of_beq_eq_false rfl))).trans (ey_7.symm))] at q; exact q
  refine S_putI (ty := .int) (C := RX0) (T := TX0) (N := 8) hx hb hg iX0 tyX0 tyX0_ok nmX0 hown hK hW hS kd_7 rfl 4 (lt_b rfl) (hg (Cond.fieldLink RX0 37 "SlabWalk$Course" "most" "I") m382) (fun _ h9 => h9) rfl (by decide +kernel) rfl rfl rfl dX0_lookAt_37 (fun G_11 H locs eG_11 hW hS => ?_)
  have hB_G_11 : Bd G_11 := hB_G_8.put (V := y_9.toInt) (lo := 0) (hi := 60) eG_11 rfl rfl rfl ((by first | exact ty_9.1 | omega)) ((by first | exact ty_9.2 | omega)) (hB_G_8.2.put eG_11 rfl)
  have hF := hF.put eG_11 (Or.inr (by decide))
  refine lv_aload_n hx hb dX0_lookAt_40 rfl (lv_at hl 0 rfl) ?_
  refine lv_aload_n hx hb dX0_lookAt_41 rfl (lv_at hl 1 rfl) ?_
  refine S_getR (n := 15) (C := RX6) (T := TX6) (N := 17) hx hb hg iX6 hown hK hW kd_1 rfl 5 (lt_b rfl) (hg (Cond.fieldLink RX0 39 "SlabWalk$Paving" "leap" "[I") m175) (fun _ h9 => h9) rfl dX0_lookAt_42 ?_
  refine lv_iload_n hx hb dX0_lookAt_45 rfl (lv_at hl 2 rfl) ?_
  refine S_iald hx hb hK hW kd_15 (vin ((by first | exact ha_p0.1 | omega)) ((by first | exact ok_175 ha_p0.2 | omega))) dX0_lookAt_46 (fun y_12 ey_12 => ?_)
  have ty_12 : 0 ≤ y_12.toInt ∧ y_12.toInt ≤ 99 := bv_15 hB_G_11 ey_12
  refine S_putI (ty := .int) (C := RX0) (T := TX0) (N := 8) hx hb hg iX0 tyX0 tyX0_ok nmX0 hown hK hW hS kd_7 rfl 5 (lt_b rfl) (hg (Cond.fieldLink RX0 42 "SlabWalk$Course" "leap" "I") m385) (fun _ h9 => h9) rfl (by decide +kernel) rfl rfl rfl dX0_lookAt_47 (fun G_13 H locs eG_13 hW hS => ?_)
  have hB_G_13 : Bd G_13 := hB_G_11.put (V := y_12.toInt) (lo := 0) (hi := 99) eG_13 rfl rfl rfl ((by first | exact ty_12.1 | omega)) ((by first | exact ty_12.2 | omega)) (hB_G_11.2.put eG_13 rfl)
  have hF := hF.put eG_13 (Or.inr (by decide))
  refine lv_aload_n hx hb dX0_lookAt_50 rfl (lv_at hl 0 rfl) ?_
  refine ic_m1 hx hb dX0_lookAt_51 ?_
  refine lv_aload_n hx hb dX0_lookAt_52 rfl (lv_at hl 0 rfl) ?_
  refine S_getI (v := y_1) (C := RX0) (T := TX0) (N := 8) hx hb hg iX0 hown hK hW kd_7 rfl 1 (lt_b rfl) (hg (Cond.fieldLink RX0 21 "SlabWalk$Course" "length" "I") m375) (fun _ h9 => h9) rfl ((gp_ne eG_13 (by decide)).trans ((gp_ne eG_11 (by decide)).trans ((gp_ne eG_8 (by decide)).trans ((gp_ne eG_6 (by decide)).trans (gp_eq eG_2))))) dX0_lookAt_53 ?_
  refine lv_aload_n hx hb dX0_lookAt_56 rfl (lv_at hl 0 rfl) ?_
  refine S_getI (v := y_3) (C := RX0) (T := TX0) (N := 8) hx hb hg iX0 hown hK hW kd_7 rfl 2 (lt_b rfl) (hg (Cond.fieldLink RX0 27 "SlabWalk$Course" "foot" "I") m376) (fun _ h9 => h9) rfl ((gp_ne eG_13 (by decide)).trans ((gp_ne eG_11 (by decide)).trans ((gp_ne eG_8 (by decide)).trans (gp_eq eG_6)))) dX0_lookAt_57 ?_
  refine lv_isub hx hb dX0_lookAt_60 ?_
  refine lv_topi (fun y_14 ey_14 => ?_)
  have ty_14 : y_14.toInt = y_1.toInt - y_3.toInt := xI_sub rfl rfl ey_14 ((by first | exact ok_7 ty_1.1 ty_3.2 | omega)) ((by first | exact ok_8 ty_1.2 u_5 | omega))
  refine va_mmax hx hb (by rw [hml]; exact hl.1.symm) hown (hg (Cond.methodLink RX0 44 Lib.Math.max.name) m983) (hg (Cond.static Lib.Math.max.name) m728) (hg (Cond.initialized "java/lang/Math") m132) (hg (Cond.code Lib.Math.max.name Lib.Math.max.code 2 (some .int)) m729) (Nat.le_of_ble_eq_true rfl) (Nat.le_of_ble_eq_true rfl) (Nat.le_of_ble_eq_true rfl) (Nat.le_of_ble_eq_true rfl) dX0_lookAt_61 ?_
  refine lv_topi (fun y_15 ey_15 => ?_)
  have ty_15 := xI_max (X := (-1)) (Y := y_14.toInt) rfl rfl ey_15
  refine S_putI (ty := .int) (C := RX0) (T := TX0) (N := 8) hx hb hg iX0 tyX0 tyX0_ok nmX0 hown hK hW hS kd_7 rfl 6 (lt_b rfl) (hg (Cond.fieldLink RX0 50 "SlabWalk$Course" "last" "I") m390) (fun _ h9 => h9) rfl (by decide +kernel) rfl rfl rfl dX0_lookAt_64 (fun G_16 H locs eG_16 hW hS => ?_)
  have hB_G_16 : Bd G_16 := hB_G_13.put (V := y_15.toInt) (lo := (-1)) (hi := 400) eG_16 rfl rfl rfl ((by first | exact ok_176 ty_15 | omega)) ((by first | exact ok_177 ty_1.2 u_5 ty_14 ty_15 | omega)) (hB_G_13.2.put eG_16 rfl)
  have hF := hF.put eG_16 (Or.inr (by decide))
  refine lv_aload_n hx hb dX0_lookAt_67 rfl (lv_at hl 0 rfl) ?_
  refine ic_0 hx hb dX0_lookAt_68 ?_
  refine lv_aload_n hx hb dX0_lookAt_69 rfl (lv_at hl 0 rfl) ?_
  refine S_getI (v := y_1) (C := RX0) (T := TX0) (N := 8) hx hb hg iX0 hown hK hW kd_7 rfl 1 (lt_b rfl) (hg (Cond.fieldLink RX0 21 "SlabWalk$Course" "length" "I") m375) (fun _ h9 => h9) rfl ((gp_ne eG_16 (by decide)).trans ((gp_ne eG_13 (by decide)).trans ((gp_ne eG_11 (by decide)).trans ((gp_ne eG_8 (by decide)).trans ((gp_ne eG_6 (by decide)).trans (gp_eq eG_2)))))) dX0_lookAt_70 ?_
  refine lv_aload_n hx hb dX0_lookAt_73 rfl (lv_at hl 0 rfl) ?_
  refine S_getI (v := y_3) (C := RX0) (T := TX0) (N := 8) hx hb hg iX0 hown hK hW kd_7 rfl 2 (lt_b rfl) (hg (Cond.fieldLink RX0 27 "SlabWalk$Course" "foot" "I") m376) (fun _ h9 => h9) rfl ((gp_ne eG_16 (by decide)).trans ((gp_ne eG_13 (by decide)).trans ((gp_ne eG_11 (by decide)).trans ((gp_ne eG_8 (by decide)).trans (gp_eq eG_6))))) dX0_lookAt_74 ?_
  refine lv_isub hx hb dX0_lookAt_77 ?_
  refine lv_topi (fun y_17 ey_17 => ?_)
  have ty_17 : y_17.toInt = y_1.toInt - y_3.toInt := xI_sub rfl rfl ey_17 ((by first | exact ok_7 ty_1.1 ty_3.2 | omega)) ((by first | exact ok_8 ty_1.2 u_5 | omega))
  refine lv_aload_n hx hb dX0_lookAt_78 rfl (lv_at hl 0 rfl) ?_
  refine S_getI (v := y_9) (C := RX0) (T := TX0) (N := 8) hx hb hg iX0 hown hK hW kd_7 rfl 4 (lt_b rfl) (hg (Cond.fieldLink RX0 37 "SlabWalk$Course" "most" "I") m382) (fun _ h9 => h9) rfl ((gp_ne eG_16 (by decide)).trans ((gp_ne eG_13 (by decide)).trans (gp_eq eG_11))) dX0_lookAt_79 ?_
  refine lv_isub hx hb dX0_lookAt_82 ?_
  refine lv_topi (fun y_18 ey_18 => ?_)
  have ty_18 : y_18.toInt = y_17.toInt - y_9.toInt := xI_sub rfl rfl ey_18 ((by first | exact ok_178 ty_1.1 ty_3.2 ty_9.2 ty_17 | omega)) ((by first | exact ok_179 ty_1.2 u_5 ty_9.1 ty_17 | omega))
  refine ic_1 hx hb dX0_lookAt_83 ?_
  refine lv_iadd hx hb dX0_lookAt_84 ?_
  refine lv_topi (fun y_19 ey_19 => ?_)
  have ty_19 : y_19.toInt = y_18.toInt + 1 := xI_add rfl rfl ey_19 ((by first | exact ok_180 ty_1.1 ty_3.2 ty_9.2 ty_17 ty_18 | omega)) ((by first | exact ok_181 ty_1.2 u_5 ty_9.1 ty_17 ty_18 | omega))
  refine va_mmax hx hb (by rw [hml]; exact hl.1.symm) hown (hg (Cond.methodLink RX0 44 Lib.Math.max.name) m983) (hg (Cond.static Lib.Math.max.name) m728) (hg (Cond.initialized "java/lang/Math") m132) (hg (Cond.code Lib.Math.max.name Lib.Math.max.code 2 (some .int)) m729) (Nat.le_of_ble_eq_true rfl) (Nat.le_of_ble_eq_true rfl) (Nat.le_of_ble_eq_true rfl) (Nat.le_of_ble_eq_true rfl) dX0_lookAt_85 ?_
  refine lv_topi (fun y_20 ey_20 => ?_)
  have ty_20 := xI_max (X := 0) (Y := y_19.toInt) rfl rfl ey_20
  refine S_putI (ty := .int) (C := RX0) (T := TX0) (N := 8) hx hb hg iX0 tyX0 tyX0_ok nmX0 hown hK hW hS kd_7 rfl 7 (lt_b rfl) (hg (Cond.fieldLink RX0 53 "SlabWalk$Course" "end" "I") m393) (fun _ h9 => h9) rfl (by decide +kernel) rfl rfl rfl dX0_lookAt_88 (fun G_21 H locs eG_21 hW hS => ?_)
  have hB_G_21 : Bd G_21 := hB_G_16.put (V := y_20.toInt) (lo := 0) (hi := 400) eG_21 rfl rfl rfl ((by first | exact ok_182 ty_20 | omega)) ((by first | exact ok_183 ty_1.2 u_5 ty_9.1 ty_17 ty_18 ty_19 ty_20 | omega)) (hB_G_16.2.put eG_21 rfl)
  have hF := hF.put eG_21 (Or.inr (by decide))
  have g_22 : (G_21.1 7 3).toInt = y_7.toInt := (congrArg Int32.toInt (show G_21.1 7 3 = y_7 from ((gp_ne eG_21 (by decide)).trans ((gp_ne eG_16 (by decide)).trans ((gp_ne eG_13 (by decide)).trans ((gp_ne eG_11 (by decide)).trans (gp_eq eG_8)))))))
  have g_23 : (G_21.1 7 4).toInt = y_9.toInt := (congrArg Int32.toInt (show G_21.1 7 4 = y_9 from ((gp_ne eG_21 (by decide)).trans ((gp_ne eG_16 (by decide)).trans ((gp_ne eG_13 (by decide)).trans (gp_eq eG_11))))))
  have g_24 : (G_21.1 7 6).toInt = y_15.toInt := (congrArg Int32.toInt (show G_21.1 7 6 = y_15 from ((gp_ne eG_21 (by decide)).trans (gp_eq eG_16))))
  have g_25 : (G_21.1 7 7).toInt = y_20.toInt := (congrArg Int32.toInt (show G_21.1 7 7 = y_20 from (gp_eq eG_21)))
  exact W.vret hx hb hr (fun t ht _ => ⟨⟨G_21, rfl, (P_cLook_1_mk ⟨hB_G_21, hF, ((by first | exact ⟨(by first | exact ok_184 ty_1.2 u_5 ty_14 ty_15 g_24 | omega), ⟨(by first | exact ok_185 u_10 g_22 g_23 | omega), ((by first | (clear ha_p0 ha_p1 hw b_4 ty_12; omega) | omega))⟩⟩ | omega)), ⟨y_1, ey_1, ⟨y_3, ey_3.trans (congrFun (rw_put eG_2 (by decide)) _), ⟨y_7, ey_7.trans (congrFun ((rw_put eG_6 (by decide)).trans (rw_put eG_2 (by decide))) _), ⟨y_9, ey_9.trans (congrFun ((rw_put eG_8 (by decide)).trans ((rw_put eG_6 (by decide)).trans (rw_put eG_2 (by decide)))) _), ⟨y_12, ey_12.trans (congrFun ((rw_put eG_11 (by decide)).trans ((rw_put eG_8 (by decide)).trans ((rw_put eG_6 (by decide)).trans (rw_put eG_2 (by decide))))) _), ⟨y_14, ty_14, ⟨y_15, ty_15, ⟨y_17, ty_17, ⟨y_18, ty_18, ⟨y_19, ty_19, ⟨y_20, ty_20, ⟨(Fr.put (rs := []) (fs := [(7, 1), (7, 2), (7, 3), (7, 4), (7, 5), (7, 6), (7, 7)]) (Fr.put (rs := []) (fs := [(7, 1), (7, 2), (7, 3), (7, 4), (7, 5), (7, 6), (7, 7)]) (Fr.put (rs := []) (fs := [(7, 1), (7, 2), (7, 3), (7, 4), (7, 5), (7, 6), (7, 7)]) (Fr.put (rs := []) (fs := [(7, 1), (7, 2), (7, 3), (7, 4), (7, 5), (7, 6), (7, 7)]) (Fr.put (rs := []) (fs := [(7, 1), (7, 2), (7, 3), (7, 4), (7, 5), (7, 6), (7, 7)]) (Fr.put (rs := []) (fs := [(7, 1), (7, 2), (7, 3), (7, 4), (7, 5), (7, 6), (7, 7)]) (Fr.put (rs := []) (fs := [(7, 1), (7, 2), (7, 3), (7, 4), (7, 5), (7, 6), (7, 7)]) Fr.rf eG_2 (Or.inr (by decide))) eG_6 (Or.inr (by decide))) eG_8 (Or.inr (by decide))) eG_11 (Or.inr (by decide))) eG_13 (Or.inr (by decide))) eG_16 (Or.inr (by decide))) eG_21 (Or.inr (by decide))), ((gp_ne eG_21 (by decide)).trans ((gp_ne eG_16 (by decide)).trans ((gp_ne eG_13 (by decide)).trans ((gp_ne eG_11 (by decide)).trans ((gp_ne eG_8 (by decide)).trans ((gp_ne eG_6 (by decide)).trans (gp_eq eG_2))))))), ((gp_ne eG_21 (by decide)).trans ((gp_ne eG_16 (by decide)).trans ((gp_ne eG_13 (by decide)).trans ((gp_ne eG_11 (by decide)).trans ((gp_ne eG_8 (by decide)).trans (gp_eq eG_6)))))), ((gp_ne eG_21 (by decide)).trans ((gp_ne eG_16 (by decide)).trans ((gp_ne eG_13 (by decide)).trans ((gp_ne eG_11 (by decide)).trans (gp_eq eG_8))))), ((gp_ne eG_21 (by decide)).trans ((gp_ne eG_16 (by decide)).trans ((gp_ne eG_13 (by decide)).trans (gp_eq eG_11)))), ((gp_ne eG_21 (by decide)).trans ((gp_ne eG_16 (by decide)).trans (gp_eq eG_13))), ((gp_ne eG_21 (by decide)).trans (gp_eq eG_16)), (gp_eq eG_21)⟩⟩⟩⟩⟩⟩⟩⟩⟩⟩⟩⟩⟩), wd_t ht hW⟩, hS.F ht⟩) hS.2.2 dX0_lookAt_91

set_option maxHeartbeats 4000000 in
set_option maxRecDepth 100000 in
theorem k_cFind_1 (l : Launch) (D : va_G) (k : KT) (A : Nat → Prop) (a : Nat → Nat) (z : SK) (G : GS) (p0 : Int32) (p1 : Int32) (hv_6_4 : G.2.2 6 4 = 1) : Met l yX0_findLawful (WS yX0_findLawful cX0_findLawful 6 none) ({ frames := 3, cells := 0, slots := 0, locals := 66 }) (va_Pc [.ref (a 7), .ref (a 6), .int p0, .int p1] (cW D k A a z G)) (va_Qv (fun (G1 : GS) => P_cFind_1 p0 p1 G G1) (fun (G1 : GS) t => Wd D k A a G1 t.heap) A) 0 0 A := by
  refine Met.ofW (cc := cX0_findLawful) (maxL := 6) (ret := none) (by decide) rfl ?_
  intro p e s m args below meth c s₁ B hml hv
  obtain ⟨rfl, hW, hB_G, hK, hZ⟩ := hv
  have hx := B.exec
  have hb := B.bytes
  have hr := B.returns
  have hts := atoms_spec (ws := WS yX0_findLawful cX0_findLawful 6 none) B.pre
  have hgd : ∀ w ∈ gd, w ∈ WS yX0_findLawful cX0_findLawful 6 none := fun w h => List.mem_cons_of_mem _ h
  have hg : ∀ w ∈ gd, w.before _ s = true := fun w h => hts w (hgd w h)
  have hown : s.vm.findClass RX0 = some m.cls := findClass_of_methodNamed B.named
  have hS : va_S A s.heap s.heap [] := va_S.rf
  have hF : Fr [40] [] G G := Fr.rf
  have hl := lv_entry ([.ref (a 7), .ref (a 6), .int p0, .int p1]) (n := 6) (Nat.le_of_ble_eq_true rfl)
  rw [lg_entry_eq]
  generalize (lg_sl ([.ref (a 7), .ref (a 6), .int p0, .int p1]) ++ List.replicate (6 - (lg_sl ([.ref (a 7), .ref (a 6), .int p0, .int p1])).length) Slot.unset).toArray = ls at hl ⊢
  have hl : lv_has ls 6 [(0, .ref (a 7)), (1, .ref (a 6)), (2, .int p0), (3, .int p1)] := hl
  refine ic_0 hx hb dX0_findLawful_0 ?_
  refine lv_istore (lv' := [(4, .int 0), (0, .ref (a 7)), (1, .ref (a 6)), (2, .int p0), (3, .int p1)]) hx hb dX0_findLawful_1 hl (lt_b rfl) rfl (fun ls hl => ?_)
  refine lv_aload_n hx hb dX0_findLawful_3 rfl (lv_at hl 1 rfl) ?_
  have b_1 : 0 ≤ (G.1 7 1).toInt ∧ (G.1 7 1).toInt ≤ 400 := bd_7_1 hB_G
  refine S_getI (v := (G.1 7 1)) (C := RX0) (T := TX0) (N := 8) hx hb hg iX0 hown hK hW kd_7 rfl 1 (lt_b rfl) (hg (Cond.fieldLink RX0 21 "SlabWalk$Course" "length" "I") m375) (fun _ h9 => h9) rfl rfl dX0_findLawful_4 ?_
  refine ic_1 hx hb dX0_findLawful_7 ?_
  refine lv_isub hx hb dX0_findLawful_8 ?_
  refine lv_topi (fun y_2 ey_2 => ?_)
  have ty_2 : y_2.toInt = (G.1 7 1).toInt - 1 := xI_sub rfl rfl ey_2 ((by first | exact ok_56 b_1.1 | omega)) ((by first | exact ok_57 b_1.2 | omega))
  refine lv_istore (lv' := [(5, .int y_2), (4, .int 0), (0, .ref (a 7)), (1, .ref (a 6)), (2, .int p0), (3, .int p1)]) hx hb dX0_findLawful_9 hl (lt_b rfl) rfl (fun ls hl => ?_)
  have qc_10 : (0 : Int32).toInt = 0 := rfl
  refine loop_N (Inv := fun n H locs ls => ∃ (G_3 : GS) (x_7 : Int32) (x_8 : Int32), (n : Int) = x_7.toInt - (-1) ∧ ((-1) ≤ x_7.toInt ∧ x_7.toInt ≤ 399) ∧ Rc (St_k_cFind_1_1 p0 p1 G) (y_2, 0, G) (x_7, x_8, G_3) ∧ Wd D k A a G_3 H ∧ Bd G_3 ∧ Fr [40] [] G G_3 ∧ Fr [40] [] G G_3 ∧ va_S A s.heap H locs ∧ lv_has ls 6 [(5, .int x_7), (4, .int x_8), (0, .ref (a 7)), (1, .ref (a 6)), (2, .int p0), (3, .int p1)]) (fun n_6 H locs ls ih_5 hI => ?_) (y_2.toInt - (-1) : Int).toNat ⟨G, y_2, 0, (Int.toNat_of_nonneg ((by first | exact ok_186 b_1.1 ty_2 | omega))), ⟨(by first | exact ok_187 b_1.1 ty_2 | omega), (by first | exact ok_188 b_1.2 ty_2 | omega)⟩, Rc.rf, hW, hB_G, hF, Fr.rf, hS, lv_sub hl [0, 1, 2, 3, 4, 5] rfl⟩
  obtain ⟨G_3, x_7, x_8, hn_12, f_11, hX_9, hW, hB_G_3, hF, hq_4, hS, hl⟩ := hI
  refine lv_iload hx hb dX0_findLawful_11 (lv_at hl 0 rfl) ?_
  refine lv_if_lt (tgt := 64) hx hb dX0_findLawful_13 rfl (fun c_13 => ?_) (fun c_13 => ?_)
  · have c_13 : x_7.toInt < 0 := xI_lt rfl rfl c_13
    exact W.vret hx hb hr (fun t ht _ => ⟨⟨G_3, rfl, (P_cFind_1_mk ⟨hB_G_3, hF, ⟨y_2, ty_2, ⟨x_7, x_8, G_3, hX_9, f_11, hB_G_3, hq_4, ⟨c_13, rfl⟩⟩⟩⟩), wd_t ht hW⟩, hS.F ht⟩) hS.2.2 dX0_findLawful_64
  · have c_13 : 0 ≤ x_7.toInt := xI_nlt rfl rfl c_13
    refine lv_aload_n hx hb dX0_findLawful_16 rfl (lv_at hl 3 rfl) ?_
    refine lv_iload_n hx hb dX0_findLawful_17 rfl (lv_at hl 4 rfl) ?_
    refine lv_iload_n hx hb dX0_findLawful_18 rfl (lv_at hl 5 rfl) ?_
    refine lv_iload hx hb dX0_findLawful_19 (lv_at hl 0 rfl) ?_
    refine S_calli (va_runV (As := [.int p0, .int p1, .int x_7]) (rest := []) ⟨hx, hb, hml, hown, hts⟩ (k_lIsLine_1 l D k A a z G_3 p0 p1 x_7 (((hq_4.r9 6 4 rfl rfl)).trans (hv_6_4))) (cwV 3 hts (gd_V hgd m988 m941 m942 m122 m943) rfl rfl rfl hd_X3_isLine ⟨Nat.le_of_ble_eq_true rfl, Nat.le_of_ble_eq_true rfl⟩) (pre_W hW hB_G_3 hK hZ hS kd_6 rfl) rfl rfl hl.1 rfl (lv_room (Nat.le_of_ble_eq_true rfl)) dX0_findLawful_21 ⟨Nat.le_of_ble_eq_true rfl, Nat.le_of_ble_eq_true rfl⟩) hS (fun r_14 G_15 H locs hpo hW hS => ?_)
    have hX_18 : P_lIsLine_1 p0 p1 x_7 G_3 r_14 G_15 := hpo
    obtain ⟨hB_G_15, hq_16, f_19, -⟩ := hpo
    have hF := hF.call9 hq_16 rfl rfl
    refine lv_if_eq (tgt := 31) hx hb dX0_findLawful_24 rfl (fun c_20 => ?_) (fun c_20 => ?_)
    · have c_20 : r_14.toInt = 0 := xI_eq rfl rfl c_20
      refine lv_iload hx hb dX0_findLawful_31 (lv_at hl 1 rfl) ?_
      refine ic_1 hx hb dX0_findLawful_33 ?_
      refine lv_iadd hx hb dX0_findLawful_34 ?_
      refine lv_topi (fun y_21 ey_21 => ?_)
      refine lv_istore (lv' := [(4, .int y_21), (5, .int x_7), (0, .ref (a 7)), (1, .ref (a 6)), (2, .int p0), (3, .int p1)]) hx hb dX0_findLawful_35 hl (lt_b rfl) rfl (fun ls hl => ?_)
      refine lv_aload_n hx hb dX0_findLawful_37 rfl (lv_at hl 2 rfl) ?_
      refine S_getR (n := 40) (C := RX0) (T := TX0) (N := 8) hx hb hg iX0 hown hK hW kd_7 rfl 0 (lt_b rfl) (hg (Cond.fieldLink RX0 9 "SlabWalk$Course" "lawful" "[Z") m371) (fun _ h9 => h9) rfl dX0_findLawful_38 ?_
      refine lv_iload hx hb dX0_findLawful_41 (lv_at hl 1 rfl) ?_
      refine lv_iload hx hb dX0_findLawful_43 (lv_at hl 0 rfl) ?_
      refine lv_aload_n hx hb dX0_findLawful_45 rfl (lv_at hl 2 rfl) ?_
      have b_22 : 0 ≤ (G.1 7 2).toInt ∧ (G.1 7 2).toInt ≤ 12 := bd_7_2 hB_G
      refine S_getI (v := (G.1 7 2)) (C := RX0) (T := TX0) (N := 8) hx hb hg iX0 hown hK hW kd_7 rfl 2 (lt_b rfl) (hg (Cond.fieldLink RX0 27 "SlabWalk$Course" "foot" "I") m376) (fun _ h9 => h9) rfl ((hq_16.i9 7 2 rfl rfl).trans (hq_4.i9 7 2 rfl rfl)) dX0_findLawful_46 ?_
      refine lv_icmp_lt (tgt := 56) hx hb dX0_findLawful_49 rfl (fun c_23 => ?_) (fun c_23 => ?_)
      · have c_23 : y_21.toInt < (G.1 7 2).toInt := xI_lt rfl rfl c_23
        refine ic_0 hx hb dX0_findLawful_56 ?_
        refine S_zast hx hb hK hW hS kd_40 (vin ((by first | exact c_13 | omega)) ((by first | exact ok_189 f_11.2 | omega))) dX0_findLawful_57 (fun G_24 H locs eG_24 hW hS => ?_)
        have hB_G_24 : Bd G_24 := hB_G_15.put (lo := 0) (hi := 1) eG_24 rfl rfl rfl nz_bool.1 nz_bool.2 (hB_G_15.2.put eG_24 rfl)
        have hF := hF.put eG_24 (Or.inl (by decide))
        obtain ⟨y_25, ey_25⟩ : ∃ q, q = x_7 + (-1) := ⟨_, rfl⟩
        have ty_25 : y_25.toInt = x_7.toInt + (-1) := xI_add rfl rfl ey_25 ((by first | exact ok_190 c_13 | omega)) ((by first | exact ok_191 f_11.2 | omega))
        refine lv_iinc (v := y_25) (lv' := [(5, .int y_25), (4, .int y_21), (0, .ref (a 7)), (1, .ref (a 6)), (2, .int p0), (3, .int p1)]) hx hb dX0_findLawful_58 hl (k := 1) rfl (by rw [ey_25]; rfl) (lt_b rfl) rfl (fun ls hl => ?_)
        refine lv_goto (tgt := 11) hx hb dX0_findLawful_61 rfl ?_
        exact ih_5 (y_25.toInt - (-1) : Int).toNat ((by first | (clear b_1 ty_2 f_19 c_20 b_22 c_23; omega) | omega)) _ _ _ ⟨G_24, y_25, y_21, (Int.toNat_of_nonneg ((by first | exact ok_192 c_13 ty_25 | omega))), ⟨(by first | exact ok_193 c_13 ty_25 | omega), (by first | exact ok_194 f_11.2 ty_25 | omega)⟩, (hX_9.st (St_k_cFind_1_1_mk ⟨x_7, x_8, G_3, y_25, y_21, G_24, rfl, rfl, f_11, hB_G_3, ⟨c_13, ⟨r_14, G_15, hX_18, (Or.inl ⟨c_20, ⟨y_21, ey_21, (Or.inl ⟨c_23, ⟨y_25, ty_25, ⟨rfl, rfl, (Fr.put (rs := [40]) (fs := []) Fr.rf eG_24 (Or.inl (by decide))), rw_ast eG_24⟩⟩⟩)⟩⟩)⟩⟩⟩)), hW, hB_G_24, hF, (Fr.put (rs := [40]) (fs := []) (Fr.call9 (rs := [40]) (fs := []) (Fr.call9 (rs := [40]) (fs := []) Fr.rf hq_4 rfl rfl) hq_16 rfl rfl) eG_24 (Or.inl (by decide))), hS, lv_sub hl [0, 1, 2, 3, 4, 5] rfl⟩
      · have c_23 : (G.1 7 2).toInt ≤ y_21.toInt := xI_nlt rfl rfl c_23
        refine ic_1 hx hb dX0_findLawful_52 ?_
        refine lv_goto (tgt := 57) hx hb dX0_findLawful_53 rfl ?_
        refine S_zast hx hb hK hW hS kd_40 (vin ((by first | exact c_13 | omega)) ((by first | exact ok_189 f_11.2 | omega))) dX0_findLawful_57 (fun G_26 H locs eG_26 hW hS => ?_)
        have hB_G_26 : Bd G_26 := hB_G_15.put (lo := 0) (hi := 1) eG_26 rfl rfl rfl nz_bool.1 nz_bool.2 (hB_G_15.2.put eG_26 rfl)
        have hF := hF.put eG_26 (Or.inl (by decide))
        obtain ⟨y_27, ey_27⟩ : ∃ q, q = x_7 + (-1) := ⟨_, rfl⟩
        have ty_27 : y_27.toInt = x_7.toInt + (-1) := xI_add rfl rfl ey_27 ((by first | exact ok_190 c_13 | omega)) ((by first | exact ok_191 f_11.2 | omega))
        refine lv_iinc (v := y_27) (lv' := [(5, .int y_27), (4, .int y_21), (0, .ref (a 7)), (1, .ref (a 6)), (2, .int p0), (3, .int p1)]) hx hb dX0_findLawful_58 hl (k := 1) rfl (by rw [ey_27]; rfl) (lt_b rfl) rfl (fun ls hl => ?_)
        refine lv_goto (tgt := 11) hx hb dX0_findLawful_61 rfl ?_
        exact ih_5 (y_27.toInt - (-1) : Int).toNat ((by first | (clear b_1 ty_2 f_19 c_20 b_22 c_23; omega) | omega)) _ _ _ ⟨G_26, y_27, y_21, (Int.toNat_of_nonneg ((by first | exact ok_192 c_13 ty_27 | omega))), ⟨(by first | exact ok_193 c_13 ty_27 | omega), (by first | exact ok_194 f_11.2 ty_27 | omega)⟩, (hX_9.st (St_k_cFind_1_1_mk ⟨x_7, x_8, G_3, y_27, y_21, G_26, rfl, rfl, f_11, hB_G_3, ⟨c_13, ⟨r_14, G_15, hX_18, (Or.inl ⟨c_20, ⟨y_21, ey_21, (Or.inr ⟨c_23, ⟨y_27, ty_27, ⟨rfl, rfl, (Fr.put (rs := [40]) (fs := []) Fr.rf eG_26 (Or.inl (by decide))), rw_ast eG_26⟩⟩⟩)⟩⟩)⟩⟩⟩)), hW, hB_G_26, hF, (Fr.put (rs := [40]) (fs := []) (Fr.call9 (rs := [40]) (fs := []) (Fr.call9 (rs := [40]) (fs := []) Fr.rf hq_4 rfl rfl) hq_16 rfl rfl) eG_26 (Or.inl (by decide))), hS, lv_sub hl [0, 1, 2, 3, 4, 5] rfl⟩
    · have c_20 : r_14.toInt ≠ 0 := xI_ne rfl rfl c_20
      refine ic_0 hx hb dX0_findLawful_27 ?_
      refine lv_goto (tgt := 35) hx hb dX0_findLawful_28 rfl ?_
      refine lv_istore (lv' := [(4, .int 0), (5, .int x_7), (0, .ref (a 7)), (1, .ref (a 6)), (2, .int p0), (3, .int p1)]) hx hb dX0_findLawful_35 hl (lt_b rfl) rfl (fun ls hl => ?_)
      refine lv_aload_n hx hb dX0_findLawful_37 rfl (lv_at hl 2 rfl) ?_
      refine S_getR (n := 40) (C := RX0) (T := TX0) (N := 8) hx hb hg iX0 hown hK hW kd_7 rfl 0 (lt_b rfl) (hg (Cond.fieldLink RX0 9 "SlabWalk$Course" "lawful" "[Z") m371) (fun _ h9 => h9) rfl dX0_findLawful_38 ?_
      refine lv_iload hx hb dX0_findLawful_41 (lv_at hl 1 rfl) ?_
      refine lv_iload hx hb dX0_findLawful_43 (lv_at hl 0 rfl) ?_
      refine lv_aload_n hx hb dX0_findLawful_45 rfl (lv_at hl 2 rfl) ?_
      have b_28 : 0 ≤ (G.1 7 2).toInt ∧ (G.1 7 2).toInt ≤ 12 := bd_7_2 hB_G
      refine S_getI (v := (G.1 7 2)) (C := RX0) (T := TX0) (N := 8) hx hb hg iX0 hown hK hW kd_7 rfl 2 (lt_b rfl) (hg (Cond.fieldLink RX0 27 "SlabWalk$Course" "foot" "I") m376) (fun _ h9 => h9) rfl ((hq_16.i9 7 2 rfl rfl).trans (hq_4.i9 7 2 rfl rfl)) dX0_findLawful_46 ?_
      refine lv_icmp_lt (tgt := 56) hx hb dX0_findLawful_49 rfl (fun c_29 => ?_) (fun c_29 => ?_)
      · have c_29 : 0 < (G.1 7 2).toInt := xI_lt rfl rfl c_29
        refine ic_0 hx hb dX0_findLawful_56 ?_
        refine S_zast hx hb hK hW hS kd_40 (vin ((by first | exact c_13 | omega)) ((by first | exact ok_189 f_11.2 | omega))) dX0_findLawful_57 (fun G_30 H locs eG_30 hW hS => ?_)
        have hB_G_30 : Bd G_30 := hB_G_15.put (lo := 0) (hi := 1) eG_30 rfl rfl rfl nz_bool.1 nz_bool.2 (hB_G_15.2.put eG_30 rfl)
        have hF := hF.put eG_30 (Or.inl (by decide))
        obtain ⟨y_31, ey_31⟩ : ∃ q, q = x_7 + (-1) := ⟨_, rfl⟩
        have ty_31 : y_31.toInt = x_7.toInt + (-1) := xI_add rfl rfl ey_31 ((by first | exact ok_190 c_13 | omega)) ((by first | exact ok_191 f_11.2 | omega))
        refine lv_iinc (v := y_31) (lv' := [(5, .int y_31), (4, .int 0), (0, .ref (a 7)), (1, .ref (a 6)), (2, .int p0), (3, .int p1)]) hx hb dX0_findLawful_58 hl (k := 1) rfl (by rw [ey_31]; rfl) (lt_b rfl) rfl (fun ls hl => ?_)
        refine lv_goto (tgt := 11) hx hb dX0_findLawful_61 rfl ?_
        have qc_32 : (0 : Int32).toInt = 0 := rfl
        exact ih_5 (y_31.toInt - (-1) : Int).toNat ((by first | (clear b_1 ty_2 f_19 c_20 b_28 c_29; omega) | omega)) _ _ _ ⟨G_30, y_31, 0, (Int.toNat_of_nonneg ((by first | exact ok_192 c_13 ty_31 | omega))), ⟨(by first | exact ok_193 c_13 ty_31 | omega), (by first | exact ok_194 f_11.2 ty_31 | omega)⟩, (hX_9.st (St_k_cFind_1_1_mk ⟨x_7, x_8, G_3, y_31, 0, G_30, rfl, rfl, f_11, hB_G_3, ⟨c_13, ⟨r_14, G_15, hX_18, (Or.inr ⟨c_20, (Or.inl ⟨c_29, ⟨y_31, ty_31, ⟨rfl, rfl, (Fr.put (rs := [40]) (fs := []) Fr.rf eG_30 (Or.inl (by decide))), rw_ast eG_30⟩⟩⟩)⟩)⟩⟩⟩)), hW, hB_G_30, hF, (Fr.put (rs := [40]) (fs := []) (Fr.call9 (rs := [40]) (fs := []) (Fr.call9 (rs := [40]) (fs := []) Fr.rf hq_4 rfl rfl) hq_16 rfl rfl) eG_30 (Or.inl (by decide))), hS, lv_sub hl [0, 1, 2, 3, 4, 5] rfl⟩
      · have c_29 : (G.1 7 2).toInt ≤ 0 := xI_nlt rfl rfl c_29
        refine ic_1 hx hb dX0_findLawful_52 ?_
        refine lv_goto (tgt := 57) hx hb dX0_findLawful_53 rfl ?_
        refine S_zast hx hb hK hW hS kd_40 (vin ((by first | exact c_13 | omega)) ((by first | exact ok_189 f_11.2 | omega))) dX0_findLawful_57 (fun G_33 H locs eG_33 hW hS => ?_)
        have hB_G_33 : Bd G_33 := hB_G_15.put (lo := 0) (hi := 1) eG_33 rfl rfl rfl nz_bool.1 nz_bool.2 (hB_G_15.2.put eG_33 rfl)
        have hF := hF.put eG_33 (Or.inl (by decide))
        obtain ⟨y_34, ey_34⟩ : ∃ q, q = x_7 + (-1) := ⟨_, rfl⟩
        have ty_34 : y_34.toInt = x_7.toInt + (-1) := xI_add rfl rfl ey_34 ((by first | exact ok_190 c_13 | omega)) ((by first | exact ok_191 f_11.2 | omega))
        refine lv_iinc (v := y_34) (lv' := [(5, .int y_34), (4, .int 0), (0, .ref (a 7)), (1, .ref (a 6)), (2, .int p0), (3, .int p1)]) hx hb dX0_findLawful_58 hl (k := 1) rfl (by rw [ey_34]; rfl) (lt_b rfl) rfl (fun ls hl => ?_)
        refine lv_goto (tgt := 11) hx hb dX0_findLawful_61 rfl ?_
        have qc_35 : (0 : Int32).toInt = 0 := rfl
        exact ih_5 (y_34.toInt - (-1) : Int).toNat ((by first | (clear b_1 ty_2 f_19 c_20 b_28 c_29; omega) | omega)) _ _ _ ⟨G_33, y_34, 0, (Int.toNat_of_nonneg ((by first | exact ok_192 c_13 ty_34 | omega))), ⟨(by first | exact ok_193 c_13 ty_34 | omega), (by first | exact ok_194 f_11.2 ty_34 | omega)⟩, (hX_9.st (St_k_cFind_1_1_mk ⟨x_7, x_8, G_3, y_34, 0, G_33, rfl, rfl, f_11, hB_G_3, ⟨c_13, ⟨r_14, G_15, hX_18, (Or.inr ⟨c_20, (Or.inr ⟨c_29, ⟨y_34, ty_34, ⟨rfl, rfl, (Fr.put (rs := [40]) (fs := []) Fr.rf eG_33 (Or.inl (by decide))), rw_ast eG_33⟩⟩⟩)⟩)⟩⟩⟩)), hW, hB_G_33, hF, (Fr.put (rs := [40]) (fs := []) (Fr.call9 (rs := [40]) (fs := []) (Fr.call9 (rs := [40]) (fs := []) Fr.rf hq_4 rfl rfl) hq_16 rfl rfl) eG_33 (Or.inl (by decide))), hS, lv_sub hl [0, 1, 2, 3, 4, 5] rfl⟩
