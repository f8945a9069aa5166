theorem m51 : Cond.selects RX12 yX12_here yX12_here ∈ gd := gds_4 3 rfl
theorem m1320 : Cond.fieldLink RX12 205 "SlabWalkModel" "sort" "I" ∈ gd := gdc_6_0 4 rfl gw_fieldLink
theorem m1321 : Cond.fieldLink RX12 195 "SlabWalkModel" "place" "I" ∈ gd := gdc_6_0 5 rfl gw_fieldLink
theorem m1322 : Cond.fieldLink RX12 202 "SlabWalkModel" "number" "I" ∈ gd := gdc_6_0 6 rfl gw_fieldLink
theorem m1323 : Cond.fieldLink RX12 198 "SlabWalkModel" "word" "J" ∈ gd := gdc_6_0 7 rfl gw_fieldLink
theorem m1606 : Cond.methodLink RX12 191 yX12_here ∈ gd := gdc_7_3 2 rfl gw_methodLink
theorem m1608 : Cond.instanceMethod yX12_here ∈ gd := gdc_7_3 4 rfl gw_instanceMethod
theorem m1609 : Cond.code yX12_here cX12_here 2 (some .int) ∈ gd := gdc_7_3 5 rfl gw_code
theorem m1610 : Cond.methodLink RX12 208 yX12_isLetter ∈ gd := gdc_7_3 6 rfl gw_methodLink
theorem m1611 : Cond.static yX12_isLetter ∈ gd := gdc_7_3 7 rfl gw_static
theorem m1612 : Cond.code yX12_isLetter cX12_isLetter 1 (some .boolean) ∈ gd := gdc_7_3 8 rfl gw_code
theorem m1613 : Cond.methodLink RX12 212 yX12_isDigit ∈ gd := gdc_7_3 9 rfl gw_methodLink
theorem m1614 : Cond.static yX12_isDigit ∈ gd := gdc_7_3 10 rfl gw_static
theorem m1615 : Cond.code yX12_isDigit cX12_isDigit 1 (some .boolean) ∈ gd := gdc_7_3 11 rfl gw_code
theorem m1616 : Cond.methodLink RX12 215 yX12_isSign ∈ gd := gdc_7_3 12 rfl gw_methodLink
theorem m1617 : Cond.static yX12_isSign ∈ gd := gdc_7_3 13 rfl gw_static
theorem m1618 : Cond.code yX12_isSign cX12_isSign 1 (some .boolean) ∈ gd := gdc_7_3 14 rfl gw_code
def rbX12_token_0 : List (Nat × List Nat) := [(0, [42]), (1, [3]), (2, [182, 0, 191]), (5, [16, 32]), (7, [159, 0, 13]), (10, [42]), (11, [3]), (12, [182, 0, 191]), (15, [16, 10]), (17, [160, 0, 16]), (20, [42]), (21, [89]), (22, [180, 0, 185]), (25, [4]), (26, [96]), (27, [181, 0, 185]), (30, [167, 255, 226]), (33, [42]), (34, [42]), (35, [180, 0, 185]), (38, [181, 0, 195]), (41, [42]), (42, [3]), (43, [182, 0, 191])]
theorem rcX12_token_0 : dgo (lb cX12_token) 0 rbX12_token_0 = true := by decide +kernel
theorem dX12_token_0 : decode cX12_token 0 = .ok (.aload_n 0, 1) := dk_42 (dw rcX12_token_0 0 rfl)
theorem dX12_token_1 : decode cX12_token 1 = .ok (.iconst 0, 1) := dk_3 (dw rcX12_token_0 1 rfl)
theorem dX12_token_2 : decode cX12_token 2 = .ok (.invokevirtual 191, 3) := dk_182 (dw rcX12_token_0 2 rfl) rfl
theorem dX12_token_5 : decode cX12_token 5 = .ok (.bipush 32, 2) := dk_16 (dw rcX12_token_0 3 rfl) rfl
theorem dX12_token_7 : decode cX12_token 7 = .ok (.if_icmp .eq 13, 3) := dk_159 (dw rcX12_token_0 4 rfl) rfl
theorem dX12_token_10 : decode cX12_token 10 = .ok (.aload_n 0, 1) := dk_42 (dw rcX12_token_0 5 rfl)
theorem dX12_token_11 : decode cX12_token 11 = .ok (.iconst 0, 1) := dk_3 (dw rcX12_token_0 6 rfl)
theorem dX12_token_12 : decode cX12_token 12 = .ok (.invokevirtual 191, 3) := dk_182 (dw rcX12_token_0 7 rfl) rfl
theorem dX12_token_15 : decode cX12_token 15 = .ok (.bipush 10, 2) := dk_16 (dw rcX12_token_0 8 rfl) rfl
theorem dX12_token_17 : decode cX12_token 17 = .ok (.if_icmp .ne 16, 3) := dk_160 (dw rcX12_token_0 9 rfl) rfl
theorem dX12_token_20 : decode cX12_token 20 = .ok (.aload_n 0, 1) := dk_42 (dw rcX12_token_0 10 rfl)
theorem dX12_token_21 : decode cX12_token 21 = .ok (.dup, 1) := dk_89 (dw rcX12_token_0 11 rfl)
theorem dX12_token_22 : decode cX12_token 22 = .ok (.getfield 185, 3) := dk_180 (dw rcX12_token_0 12 rfl) rfl
theorem dX12_token_25 : decode cX12_token 25 = .ok (.iconst 1, 1) := dk_4 (dw rcX12_token_0 13 rfl)
theorem dX12_token_26 : decode cX12_token 26 = .ok (.iadd, 1) := dk_96 (dw rcX12_token_0 14 rfl)
theorem dX12_token_27 : decode cX12_token 27 = .ok (.putfield 185, 3) := dk_181 (dw rcX12_token_0 15 rfl) rfl
theorem dX12_token_30 : decode cX12_token 30 = .ok (.goto (-30), 3) := dk_167 (dw rcX12_token_0 16 rfl) rfl
theorem dX12_token_33 : decode cX12_token 33 = .ok (.aload_n 0, 1) := dk_42 (dw rcX12_token_0 17 rfl)
theorem dX12_token_34 : decode cX12_token 34 = .ok (.aload_n 0, 1) := dk_42 (dw rcX12_token_0 18 rfl)
theorem dX12_token_35 : decode cX12_token 35 = .ok (.getfield 185, 3) := dk_180 (dw rcX12_token_0 19 rfl) rfl
theorem dX12_token_38 : decode cX12_token 38 = .ok (.putfield 195, 3) := dk_181 (dw rcX12_token_0 20 rfl) rfl
theorem dX12_token_41 : decode cX12_token 41 = .ok (.aload_n 0, 1) := dk_42 (dw rcX12_token_0 21 rfl)
theorem dX12_token_42 : decode cX12_token 42 = .ok (.iconst 0, 1) := dk_3 (dw rcX12_token_0 22 rfl)
theorem dX12_token_43 : decode cX12_token 43 = .ok (.invokevirtual 191, 3) := dk_182 (dw rcX12_token_0 23 rfl) rfl
def rbX12_token_46 : List (Nat × List Nat) := [(46, [60]), (47, [3]), (48, [61]), (49, [42]), (50, [9]), (51, [181, 0, 198]), (54, [42]), (55, [3]), (56, [181, 0, 202]), (59, [27]), (60, [156, 0, 11]), (63, [42]), (64, [3]), (65, [181, 0, 205]), (68, [167, 0, 164]), (71, [27]), (72, [184, 0, 208]), (75, [153, 0, 62]), (78, [42]), (79, [28]), (80, [182, 0, 191]), (83, [184, 0, 208]), (86, [153, 0, 33]), (89, [28])]
theorem rcX12_token_46 : dgo (lb cX12_token) 0 rbX12_token_46 = true := by decide +kernel
theorem dX12_token_46 : decode cX12_token 46 = .ok (.istore_n 1, 1) := dk_60 (dw rcX12_token_46 0 rfl)
theorem dX12_token_47 : decode cX12_token 47 = .ok (.iconst 0, 1) := dk_3 (dw rcX12_token_46 1 rfl)
theorem dX12_token_48 : decode cX12_token 48 = .ok (.istore_n 2, 1) := dk_61 (dw rcX12_token_46 2 rfl)
theorem dX12_token_49 : decode cX12_token 49 = .ok (.aload_n 0, 1) := dk_42 (dw rcX12_token_46 3 rfl)
theorem dX12_token_50 : decode cX12_token 50 = .ok (.lconst 0, 1) := dk_9 (dw rcX12_token_46 4 rfl)
theorem dX12_token_51 : decode cX12_token 51 = .ok (.putfield 198, 3) := dk_181 (dw rcX12_token_46 5 rfl) rfl
theorem dX12_token_54 : decode cX12_token 54 = .ok (.aload_n 0, 1) := dk_42 (dw rcX12_token_46 6 rfl)
theorem dX12_token_55 : decode cX12_token 55 = .ok (.iconst 0, 1) := dk_3 (dw rcX12_token_46 7 rfl)
theorem dX12_token_56 : decode cX12_token 56 = .ok (.putfield 202, 3) := dk_181 (dw rcX12_token_46 8 rfl) rfl
theorem dX12_token_59 : decode cX12_token 59 = .ok (.iload_n 1, 1) := dk_27 (dw rcX12_token_46 9 rfl)
theorem dX12_token_60 : decode cX12_token 60 = .ok (.ifCond .ge 11, 3) := dk_156 (dw rcX12_token_46 10 rfl) rfl
theorem dX12_token_63 : decode cX12_token 63 = .ok (.aload_n 0, 1) := dk_42 (dw rcX12_token_46 11 rfl)
theorem dX12_token_64 : decode cX12_token 64 = .ok (.iconst 0, 1) := dk_3 (dw rcX12_token_46 12 rfl)
theorem dX12_token_65 : decode cX12_token 65 = .ok (.putfield 205, 3) := dk_181 (dw rcX12_token_46 13 rfl) rfl
theorem dX12_token_68 : decode cX12_token 68 = .ok (.goto 164, 3) := dk_167 (dw rcX12_token_46 14 rfl) rfl
theorem dX12_token_71 : decode cX12_token 71 = .ok (.iload_n 1, 1) := dk_27 (dw rcX12_token_46 15 rfl)
theorem dX12_token_72 : decode cX12_token 72 = .ok (.invokestatic 208, 3) := dk_184 (dw rcX12_token_46 16 rfl) rfl
theorem dX12_token_75 : decode cX12_token 75 = .ok (.ifCond .eq 62, 3) := dk_153 (dw rcX12_token_46 17 rfl) rfl
theorem dX12_token_78 : decode cX12_token 78 = .ok (.aload_n 0, 1) := dk_42 (dw rcX12_token_46 18 rfl)
theorem dX12_token_79 : decode cX12_token 79 = .ok (.iload_n 2, 1) := dk_28 (dw rcX12_token_46 19 rfl)
theorem dX12_token_80 : decode cX12_token 80 = .ok (.invokevirtual 191, 3) := dk_182 (dw rcX12_token_46 20 rfl) rfl
theorem dX12_token_83 : decode cX12_token 83 = .ok (.invokestatic 208, 3) := dk_184 (dw rcX12_token_46 21 rfl) rfl
theorem dX12_token_86 : decode cX12_token 86 = .ok (.ifCond .eq 33, 3) := dk_153 (dw rcX12_token_46 22 rfl) rfl
theorem dX12_token_89 : decode cX12_token 89 = .ok (.iload_n 2, 1) := dk_28 (dw rcX12_token_46 23 rfl)
def rbX12_token_90 : List (Nat × List Nat) := [(90, [16, 8]), (92, [162, 0, 21]), (95, [42]), (96, [42]), (97, [180, 0, 198]), (100, [16, 8]), (102, [121]), (103, [42]), (104, [28]), (105, [182, 0, 191]), (108, [133]), (109, [129]), (110, [181, 0, 198]), (113, [132, 2, 1]), (116, [167, 255, 218]), (119, [42]), (120, [28]), (121, [16, 8]), (123, [164, 0, 7]), (126, [6]), (127, [167, 0, 4]), (130, [4]), (131, [181, 0, 205]), (134, [167, 0, 98])]
theorem rcX12_token_90 : dgo (lb cX12_token) 0 rbX12_token_90 = true := by decide +kernel
theorem dX12_token_90 : decode cX12_token 90 = .ok (.bipush 8, 2) := dk_16 (dw rcX12_token_90 0 rfl) rfl
theorem dX12_token_92 : decode cX12_token 92 = .ok (.if_icmp .ge 21, 3) := dk_162 (dw rcX12_token_90 1 rfl) rfl
theorem dX12_token_95 : decode cX12_token 95 = .ok (.aload_n 0, 1) := dk_42 (dw rcX12_token_90 2 rfl)
theorem dX12_token_96 : decode cX12_token 96 = .ok (.aload_n 0, 1) := dk_42 (dw rcX12_token_90 3 rfl)
theorem dX12_token_97 : decode cX12_token 97 = .ok (.getfield 198, 3) := dk_180 (dw rcX12_token_90 4 rfl) rfl
theorem dX12_token_100 : decode cX12_token 100 = .ok (.bipush 8, 2) := dk_16 (dw rcX12_token_90 5 rfl) rfl
theorem dX12_token_102 : decode cX12_token 102 = .ok (.lshl, 1) := dk_121 (dw rcX12_token_90 6 rfl)
theorem dX12_token_103 : decode cX12_token 103 = .ok (.aload_n 0, 1) := dk_42 (dw rcX12_token_90 7 rfl)
theorem dX12_token_104 : decode cX12_token 104 = .ok (.iload_n 2, 1) := dk_28 (dw rcX12_token_90 8 rfl)
theorem dX12_token_105 : decode cX12_token 105 = .ok (.invokevirtual 191, 3) := dk_182 (dw rcX12_token_90 9 rfl) rfl
theorem dX12_token_108 : decode cX12_token 108 = .ok (.i2l, 1) := dk_133 (dw rcX12_token_90 10 rfl)
theorem dX12_token_109 : decode cX12_token 109 = .ok (.lor, 1) := dk_129 (dw rcX12_token_90 11 rfl)
theorem dX12_token_110 : decode cX12_token 110 = .ok (.putfield 198, 3) := dk_181 (dw rcX12_token_90 12 rfl) rfl
theorem dX12_token_113 : decode cX12_token 113 = .ok (.iinc 2 1, 3) := dk_132 (dw rcX12_token_90 13 rfl) rfl
theorem dX12_token_116 : decode cX12_token 116 = .ok (.goto (-38), 3) := dk_167 (dw rcX12_token_90 14 rfl) rfl
theorem dX12_token_119 : decode cX12_token 119 = .ok (.aload_n 0, 1) := dk_42 (dw rcX12_token_90 15 rfl)
theorem dX12_token_120 : decode cX12_token 120 = .ok (.iload_n 2, 1) := dk_28 (dw rcX12_token_90 16 rfl)
theorem dX12_token_121 : decode cX12_token 121 = .ok (.bipush 8, 2) := dk_16 (dw rcX12_token_90 17 rfl) rfl
theorem dX12_token_123 : decode cX12_token 123 = .ok (.if_icmp .le 7, 3) := dk_164 (dw rcX12_token_90 18 rfl) rfl
theorem dX12_token_126 : decode cX12_token 126 = .ok (.iconst 3, 1) := dk_6 (dw rcX12_token_90 19 rfl)
theorem dX12_token_127 : decode cX12_token 127 = .ok (.goto 4, 3) := dk_167 (dw rcX12_token_90 20 rfl) rfl
theorem dX12_token_130 : decode cX12_token 130 = .ok (.iconst 1, 1) := dk_4 (dw rcX12_token_90 21 rfl)
theorem dX12_token_131 : decode cX12_token 131 = .ok (.putfield 205, 3) := dk_181 (dw rcX12_token_90 22 rfl) rfl
theorem dX12_token_134 : decode cX12_token 134 = .ok (.goto 98, 3) := dk_167 (dw rcX12_token_90 23 rfl) rfl
def rbX12_token_137 : List (Nat × List Nat) := [(137, [27]), (138, [184, 0, 212]), (141, [153, 0, 73]), (144, [42]), (145, [28]), (146, [182, 0, 191]), (149, [184, 0, 212]), (152, [153, 0, 34]), (155, [28]), (156, [7]), (157, [162, 0, 23]), (160, [42]), (161, [16, 10]), (163, [42]), (164, [180, 0, 202]), (167, [104]), (168, [42]), (169, [28]), (170, [182, 0, 191]), (173, [96]), (174, [16, 48]), (176, [100]), (177, [181, 0, 202]), (180, [132, 2, 1])]
theorem rcX12_token_137 : dgo (lb cX12_token) 0 rbX12_token_137 = true := by decide +kernel
theorem dX12_token_137 : decode cX12_token 137 = .ok (.iload_n 1, 1) := dk_27 (dw rcX12_token_137 0 rfl)
theorem dX12_token_138 : decode cX12_token 138 = .ok (.invokestatic 212, 3) := dk_184 (dw rcX12_token_137 1 rfl) rfl
theorem dX12_token_141 : decode cX12_token 141 = .ok (.ifCond .eq 73, 3) := dk_153 (dw rcX12_token_137 2 rfl) rfl
theorem dX12_token_144 : decode cX12_token 144 = .ok (.aload_n 0, 1) := dk_42 (dw rcX12_token_137 3 rfl)
theorem dX12_token_145 : decode cX12_token 145 = .ok (.iload_n 2, 1) := dk_28 (dw rcX12_token_137 4 rfl)
theorem dX12_token_146 : decode cX12_token 146 = .ok (.invokevirtual 191, 3) := dk_182 (dw rcX12_token_137 5 rfl) rfl
theorem dX12_token_149 : decode cX12_token 149 = .ok (.invokestatic 212, 3) := dk_184 (dw rcX12_token_137 6 rfl) rfl
theorem dX12_token_152 : decode cX12_token 152 = .ok (.ifCond .eq 34, 3) := dk_153 (dw rcX12_token_137 7 rfl) rfl
theorem dX12_token_155 : decode cX12_token 155 = .ok (.iload_n 2, 1) := dk_28 (dw rcX12_token_137 8 rfl)
theorem dX12_token_156 : decode cX12_token 156 = .ok (.iconst 4, 1) := dk_7 (dw rcX12_token_137 9 rfl)
theorem dX12_token_157 : decode cX12_token 157 = .ok (.if_icmp .ge 23, 3) := dk_162 (dw rcX12_token_137 10 rfl) rfl
theorem dX12_token_160 : decode cX12_token 160 = .ok (.aload_n 0, 1) := dk_42 (dw rcX12_token_137 11 rfl)
theorem dX12_token_161 : decode cX12_token 161 = .ok (.bipush 10, 2) := dk_16 (dw rcX12_token_137 12 rfl) rfl
theorem dX12_token_163 : decode cX12_token 163 = .ok (.aload_n 0, 1) := dk_42 (dw rcX12_token_137 13 rfl)
theorem dX12_token_164 : decode cX12_token 164 = .ok (.getfield 202, 3) := dk_180 (dw rcX12_token_137 14 rfl) rfl
theorem dX12_token_167 : decode cX12_token 167 = .ok (.imul, 1) := dk_104 (dw rcX12_token_137 15 rfl)
theorem dX12_token_168 : decode cX12_token 168 = .ok (.aload_n 0, 1) := dk_42 (dw rcX12_token_137 16 rfl)
theorem dX12_token_169 : decode cX12_token 169 = .ok (.iload_n 2, 1) := dk_28 (dw rcX12_token_137 17 rfl)
theorem dX12_token_170 : decode cX12_token 170 = .ok (.invokevirtual 191, 3) := dk_182 (dw rcX12_token_137 18 rfl) rfl
theorem dX12_token_173 : decode cX12_token 173 = .ok (.iadd, 1) := dk_96 (dw rcX12_token_137 19 rfl)
theorem dX12_token_174 : decode cX12_token 174 = .ok (.bipush 48, 2) := dk_16 (dw rcX12_token_137 20 rfl) rfl
theorem dX12_token_176 : decode cX12_token 176 = .ok (.isub, 1) := dk_100 (dw rcX12_token_137 21 rfl)
theorem dX12_token_177 : decode cX12_token 177 = .ok (.putfield 202, 3) := dk_181 (dw rcX12_token_137 22 rfl) rfl
theorem dX12_token_180 : decode cX12_token 180 = .ok (.iinc 2 1, 3) := dk_132 (dw rcX12_token_137 23 rfl) rfl
def rbX12_token_183 : List (Nat × List Nat) := [(183, [167, 255, 217]), (186, [42]), (187, [28]), (188, [7]), (189, [163, 0, 14]), (192, [42]), (193, [28]), (194, [182, 0, 191]), (197, [184, 0, 208]), (200, [153, 0, 7]), (203, [6]), (204, [167, 0, 4]), (207, [5]), (208, [181, 0, 205]), (211, [167, 0, 21]), (214, [4]), (215, [61]), (216, [42]), (217, [27]), (218, [184, 0, 215]), (221, [153, 0, 7]), (224, [27]), (225, [167, 0, 4]), (228, [6])]
theorem rcX12_token_183 : dgo (lb cX12_token) 0 rbX12_token_183 = true := by decide +kernel
theorem dX12_token_183 : decode cX12_token 183 = .ok (.goto (-39), 3) := dk_167 (dw rcX12_token_183 0 rfl) rfl
theorem dX12_token_186 : decode cX12_token 186 = .ok (.aload_n 0, 1) := dk_42 (dw rcX12_token_183 1 rfl)
theorem dX12_token_187 : decode cX12_token 187 = .ok (.iload_n 2, 1) := dk_28 (dw rcX12_token_183 2 rfl)
theorem dX12_token_188 : decode cX12_token 188 = .ok (.iconst 4, 1) := dk_7 (dw rcX12_token_183 3 rfl)
theorem dX12_token_189 : decode cX12_token 189 = .ok (.if_icmp .gt 14, 3) := dk_163 (dw rcX12_token_183 4 rfl) rfl
theorem dX12_token_192 : decode cX12_token 192 = .ok (.aload_n 0, 1) := dk_42 (dw rcX12_token_183 5 rfl)
theorem dX12_token_193 : decode cX12_token 193 = .ok (.iload_n 2, 1) := dk_28 (dw rcX12_token_183 6 rfl)
theorem dX12_token_194 : decode cX12_token 194 = .ok (.invokevirtual 191, 3) := dk_182 (dw rcX12_token_183 7 rfl) rfl
theorem dX12_token_197 : decode cX12_token 197 = .ok (.invokestatic 208, 3) := dk_184 (dw rcX12_token_183 8 rfl) rfl
theorem dX12_token_200 : decode cX12_token 200 = .ok (.ifCond .eq 7, 3) := dk_153 (dw rcX12_token_183 9 rfl) rfl
theorem dX12_token_203 : decode cX12_token 203 = .ok (.iconst 3, 1) := dk_6 (dw rcX12_token_183 10 rfl)
theorem dX12_token_204 : decode cX12_token 204 = .ok (.goto 4, 3) := dk_167 (dw rcX12_token_183 11 rfl) rfl
theorem dX12_token_207 : decode cX12_token 207 = .ok (.iconst 2, 1) := dk_5 (dw rcX12_token_183 12 rfl)
theorem dX12_token_208 : decode cX12_token 208 = .ok (.putfield 205, 3) := dk_181 (dw rcX12_token_183 13 rfl) rfl
theorem dX12_token_211 : decode cX12_token 211 = .ok (.goto 21, 3) := dk_167 (dw rcX12_token_183 14 rfl) rfl
theorem dX12_token_214 : decode cX12_token 214 = .ok (.iconst 1, 1) := dk_4 (dw rcX12_token_183 15 rfl)
theorem dX12_token_215 : decode cX12_token 215 = .ok (.istore_n 2, 1) := dk_61 (dw rcX12_token_183 16 rfl)
theorem dX12_token_216 : decode cX12_token 216 = .ok (.aload_n 0, 1) := dk_42 (dw rcX12_token_183 17 rfl)
theorem dX12_token_217 : decode cX12_token 217 = .ok (.iload_n 1, 1) := dk_27 (dw rcX12_token_183 18 rfl)
theorem dX12_token_218 : decode cX12_token 218 = .ok (.invokestatic 215, 3) := dk_184 (dw rcX12_token_183 19 rfl) rfl
theorem dX12_token_221 : decode cX12_token 221 = .ok (.ifCond .eq 7, 3) := dk_153 (dw rcX12_token_183 20 rfl) rfl
theorem dX12_token_224 : decode cX12_token 224 = .ok (.iload_n 1, 1) := dk_27 (dw rcX12_token_183 21 rfl)
theorem dX12_token_225 : decode cX12_token 225 = .ok (.goto 4, 3) := dk_167 (dw rcX12_token_183 22 rfl) rfl
theorem dX12_token_228 : decode cX12_token 228 = .ok (.iconst 3, 1) := dk_6 (dw rcX12_token_183 23 rfl)
def rbX12_token_229 : List (Nat × List Nat) := [(229, [181, 0, 205]), (232, [42]), (233, [180, 0, 205]), (236, [6]), (237, [159, 0, 13]), (240, [42]), (241, [89]), (242, [180, 0, 185]), (245, [28]), (246, [96]), (247, [181, 0, 185]), (250, [177])]
theorem rcX12_token_229 : dgo (lb cX12_token) 0 rbX12_token_229 = true := by decide +kernel
theorem dX12_token_229 : decode cX12_token 229 = .ok (.putfield 205, 3) := dk_181 (dw rcX12_token_229 0 rfl) rfl
theorem dX12_token_232 : decode cX12_token 232 = .ok (.aload_n 0, 1) := dk_42 (dw rcX12_token_229 1 rfl)
theorem dX12_token_233 : decode cX12_token 233 = .ok (.getfield 205, 3) := dk_180 (dw rcX12_token_229 2 rfl) rfl
theorem dX12_token_236 : decode cX12_token 236 = .ok (.iconst 3, 1) := dk_6 (dw rcX12_token_229 3 rfl)
theorem dX12_token_237 : decode cX12_token 237 = .ok (.if_icmp .eq 13, 3) := dk_159 (dw rcX12_token_229 4 rfl) rfl
theorem dX12_token_240 : decode cX12_token 240 = .ok (.aload_n 0, 1) := dk_42 (dw rcX12_token_229 5 rfl)
theorem dX12_token_241 : decode cX12_token 241 = .ok (.dup, 1) := dk_89 (dw rcX12_token_229 6 rfl)
theorem dX12_token_242 : decode cX12_token 242 = .ok (.getfield 185, 3) := dk_180 (dw rcX12_token_229 7 rfl) rfl
theorem dX12_token_245 : decode cX12_token 245 = .ok (.iload_n 2, 1) := dk_28 (dw rcX12_token_229 8 rfl)
theorem dX12_token_246 : decode cX12_token 246 = .ok (.iadd, 1) := dk_96 (dw rcX12_token_229 9 rfl)
theorem dX12_token_247 : decode cX12_token 247 = .ok (.putfield 185, 3) := dk_181 (dw rcX12_token_229 10 rfl) rfl
theorem dX12_token_250 : decode cX12_token 250 = .ok (.return_, 1) := dk_177 (dw rcX12_token_229 11 rfl)
set_option maxHeartbeats 4000000 in
set_option maxRecDepth 100000 in
theorem n_token (l : Launch) (D : va_G) (k : KT) (A : Nat → Prop) (a : Nat → Nat) (z : SK) (G : GS)   : Met l yX12_token (WS yX12_token cX12_token 3 none) ({ frames := 1, cells := 0, slots := 0, locals := 21 }) (va_Pc [.ref (a 66)] (cW D k A a z G)) (va_Qv (fun (G1 : GS) => Q_token G G1) (fun (G1 : GS) t => Wd D k A a G1 t.heap) A) 0 0 A := by
  refine Met.ofW (cc := cX12_token) (maxL := 3) (ret := none) (by decide) rfl ?_
  intro p e s m args below meth c s₁ B hml hv
  obtain ⟨rfl, hW, hB_G, hK, hZ⟩ := hv
  have hx := B.exec
  have hb := B.bytes
  have hr := B.returns
  have hts := atoms_spec (ws := WS yX12_token cX12_token 3 none) B.pre
  have hgd : ∀ w ∈ gd, w ∈ WS yX12_token cX12_token 3 none := fun w h => List.mem_cons_of_mem _ h
  have hg : ∀ w ∈ gd, w.before _ s = true := fun w h => hts w (hgd w h)
  have hown : s.vm.findClass RX12 = some m.cls := findClass_of_methodNamed B.named
  have hS : va_S A s.heap s.heap [] := va_S.rf
  have hF : Fr [] [(66, 4), (66, 6), (66, 7), (66, 8), (66, 9)] G G := Fr.rf
  have hl := lv_entry ([.ref (a 66)]) (n := 3) (Nat.le_of_ble_eq_true rfl)
  rw [lg_entry_eq]
  generalize (lg_sl ([.ref (a 66)]) ++ List.replicate (3 - (lg_sl ([.ref (a 66)])).length) Slot.unset).toArray = ls at hl ⊢
  have hl : lv_has ls 3 [(0, .ref (a 66))] := hl
  have b_6 : 0 ≤ (G.1 66 4).toInt ∧ (G.1 66 4).toInt ≤ 1600 := bd_66_4 hB_G
  refine loop_N (Inv := fun n H locs ls => ∃ (G_1 : GS), (n : Int) = 1600 - (G_1.1 66 4).toInt ∧ ((G.1 66 4).toInt ≤ (G_1.1 66 4).toInt) ∧ Rc (St_n_token_1 G) G G_1 ∧ Wd D k A a G_1 H ∧ Bd G_1 ∧ Fr [] [(66, 4), (66, 6), (66, 7), (66, 8), (66, 9)] G G_1 ∧ Fr [] [(66, 4)] G G_1 ∧ va_S A s.heap H locs ∧ lv_has ls 3 [(0, .ref (a 66))]) (fun n_4 H locs ls ih_3 hI => ?_) (1600 - (G.1 66 4).toInt : Int).toNat ⟨G, (Int.toNat_of_nonneg (by omega)), (by omega), Rc.rf, hW, hB_G, hF, Fr.rf, hS, lv_sub hl [0] rfl⟩
  obtain ⟨G_1, hn_8, f_7, hX_5, hW, hB_G_1, hF, hq_2, hS, hl⟩ := hI
  have b_9 : 0 ≤ (G_1.1 66 4).toInt ∧ (G_1.1 66 4).toInt ≤ 1600 := bd_66_4 hB_G_1
  refine lv_aload_n hx hb dX12_token_0 rfl (lv_at hl 0 rfl) ?_
  refine ic_0 hx hb dX12_token_1 ?_
  have qc_10 : (0 : Int32).toInt = 0 := rfl
  have b_11 : 0 ≤ (G.1 66 5).toInt ∧ (G.1 66 5).toInt ≤ 1600 := bd_66_5 hB_G
  have g_12 : (G_1.1 66 5).toInt = (G.1 66 5).toInt := (congrArg Int32.toInt (show G_1.1 66 5 = (G.1 66 5) from (hq_2.i9 66 5 rfl rfl)))
  refine S_calli (va_runV (As := [.int 0]) (rest := []) ⟨hx, hb, hml, hown, hts⟩ (n_here l D k A a z G_1 0 ⟨by decide, by decide⟩) (cwV 1 hts (gd_V hgd m1606 m1608 m51 m131 m1609) rfl rfl rfl hd_X12_here ⟨Nat.le_of_ble_eq_true rfl, Nat.le_of_ble_eq_true rfl⟩) (pre_W hW hB_G_1 hK hZ hS kd_66 rfl) rfl rfl hl.1 rfl (lv_room (Nat.le_of_ble_eq_true rfl)) dX12_token_2 ⟨Nat.le_of_ble_eq_true rfl, Nat.le_of_ble_eq_true rfl⟩) hS (fun r_13 G_14 H locs hpo hW hS => ?_)
  have hX_17 : Q_here 0 G_1 r_13 G_14 := hpo
  obtain ⟨hB_G_14, hq_15, f_18, hp_16, -⟩ := hpo
  have hF := hF.call9 hq_15 rfl rfl
  refine lv_bipush (v := 32) hx hb dX12_token_5 (by decide) ?_
  refine lv_icmp_eq (tgt := 20) hx hb dX12_token_7 rfl (fun c_19 => ?_) (fun c_19 => ?_)
  · have c_19 : r_13.toInt = 32 := xI_eq rfl rfl c_19
    refine lv_aload_n hx hb dX12_token_20 rfl (lv_at hl 0 rfl) ?_
    refine lv_dup hx hb dX12_token_21 rfl ?_
    refine S_getI (v := (G_1.1 66 4)) (C := RX12) (T := TX12) (N := 89) hx hb hg iX12 hown hK hW kd_66 rfl 4 (lt_b rfl) (hg (Cond.fieldLink RX12 185 "SlabWalkModel" "at" "I") m1318) (fun _ h9 => h9) rfl ((hq_15.i9 66 4 rfl rfl).trans (rfl)) dX12_token_22 ?_
    refine ic_1 hx hb dX12_token_25 ?_
    refine lv_iadd hx hb dX12_token_26 ?_
    refine lv_topi (fun y_20 ey_20 => ?_)
    have ty_20 : y_20.toInt = (G_1.1 66 4).toInt + 1 := xI_add rfl rfl ey_20 (by omega) (by omega)
    refine S_putI (ty := .int) (C := RX12) (T := TX12) (N := 89) hx hb hg iX12 tyX12 tyX12_ok nmX12 hown hK hW hS kd_66 rfl 4 (lt_b rfl) (hg (Cond.fieldLink RX12 185 "SlabWalkModel" "at" "I") m1318) (fun _ h9 => h9) rfl (by decide +kernel) rfl rfl rfl dX12_token_27 (fun G_21 H locs eG_21 hW hS => ?_)
    have hB_G_21 : Bd G_21 := hB_G_14.put (V := y_20.toInt) (lo := 0) (hi := 1600) eG_21 rfl rfl rfl (by omega) (by omega) (hB_G_14.2.put eG_21 rfl)
    have hF := hF.put eG_21 (Or.inr (by decide))
    refine lv_goto (tgt := 0) hx hb dX12_token_30 rfl ?_
    have g_22 : (G_21.1 66 4).toInt = y_20.toInt := (congrArg Int32.toInt (show G_21.1 66 4 = y_20 from (gp_eq eG_21)))
    have g_23 : (G_21.1 66 4).toInt = y_20.toInt := (congrArg Int32.toInt (show G_21.1 66 4 = y_20 from (gp_eq eG_21)))
    exact ih_3 (1600 - (G_21.1 66 4).toInt : Int).toNat (by omega) _ _ _ ⟨G_21, (Int.toNat_of_nonneg (by omega)), (by omega), (hX_5.st (St_n_token_1_mk ⟨G_1, G_21, rfl, rfl, f_7, hB_G_1, ⟨r_13, G_14, hX_17, (Or.inl ⟨c_19, ⟨y_20, ty_20, ⟨(Fr.put (rs := []) (fs := [(66, 4)]) Fr.rf eG_21 (Or.inr (by decide))), (gp_eq eG_21)⟩⟩⟩)⟩⟩)), hW, hB_G_21, hF, (Fr.put (rs := []) (fs := [(66, 4)]) (Fr.call9 (rs := []) (fs := [(66, 4)]) (Fr.call9 (rs := []) (fs := [(66, 4)]) Fr.rf hq_2 rfl rfl) hq_15 rfl rfl) eG_21 (Or.inr (by decide))), hS, lv_sub hl [0] rfl⟩
  · have c_19 : r_13.toInt ≠ 32 := xI_ne rfl rfl c_19
    refine lv_aload_n hx hb dX12_token_10 rfl (lv_at hl 0 rfl) ?_
    refine ic_0 hx hb dX12_token_11 ?_
    have qc_24 : (0 : Int32).toInt = 0 := rfl
    have g_25 : (G_14.1 66 4).toInt = (G_1.1 66 4).toInt := (congrArg Int32.toInt (show G_14.1 66 4 = (G_1.1 66 4) from ((hq_15.i9 66 4 rfl rfl).trans (rfl))))
    have g_26 : (G_14.1 66 5).toInt = (G.1 66 5).toInt := (congrArg Int32.toInt (show G_14.1 66 5 = (G.1 66 5) from ((hq_15.i9 66 5 rfl rfl).trans ((hq_2.i9 66 5 rfl rfl).trans (rfl)))))
    refine S_calli (va_runV (As := [.int 0]) (rest := []) ⟨hx, hb, hml, hown, hts⟩ (n_here l D k A a z G_14 0 ⟨by decide, by decide⟩) (cwV 1 hts (gd_V hgd m1606 m1608 m51 m131 m1609) rfl rfl rfl hd_X12_here ⟨Nat.le_of_ble_eq_true rfl, Nat.le_of_ble_eq_true rfl⟩) (pre_W hW hB_G_14 hK hZ hS kd_66 rfl) rfl rfl hl.1 rfl (lv_room (Nat.le_of_ble_eq_true rfl)) dX12_token_12 ⟨Nat.le_of_ble_eq_true rfl, Nat.le_of_ble_eq_true rfl⟩) hS (fun r_27 G_28 H locs hpo hW hS => ?_)
    have hX_31 : Q_here 0 G_14 r_27 G_28 := hpo
    obtain ⟨hB_G_28, hq_29, f_32, hp_30, -⟩ := hpo
    have hF := hF.call9 hq_29 rfl rfl
    refine lv_bipush (v := 10) hx hb dX12_token_15 (by decide) ?_
    refine lv_icmp_ne (tgt := 33) hx hb dX12_token_17 rfl (fun c_33 => ?_) (fun c_33 => ?_)
    · have c_33 : r_27.toInt ≠ 10 := xI_ne rfl rfl c_33
      refine lv_aload_n hx hb dX12_token_33 rfl (lv_at hl 0 rfl) ?_
      refine lv_aload_n hx hb dX12_token_34 rfl (lv_at hl 0 rfl) ?_
      refine S_getI (v := (G_1.1 66 4)) (C := RX12) (T := TX12) (N := 89) hx hb hg iX12 hown hK hW kd_66 rfl 4 (lt_b rfl) (hg (Cond.fieldLink RX12 185 "SlabWalkModel" "at" "I") m1318) (fun _ h9 => h9) rfl ((hq_29.i9 66 4 rfl rfl).trans ((hq_15.i9 66 4 rfl rfl).trans (rfl))) dX12_token_35 ?_
      refine S_putI (ty := .int) (C := RX12) (T := TX12) (N := 89) hx hb hg iX12 tyX12 tyX12_ok nmX12 hown hK hW hS kd_66 rfl 7 (lt_b rfl) (hg (Cond.fieldLink RX12 195 "SlabWalkModel" "place" "I") m1321) (fun _ h9 => h9) rfl (by decide +kernel) rfl rfl rfl dX12_token_38 (fun G_34 H locs eG_34 hW hS => ?_)
      have hB_G_34 : Bd G_34 := hB_G_28.put (V := (G_1.1 66 4).toInt) (lo := 0) (hi := 1600) eG_34 rfl rfl rfl (by omega) (by omega) (hB_G_28.2.put eG_34 rfl)
      have hF := hF.put eG_34 (Or.inr (by decide))
      refine lv_aload_n hx hb dX12_token_41 rfl (lv_at hl 0 rfl) ?_
      refine ic_0 hx hb dX12_token_42 ?_
      have qc_35 : (0 : Int32).toInt = 0 := rfl
      have g_36 : (G_34.1 66 4).toInt = (G_1.1 66 4).toInt := (congrArg Int32.toInt (show G_34.1 66 4 = (G_1.1 66 4) from ((gp_ne eG_34 (by decide)).trans ((hq_29.i9 66 4 rfl rfl).trans ((hq_15.i9 66 4 rfl rfl).trans (rfl))))))
      have g_37 : (G_34.1 66 5).toInt = (G.1 66 5).toInt := (congrArg Int32.toInt (show G_34.1 66 5 = (G.1 66 5) from ((gp_ne eG_34 (by decide)).trans ((hq_29.i9 66 5 rfl rfl).trans ((hq_15.i9 66 5 rfl rfl).trans ((hq_2.i9 66 5 rfl rfl).trans (rfl)))))))
      refine S_calli (va_runV (As := [.int 0]) (rest := []) ⟨hx, hb, hml, hown, hts⟩ (n_here l D k A a z G_34 0 ⟨by decide, by decide⟩) (cwV 1 hts (gd_V hgd m1606 m1608 m51 m131 m1609) rfl rfl rfl hd_X12_here ⟨Nat.le_of_ble_eq_true rfl, Nat.le_of_ble_eq_true rfl⟩) (pre_W hW hB_G_34 hK hZ hS kd_66 rfl) rfl rfl hl.1 rfl (lv_room (Nat.le_of_ble_eq_true rfl)) dX12_token_43 ⟨Nat.le_of_ble_eq_true rfl, Nat.le_of_ble_eq_true rfl⟩) hS (fun r_38 G_39 H locs hpo hW hS => ?_)
      have hX_42 : Q_here 0 G_34 r_38 G_39 := hpo
      obtain ⟨hB_G_39, hq_40, f_43, hp_41, -⟩ := hpo
      have hF := hF.call9 hq_40 rfl rfl
      refine lv_istore_n (lv' := [(1, .int r_38), (0, .ref (a 66))]) hx hb dX12_token_46 rfl hl (lt_b rfl) rfl (fun ls hl => ?_)
      refine ic_0 hx hb dX12_token_47 ?_
      refine lv_istore_n (lv' := [(2, .int 0), (1, .int r_38), (0, .ref (a 66))]) hx hb dX12_token_48 rfl hl (lt_b rfl) rfl (fun ls hl => ?_)
      refine lv_aload_n hx hb dX12_token_49 rfl (lv_at hl 2 rfl) ?_
      refine lv_lconst (v := 0) hx hb dX12_token_50 (by decide) ?_
      refine S_putL (C := RX12) (T := TX12) (N := 89) hx hb hg iX12 tyX12 tyX12_ok nmX12 hown hK hW hS kd_66 rfl 9 (lt_b rfl) (hg (Cond.fieldLink RX12 198 "SlabWalkModel" "word" "J") m1323) (fun _ h9 => h9) rfl (by decide +kernel) rfl dX12_token_51 (fun G_44 H locs eG_44 hW hS => ?_)
      have hB_G_44 : Bd G_44 := hB_G_39.putl eG_44
      have hF := hF.putl eG_44 (Or.inr (by decide))
      refine lv_aload_n hx hb dX12_token_54 rfl (lv_at hl 2 rfl) ?_
      refine ic_0 hx hb dX12_token_55 ?_
      refine S_putI (ty := .int) (C := RX12) (T := TX12) (N := 89) hx hb hg iX12 tyX12 tyX12_ok nmX12 hown hK hW hS kd_66 rfl 8 (lt_b rfl) (hg (Cond.fieldLink RX12 202 "SlabWalkModel" "number" "I") m1322) (fun _ h9 => h9) rfl (by decide +kernel) rfl rfl rfl dX12_token_56 (fun G_45 H locs eG_45 hW hS => ?_)
      have hB_G_45 : Bd G_45 := hB_G_44.put (lo := (-2147483648)) (hi := 2147483647) eG_45 rfl rfl rfl (tI_rng _).1 (tI_rng _).2 (hB_G_44.2.put eG_45 rfl)
      have hF := hF.put eG_45 (Or.inr (by decide))
      refine lv_iload_n hx hb dX12_token_59 rfl (lv_at hl 1 rfl) ?_
      refine lv_if_ge (tgt := 71) hx hb dX12_token_60 rfl (fun c_46 => ?_) (fun c_46 => ?_)
      · have c_46 : 0 ≤ r_38.toInt := xI_le rfl rfl c_46
        have d_1 := hp_41 c_46
        refine lv_iload_n hx hb dX12_token_71 rfl (lv_at hl 1 rfl) ?_
        refine S_calli (va_runS (As := [.int r_38]) (rest := []) ⟨hx, hb, hml, hown, hts⟩ (n_letter l D k A a z G_45 r_38 ) (va_cwS 1 hts (gd_S hgd m1610 m1611 m131 m1612) rfl rfl rfl hd_X12_isLetter.2 ⟨Nat.le_of_ble_eq_true rfl, Nat.le_of_ble_eq_true rfl⟩) (pre_S hW hB_G_45 hK hZ hS) rfl rfl hl.1 rfl (lv_room (Nat.le_of_ble_eq_true rfl)) dX12_token_72 ⟨Nat.le_of_ble_eq_true rfl, Nat.le_of_ble_eq_true rfl⟩) hS (fun r_47 G_48 H locs hpo hW hS => ?_)
        have hX_51 : Q_letter r_38 G_45 r_47 G_48 := hpo
        obtain ⟨hB_G_48, hq_49, f_52, hp_50, -⟩ := hpo
        have hF := hF.call9 hq_49 rfl rfl
        refine lv_if_eq (tgt := 137) hx hb dX12_token_75 rfl (fun c_53 => ?_) (fun c_53 => ?_)
        · have c_53 : r_47.toInt = 0 := xI_eq rfl rfl c_53
          refine lv_iload_n hx hb dX12_token_137 rfl (lv_at hl 1 rfl) ?_
          refine S_calli (va_runS (As := [.int r_38]) (rest := []) ⟨hx, hb, hml, hown, hts⟩ (n_digit l D k A a z G_48 r_38 ) (va_cwS 1 hts (gd_S hgd m1613 m1614 m131 m1615) rfl rfl rfl hd_X12_isDigit.2 ⟨Nat.le_of_ble_eq_true rfl, Nat.le_of_ble_eq_true rfl⟩) (pre_S hW hB_G_48 hK hZ hS) rfl rfl hl.1 rfl (lv_room (Nat.le_of_ble_eq_true rfl)) dX12_token_138 ⟨Nat.le_of_ble_eq_true rfl, Nat.le_of_ble_eq_true rfl⟩) hS (fun r_54 G_55 H locs hpo hW hS => ?_)
          have hX_58 : Q_digit r_38 G_48 r_54 G_55 := hpo
          obtain ⟨hB_G_55, hq_56, f_59, hp_57, -⟩ := hpo
          have hF := hF.call9 hq_56 rfl rfl
          refine lv_if_eq (tgt := 214) hx hb dX12_token_141 rfl (fun c_60 => ?_) (fun c_60 => ?_)
          · have c_60 : r_54.toInt = 0 := xI_eq rfl rfl c_60
            refine ic_1 hx hb dX12_token_214 ?_
            refine lv_istore_n (lv' := [(2, .int 1), (1, .int r_38), (0, .ref (a 66))]) hx hb dX12_token_215 rfl hl (lt_b rfl) rfl (fun ls hl => ?_)
            refine lv_aload_n hx hb dX12_token_216 rfl (lv_at hl 2 rfl) ?_
            refine lv_iload_n hx hb dX12_token_217 rfl (lv_at hl 1 rfl) ?_
            refine S_calli (va_runS (As := [.int r_38]) (rest := [.ref (a 66)]) ⟨hx, hb, hml, hown, hts⟩ (n_sign l D k A a z G_55 r_38 ) (va_cwS 1 hts (gd_S hgd m1616 m1617 m131 m1618) rfl rfl rfl hd_X12_isSign.2 ⟨Nat.le_of_ble_eq_true rfl, Nat.le_of_ble_eq_true rfl⟩) (pre_S hW hB_G_55 hK hZ hS) rfl rfl hl.1 rfl (lv_room (Nat.le_of_ble_eq_true rfl)) dX12_token_218 ⟨Nat.le_of_ble_eq_true rfl, Nat.le_of_ble_eq_true rfl⟩) hS (fun r_61 G_62 H locs hpo hW hS => ?_)
            have hX_65 : Q_sign r_38 G_55 r_61 G_62 := hpo
            obtain ⟨hB_G_62, hq_63, f_66, -⟩ := hpo
            have hF := hF.call9 hq_63 rfl rfl
            refine lv_if_eq (tgt := 228) hx hb dX12_token_221 rfl (fun c_67 => ?_) (fun c_67 => ?_)
            · have c_67 : r_61.toInt = 0 := xI_eq rfl rfl c_67
              refine ic_3 hx hb dX12_token_228 ?_
              refine S_putI (ty := .int) (C := RX12) (T := TX12) (N := 89) hx hb hg iX12 tyX12 tyX12_ok nmX12 hown hK hW hS kd_66 rfl 6 (lt_b rfl) (hg (Cond.fieldLink RX12 205 "SlabWalkModel" "sort" "I") m1320) (fun _ h9 => h9) rfl (by decide +kernel) rfl rfl rfl dX12_token_229 (fun G_68 H locs eG_68 hW hS => ?_)
              have hB_G_68 : Bd G_68 := hB_G_62.put (lo := (-2147483648)) (hi := 2147483647) eG_68 rfl rfl rfl (tI_rng _).1 (tI_rng _).2 (hB_G_62.2.put eG_68 rfl)
              have hF := hF.put eG_68 (Or.inr (by decide))
              refine lv_aload_n hx hb dX12_token_232 rfl (lv_at hl 2 rfl) ?_
              refine S_getI (v := 3) (C := RX12) (T := TX12) (N := 89) hx hb hg iX12 hown hK hW kd_66 rfl 6 (lt_b rfl) (hg (Cond.fieldLink RX12 205 "SlabWalkModel" "sort" "I") m1320) (fun _ h9 => h9) rfl (gp_eq eG_68) dX12_token_233 ?_
              refine ic_3 hx hb dX12_token_236 ?_
              refine lv_icmp_eq (tgt := 250) hx hb dX12_token_237 rfl (fun c_69 => ?_) (fun c_69 => ?_)
              · have c_69 : (3 : Int) = (3 : Int) := xI_eq rfl rfl c_69
                have g_70 : (G_68.1 66 4).toInt = (G_1.1 66 4).toInt := (congrArg Int32.toInt (show G_68.1 66 4 = (G_1.1 66 4) from ((gp_ne eG_68 (by decide)).trans ((hq_63.i9 66 4 rfl rfl).trans ((hq_56.i9 66 4 rfl rfl).trans ((hq_49.i9 66 4 rfl rfl).trans ((gp_ne eG_45 (by decide)).trans ((congrFun (congrFun (gp_l eG_44).1 66) 4).trans ((hq_40.i9 66 4 rfl rfl).trans ((gp_ne eG_34 (by decide)).trans ((hq_29.i9 66 4 rfl rfl).trans ((hq_15.i9 66 4 rfl rfl).trans (rfl)))))))))))))
                have g_71 : (G_68.1 66 6).toInt = 3 := (congrArg Int32.toInt (show G_68.1 66 6 = 3 from (gp_eq eG_68))).trans rfl
                exact W.vret hx hb hr (fun t ht _ => ⟨⟨G_68, rfl, (Q_token_mk ⟨hB_G_68, hF, ((by first | exact ⟨((by first | (clear hn_8 hp_41 f_52 f_59 f_66 c_67 g_71; omega) | omega)), (fun h9 => ((by first | (clear hn_8 hp_41 f_52 f_59 f_66 c_67; omega) | omega)))⟩ | omega)), ⟨G_1, hX_5, f_7, hB_G_1, hq_2, ⟨r_13, G_14, hX_17, ⟨c_19, ⟨r_27, G_28, hX_31, ⟨c_33, ⟨G_34, hB_G_34, (Fr.put (rs := []) (fs := [(66, 7)]) Fr.rf eG_34 (Or.inr (by decide))), (gp_eq eG_34), ⟨r_38, G_39, hX_42, (Or.inl ⟨c_46, ⟨G_45, hB_G_45, (Fr.put (rs := []) (fs := [(66, 8), (66, 9)]) (Fr.putl (rs := []) (fs := [(66, 8), (66, 9)]) Fr.rf eG_44 (Or.inr (by decide))) eG_45 (Or.inr (by decide))), (gp_eq eG_45), ((congrFun (congrFun (congrArg (fun q => q.2.1) eG_45) 66) 9).trans (gpl_eq eG_44)), ⟨r_47, G_48, hX_51, (Or.inl ⟨c_53, ⟨r_54, G_55, hX_58, (Or.inl ⟨c_60, ⟨r_61, G_62, hX_65, (Or.inl ⟨c_67, ⟨(Fr.put (rs := []) (fs := [(66, 6)]) Fr.rf eG_68 (Or.inr (by decide))), (gp_eq eG_68)⟩⟩)⟩⟩)⟩⟩)⟩⟩⟩)⟩⟩⟩⟩⟩⟩⟩⟩), wd_t ht hW⟩, hS.F ht⟩) hS.2.2 dX12_token_250
              · have c_69 : (3 : Int) ≠ (3 : Int) := xI_ne rfl rfl c_69
                exfalso; first | (clear b_6 hn_8 f_7 b_9 b_11 g_12 f_18 hp_16 c_19 g_25 g_26 f_32 hp_30 c_33 g_36 g_37 f_43 hp_41 c_46 d_1 f_52 hp_50 c_53 f_59 hp_57 c_60 f_66 c_67; omega) | omega
            · have c_67 : r_61.toInt ≠ 0 := xI_ne rfl rfl c_67
              refine lv_iload_n hx hb dX12_token_224 rfl (lv_at hl 1 rfl) ?_
              refine lv_goto (tgt := 229) hx hb dX12_token_225 rfl ?_
              refine S_putI (ty := .int) (C := RX12) (T := TX12) (N := 89) hx hb hg iX12 tyX12 tyX12_ok nmX12 hown hK hW hS kd_66 rfl 6 (lt_b rfl) (hg (Cond.fieldLink RX12 205 "SlabWalkModel" "sort" "I") m1320) (fun _ h9 => h9) rfl (by decide +kernel) rfl rfl rfl dX12_token_229 (fun G_72 H locs eG_72 hW hS => ?_)
              have hB_G_72 : Bd G_72 := hB_G_62.put (lo := (-2147483648)) (hi := 2147483647) eG_72 rfl rfl rfl (tI_rng _).1 (tI_rng _).2 (hB_G_62.2.put eG_72 rfl)
              have hF := hF.put eG_72 (Or.inr (by decide))
              refine lv_aload_n hx hb dX12_token_232 rfl (lv_at hl 2 rfl) ?_
              refine S_getI (v := r_38) (C := RX12) (T := TX12) (N := 89) hx hb hg iX12 hown hK hW kd_66 rfl 6 (lt_b rfl) (hg (Cond.fieldLink RX12 205 "SlabWalkModel" "sort" "I") m1320) (fun _ h9 => h9) rfl (gp_eq eG_72) dX12_token_233 ?_
              refine ic_3 hx hb dX12_token_236 ?_
              refine lv_icmp_eq (tgt := 250) hx hb dX12_token_237 rfl (fun c_73 => ?_) (fun c_73 => ?_)
              · have c_73 : r_38.toInt = 3 := xI_eq rfl rfl c_73
                have g_74 : (G_72.1 66 4).toInt = (G_1.1 66 4).toInt := (congrArg Int32.toInt (show G_72.1 66 4 = (G_1.1 66 4) from ((gp_ne eG_72 (by decide)).trans ((hq_63.i9 66 4 rfl rfl).trans ((hq_56.i9 66 4 rfl rfl).trans ((hq_49.i9 66 4 rfl rfl).trans ((gp_ne eG_45 (by decide)).trans ((congrFun (congrFun (gp_l eG_44).1 66) 4).trans ((hq_40.i9 66 4 rfl rfl).trans ((gp_ne eG_34 (by decide)).trans ((hq_29.i9 66 4 rfl rfl).trans ((hq_15.i9 66 4 rfl rfl).trans (rfl)))))))))))))
                have g_75 : (G_72.1 66 6).toInt = r_38.toInt := (congrArg Int32.toInt (show G_72.1 66 6 = r_38 from (gp_eq eG_72)))
                exact W.vret hx hb hr (fun t ht _ => ⟨⟨G_72, rfl, (Q_token_mk ⟨hB_G_72, hF, ((by first | exact ⟨((by first | (clear hn_8 hp_41 f_52 f_59 f_66 c_67; omega) | omega)), (fun h9 => ((by first | (clear hn_8 hp_41 f_66 c_67; omega) | omega)))⟩ | omega)), ⟨G_1, hX_5, f_7, hB_G_1, hq_2, ⟨r_13, G_14, hX_17, ⟨c_19, ⟨r_27, G_28, hX_31, ⟨c_33, ⟨G_34, hB_G_34, (Fr.put (rs := []) (fs := [(66, 7)]) Fr.rf eG_34 (Or.inr (by decide))), (gp_eq eG_34), ⟨r_38, G_39, hX_42, (Or.inl ⟨c_46, ⟨G_45, hB_G_45, (Fr.put (rs := []) (fs := [(66, 8), (66, 9)]) (Fr.putl (rs := []) (fs := [(66, 8), (66, 9)]) Fr.rf eG_44 (Or.inr (by decide))) eG_45 (Or.inr (by decide))), (gp_eq eG_45), ((congrFun (congrFun (congrArg (fun q => q.2.1) eG_45) 66) 9).trans (gpl_eq eG_44)), ⟨r_47, G_48, hX_51, (Or.inl ⟨c_53, ⟨r_54, G_55, hX_58, (Or.inl ⟨c_60, ⟨r_61, G_62, hX_65, (Or.inr ⟨c_67, (Or.inl ⟨c_73, ⟨(Fr.put (rs := []) (fs := [(66, 6)]) Fr.rf eG_72 (Or.inr (by decide))), (gp_eq eG_72)⟩⟩)⟩)⟩⟩)⟩⟩)⟩⟩⟩)⟩⟩⟩⟩⟩⟩⟩⟩), wd_t ht hW⟩, hS.F ht⟩) hS.2.2 dX12_token_250
              · have c_73 : r_38.toInt ≠ 3 := xI_ne rfl rfl c_73
                refine lv_aload_n hx hb dX12_token_240 rfl (lv_at hl 2 rfl) ?_
                refine lv_dup hx hb dX12_token_241 rfl ?_
                refine S_getI (v := (G_1.1 66 4)) (C := RX12) (T := TX12) (N := 89) hx hb hg iX12 hown hK hW kd_66 rfl 4 (lt_b rfl) (hg (Cond.fieldLink RX12 185 "SlabWalkModel" "at" "I") m1318) (fun _ h9 => h9) rfl ((gp_ne eG_72 (by decide)).trans ((hq_63.i9 66 4 rfl rfl).trans ((hq_56.i9 66 4 rfl rfl).trans ((hq_49.i9 66 4 rfl rfl).trans ((gp_ne eG_45 (by decide)).trans ((congrFun (congrFun (gp_l eG_44).1 66) 4).trans ((hq_40.i9 66 4 rfl rfl).trans ((gp_ne eG_34 (by decide)).trans ((hq_29.i9 66 4 rfl rfl).trans ((hq_15.i9 66 4 rfl rfl).trans (rfl))))))))))) dX12_token_242 ?_
                refine lv_iload_n hx hb dX12_token_245 rfl (lv_at hl 0 rfl) ?_
                refine lv_iadd hx hb dX12_token_246 ?_
                refine lv_topi (fun y_76 ey_76 => ?_)
                have ty_76 : y_76.toInt = (G_1.1 66 4).toInt + 1 := xI_add rfl rfl ey_76 ((by first | (clear hn_8 hp_41 f_52 f_59 f_66 c_67; omega) | omega)) ((by first | (clear hn_8 hp_41 f_52 f_59 f_66 c_67; omega) | omega))
                refine S_putI (ty := .int) (C := RX12) (T := TX12) (N := 89) hx hb hg iX12 tyX12 tyX12_ok nmX12 hown hK hW hS kd_66 rfl 4 (lt_b rfl) (hg (Cond.fieldLink RX12 185 "SlabWalkModel" "at" "I") m1318) (fun _ h9 => h9) rfl (by decide +kernel) rfl rfl rfl dX12_token_247 (fun G_77 H locs eG_77 hW hS => ?_)
                have hB_G_77 : Bd G_77 := hB_G_72.put (V := y_76.toInt) (lo := 0) (hi := 1600) eG_77 rfl rfl rfl ((by first | (clear hn_8 hp_41 f_52 f_59 f_66 c_67; omega) | omega)) ((by first | (clear hn_8 hp_41 f_52 f_59 f_66 c_67; omega) | omega)) (hB_G_72.2.put eG_77 rfl)
                have hF := hF.put eG_77 (Or.inr (by decide))
                have g_78 : (G_77.1 66 4).toInt = y_76.toInt := (congrArg Int32.toInt (show G_77.1 66 4 = y_76 from (gp_eq eG_77)))
                have g_79 : (G_77.1 66 6).toInt = r_38.toInt := (congrArg Int32.toInt (show G_77.1 66 6 = r_38 from ((gp_ne eG_77 (by decide)).trans (gp_eq eG_72))))
                exact W.vret hx hb hr (fun t ht _ => ⟨⟨G_77, rfl, (Q_token_mk ⟨hB_G_77, hF, ((by first | exact ⟨((by first | (clear hn_8 hp_41 f_52 f_59 f_66 c_67; omega) | omega)), (fun h9 => ((by first | (clear hn_8 hp_41 f_66 c_67; omega) | omega)))⟩ | omega)), ⟨G_1, hX_5, f_7, hB_G_1, hq_2, ⟨r_13, G_14, hX_17, ⟨c_19, ⟨r_27, G_28, hX_31, ⟨c_33, ⟨G_34, hB_G_34, (Fr.put (rs := []) (fs := [(66, 7)]) Fr.rf eG_34 (Or.inr (by decide))), (gp_eq eG_34), ⟨r_38, G_39, hX_42, (Or.inl ⟨c_46, ⟨G_45, hB_G_45, (Fr.put (rs := []) (fs := [(66, 8), (66, 9)]) (Fr.putl (rs := []) (fs := [(66, 8), (66, 9)]) Fr.rf eG_44 (Or.inr (by decide))) eG_45 (Or.inr (by decide))), (gp_eq eG_45), ((congrFun (congrFun (congrArg (fun q => q.2.1) eG_45) 66) 9).trans (gpl_eq eG_44)), ⟨r_47, G_48, hX_51, (Or.inl ⟨c_53, ⟨r_54, G_55, hX_58, (Or.inl ⟨c_60, ⟨r_61, G_62, hX_65, (Or.inr ⟨c_67, (Or.inr ⟨c_73, ⟨y_76, ty_76, ⟨(Fr.put (rs := []) (fs := [(66, 4), (66, 6)]) (Fr.put (rs := []) (fs := [(66, 4), (66, 6)]) Fr.rf eG_72 (Or.inr (by decide))) eG_77 (Or.inr (by decide))), (gp_eq eG_77), ((gp_ne eG_77 (by decide)).trans (gp_eq eG_72))⟩⟩⟩)⟩)⟩⟩)⟩⟩)⟩⟩⟩)⟩⟩⟩⟩⟩⟩⟩⟩), wd_t ht hW⟩, hS.F ht⟩) hS.2.2 dX12_token_250
          · have c_60 : r_54.toInt ≠ 0 := xI_ne rfl rfl c_60
            have g_86 : (G_55.1 66 4).toInt = (G_1.1 66 4).toInt := (congrArg Int32.toInt (show G_55.1 66 4 = (G_1.1 66 4) from ((hq_56.i9 66 4 rfl rfl).trans ((hq_49.i9 66 4 rfl rfl).trans ((gp_ne eG_45 (by decide)).trans ((congrFun (congrFun (gp_l eG_44).1 66) 4).trans ((hq_40.i9 66 4 rfl rfl).trans ((gp_ne eG_34 (by decide)).trans ((hq_29.i9 66 4 rfl rfl).trans ((hq_15.i9 66 4 rfl rfl).trans (rfl)))))))))))
            have g_87 : (G_55.1 66 5).toInt = (G.1 66 5).toInt := (congrArg Int32.toInt (show G_55.1 66 5 = (G.1 66 5) from ((hq_56.i9 66 5 rfl rfl).trans ((hq_49.i9 66 5 rfl rfl).trans ((gp_ne eG_45 (by decide)).trans ((congrFun (congrFun (gp_l eG_44).1 66) 5).trans ((hq_40.i9 66 5 rfl rfl).trans ((gp_ne eG_34 (by decide)).trans ((hq_29.i9 66 5 rfl rfl).trans ((hq_15.i9 66 5 rfl rfl).trans ((hq_2.i9 66 5 rfl rfl).trans (rfl))))))))))))
            have qc_88 : (0 : Int32).toInt = 0 := rfl
            refine loop_N (Inv := fun n H locs ls => ∃ (G_80 : GS) (x_84 : Int32), (n : Int) = 1600 - x_84.toInt ∧ (0 ≤ x_84.toInt ∧ x_84.toInt ≤ 1600) ∧ ((G_80.1 66 4).toInt + x_84.toInt ≤ (G_80.1 66 5).toInt) ∧ Rc (St_n_token_2) (0, G_55) (x_84, G_80) ∧ Wd D k A a G_80 H ∧ Bd G_80 ∧ Fr [] [(66, 4), (66, 6), (66, 7), (66, 8), (66, 9)] G G_80 ∧ Fr [] [(66, 8)] G_55 G_80 ∧ va_S A s.heap H locs ∧ lv_has ls 3 [(2, .int x_84), (0, .ref (a 66))]) (fun n_83 H locs ls ih_82 hI => ?_) (1600 - 0 : Int).toNat ⟨G_55, 0, (Int.toNat_of_nonneg ((by first | (clear b_6 hn_8 f_7 b_9 b_11 g_12 f_18 hp_16 c_19 g_25 g_26 f_32 hp_30 c_33 g_36 g_37 f_43 hp_41 c_46 d_1 f_52 hp_50 c_53 f_59 hp_57 c_60 g_86 g_87; omega) | omega))), ⟨(by first | (clear b_6 hn_8 f_7 b_9 b_11 g_12 f_18 hp_16 c_19 g_25 g_26 f_32 hp_30 c_33 g_36 g_37 f_43 hp_41 c_46 d_1 f_52 hp_50 c_53 f_59 hp_57 c_60 g_86 g_87; omega) | omega), (by first | (clear b_6 hn_8 f_7 b_9 b_11 g_12 f_18 hp_16 c_19 g_25 g_26 f_32 hp_30 c_33 g_36 g_37 f_43 hp_41 c_46 d_1 f_52 hp_50 c_53 f_59 hp_57 c_60 g_86 g_87; omega) | omega)⟩, ((by first | (clear hn_8 hp_41 f_52 f_59 c_60; omega) | omega)), Rc.rf, hW, hB_G_55, hF, Fr.rf, hS, lv_sub hl [0, 2] rfl⟩
            obtain ⟨G_80, x_84, hn_91, f_89, f_90, hX_85, hW, hB_G_80, hF, hq_81, hS, hl⟩ := hI
            have g_92 : (G_80.1 66 4).toInt = (G_1.1 66 4).toInt := (congrArg Int32.toInt (show G_80.1 66 4 = (G_1.1 66 4) from ((hq_81.i9 66 4 rfl rfl).trans ((hq_56.i9 66 4 rfl rfl).trans ((hq_49.i9 66 4 rfl rfl).trans ((gp_ne eG_45 (by decide)).trans ((congrFun (congrFun (gp_l eG_44).1 66) 4).trans ((hq_40.i9 66 4 rfl rfl).trans ((gp_ne eG_34 (by decide)).trans ((hq_29.i9 66 4 rfl rfl).trans ((hq_15.i9 66 4 rfl rfl).trans (rfl))))))))))))
            have g_93 : (G_80.1 66 5).toInt = (G.1 66 5).toInt := (congrArg Int32.toInt (show G_80.1 66 5 = (G.1 66 5) from ((hq_81.i9 66 5 rfl rfl).trans ((hq_56.i9 66 5 rfl rfl).trans ((hq_49.i9 66 5 rfl rfl).trans ((gp_ne eG_45 (by decide)).trans ((congrFun (congrFun (gp_l eG_44).1 66) 5).trans ((hq_40.i9 66 5 rfl rfl).trans ((gp_ne eG_34 (by decide)).trans ((hq_29.i9 66 5 rfl rfl).trans ((hq_15.i9 66 5 rfl rfl).trans ((hq_2.i9 66 5 rfl rfl).trans (rfl)))))))))))))
            refine lv_aload_n hx hb dX12_token_144 rfl (lv_at hl 1 rfl) ?_
            refine lv_iload_n hx hb dX12_token_145 rfl (lv_at hl 0 rfl) ?_
            have g_94 : (G_80.1 66 4).toInt = (G_1.1 66 4).toInt := (congrArg Int32.toInt (show G_80.1 66 4 = (G_1.1 66 4) from ((hq_81.i9 66 4 rfl rfl).trans ((hq_56.i9 66 4 rfl rfl).trans ((hq_49.i9 66 4 rfl rfl).trans ((gp_ne eG_45 (by decide)).trans ((congrFun (congrFun (gp_l eG_44).1 66) 4).trans ((hq_40.i9 66 4 rfl rfl).trans ((gp_ne eG_34 (by decide)).trans ((hq_29.i9 66 4 rfl rfl).trans ((hq_15.i9 66 4 rfl rfl).trans (rfl))))))))))))
            have g_95 : (G_80.1 66 5).toInt = (G.1 66 5).toInt := (congrArg Int32.toInt (show G_80.1 66 5 = (G.1 66 5) from ((hq_81.i9 66 5 rfl rfl).trans ((hq_56.i9 66 5 rfl rfl).trans ((hq_49.i9 66 5 rfl rfl).trans ((gp_ne eG_45 (by decide)).trans ((congrFun (congrFun (gp_l eG_44).1 66) 5).trans ((hq_40.i9 66 5 rfl rfl).trans ((gp_ne eG_34 (by decide)).trans ((hq_29.i9 66 5 rfl rfl).trans ((hq_15.i9 66 5 rfl rfl).trans ((hq_2.i9 66 5 rfl rfl).trans (rfl)))))))))))))
            refine S_calli (va_runV (As := [.int x_84]) (rest := []) ⟨hx, hb, hml, hown, hts⟩ (n_here l D k A a z G_80 x_84 ⟨(by first | (clear b_6 hn_8 f_18 c_19 f_32 c_33 f_43 hp_41 c_46 f_52 hp_50 c_53 f_59 hp_57 c_60 hn_91; omega) | omega), (by first | (clear b_6 hn_8 f_18 c_19 f_32 c_33 f_43 hp_41 c_46 f_52 hp_50 c_53 f_59 hp_57 c_60 hn_91; omega) | omega)⟩) (cwV 1 hts (gd_V hgd m1606 m1608 m51 m131 m1609) rfl rfl rfl hd_X12_here ⟨Nat.le_of_ble_eq_true rfl, Nat.le_of_ble_eq_true rfl⟩) (pre_W hW hB_G_80 hK hZ hS kd_66 rfl) rfl rfl hl.1 rfl (lv_room (Nat.le_of_ble_eq_true rfl)) dX12_token_146 ⟨Nat.le_of_ble_eq_true rfl, Nat.le_of_ble_eq_true rfl⟩) hS (fun r_96 G_97 H locs hpo hW hS => ?_)
            have hX_100 : Q_here x_84 G_80 r_96 G_97 := hpo
            obtain ⟨hB_G_97, hq_98, f_101, hp_99, -⟩ := hpo
            have hF := hF.call9 hq_98 rfl rfl
            refine S_calli (va_runS (As := [.int r_96]) (rest := []) ⟨hx, hb, hml, hown, hts⟩ (n_digit l D k A a z G_97 r_96 ) (va_cwS 1 hts (gd_S hgd m1613 m1614 m131 m1615) rfl rfl rfl hd_X12_isDigit.2 ⟨Nat.le_of_ble_eq_true rfl, Nat.le_of_ble_eq_true rfl⟩) (pre_S hW hB_G_97 hK hZ hS) rfl rfl hl.1 rfl (lv_room (Nat.le_of_ble_eq_true rfl)) dX12_token_149 ⟨Nat.le_of_ble_eq_true rfl, Nat.le_of_ble_eq_true rfl⟩) hS (fun r_102 G_103 H locs hpo hW hS => ?_)
            have hX_106 : Q_digit r_96 G_97 r_102 G_103 := hpo
            obtain ⟨hB_G_103, hq_104, f_107, hp_105, -⟩ := hpo
            have hF := hF.call9 hq_104 rfl rfl
            refine lv_if_eq (tgt := 186) hx hb dX12_token_152 rfl (fun c_108 => ?_) (fun c_108 => ?_)
            · have c_108 : r_102.toInt = 0 := xI_eq rfl rfl c_108
              refine lv_aload_n hx hb dX12_token_186 rfl (lv_at hl 1 rfl) ?_
              refine lv_iload_n hx hb dX12_token_187 rfl (lv_at hl 0 rfl) ?_
              refine ic_4 hx hb dX12_token_188 ?_
              refine W.cut (σ := Unit) (pcJ := 203) (J := fun y H locs ls => ∃ (G_112 : GS), Jn_n_token_3 x_84 G_103 G_112 ∧ Wd D k A a G_112 H ∧ Bd G_112 ∧ Fr [] [(66, 4), (66, 6), (66, 7), (66, 8), (66, 9)] G G_112 ∧ Fr [] [] G_103 G_112 ∧ va_S A s.heap H locs ∧ lv_has ls 3 [(2, .int x_84), (0, .ref (a 66))]) (stJ := fun _ => [.ref (a 66)]) ?_ (fun hJ_113 => ?_)
              · intro y H locs ls hI
                obtain ⟨G_112, hX_115, hW, hB_G_112, hF, hq_114, hS, hl⟩ := hI
                refine ic_3 hx hb dX12_token_203 ?_
                refine lv_goto (tgt := 208) hx hb dX12_token_204 rfl ?_
                refine S_putI (ty := .int) (C := RX12) (T := TX12) (N := 89) hx hb hg iX12 tyX12 tyX12_ok nmX12 hown hK hW hS kd_66 rfl 6 (lt_b rfl) (hg (Cond.fieldLink RX12 205 "SlabWalkModel" "sort" "I") m1320) (fun _ h9 => h9) rfl (by decide +kernel) rfl rfl rfl dX12_token_208 (fun G_116 H locs eG_116 hW hS => ?_)
                have hB_G_116 : Bd G_116 := hB_G_112.put (lo := (-2147483648)) (hi := 2147483647) eG_116 rfl rfl rfl (tI_rng _).1 (tI_rng _).2 (hB_G_112.2.put eG_116 rfl)
                have hF := hF.put eG_116 (Or.inr (by decide))
                refine lv_goto (tgt := 232) hx hb dX12_token_211 rfl ?_
                refine lv_aload_n hx hb dX12_token_232 rfl (lv_at hl 1 rfl) ?_
                refine S_getI (v := 3) (C := RX12) (T := TX12) (N := 89) hx hb hg iX12 hown hK hW kd_66 rfl 6 (lt_b rfl) (hg (Cond.fieldLink RX12 205 "SlabWalkModel" "sort" "I") m1320) (fun _ h9 => h9) rfl (gp_eq eG_116) dX12_token_233 ?_
                refine ic_3 hx hb dX12_token_236 ?_
                refine lv_icmp_eq (tgt := 250) hx hb dX12_token_237 rfl (fun c_117 => ?_) (fun c_117 => ?_)
                · have c_117 : (3 : Int) = (3 : Int) := xI_eq rfl rfl c_117
                  have g_118 : (G_116.1 66 4).toInt = (G_1.1 66 4).toInt := (congrArg Int32.toInt (show G_116.1 66 4 = (G_1.1 66 4) from ((gp_ne eG_116 (by decide)).trans ((hq_114.i9 66 4 rfl rfl).trans ((hq_104.i9 66 4 rfl rfl).trans ((hq_98.i9 66 4 rfl rfl).trans ((hq_81.i9 66 4 rfl rfl).trans ((hq_56.i9 66 4 rfl rfl).trans ((hq_49.i9 66 4 rfl rfl).trans ((gp_ne eG_45 (by decide)).trans ((congrFun (congrFun (gp_l eG_44).1 66) 4).trans ((hq_40.i9 66 4 rfl rfl).trans ((gp_ne eG_34 (by decide)).trans ((hq_29.i9 66 4 rfl rfl).trans ((hq_15.i9 66 4 rfl rfl).trans (rfl))))))))))))))))
                  have g_119 : (G_116.1 66 6).toInt = 3 := (congrArg Int32.toInt (show G_116.1 66 6 = 3 from (gp_eq eG_116))).trans rfl
                  exact W.vret hx hb hr (fun t ht _ => ⟨⟨G_116, rfl, (Q_token_mk ⟨hB_G_116, hF, ((by first | exact ⟨((by first | (clear hn_8 hp_41 f_52 f_59 c_60 hn_91 f_107 g_119; omega) | omega)), (fun h9 => ((by first | (clear hn_8 hp_41 f_52 f_59 c_60 hn_91 f_107; omega) | omega)))⟩ | omega)), ⟨G_1, hX_5, f_7, hB_G_1, hq_2, ⟨r_13, G_14, hX_17, ⟨c_19, ⟨r_27, G_28, hX_31, ⟨c_33, ⟨G_34, hB_G_34, (Fr.put (rs := []) (fs := [(66, 7)]) Fr.rf eG_34 (Or.inr (by decide))), (gp_eq eG_34), ⟨r_38, G_39, hX_42, (Or.inl ⟨c_46, ⟨G_45, hB_G_45, (Fr.put (rs := []) (fs := [(66, 8), (66, 9)]) (Fr.putl (rs := []) (fs := [(66, 8), (66, 9)]) Fr.rf eG_44 (Or.inr (by decide))) eG_45 (Or.inr (by decide))), (gp_eq eG_45), ((congrFun (congrFun (congrArg (fun q => q.2.1) eG_45) 66) 9).trans (gpl_eq eG_44)), ⟨r_47, G_48, hX_51, (Or.inl ⟨c_53, ⟨r_54, G_55, hX_58, (Or.inr ⟨c_60, ⟨x_84, G_80, hX_85, f_89, f_90, hB_G_80, hq_81, ⟨r_96, G_97, hX_100, ⟨r_102, G_103, hX_106, ⟨c_108, (Or.inr ⟨G_112, hX_115, hB_G_112, hq_114, ⟨(Fr.put (rs := []) (fs := [(66, 6)]) Fr.rf eG_116 (Or.inr (by decide))), (gp_eq eG_116)⟩⟩)⟩⟩⟩⟩⟩)⟩⟩)⟩⟩⟩)⟩⟩⟩⟩⟩⟩⟩⟩), wd_t ht hW⟩, hS.F ht⟩) hS.2.2 dX12_token_250
                · have c_117 : (3 : Int) ≠ (3 : Int) := xI_ne rfl rfl c_117
                  exfalso; first | (clear b_6 hn_8 f_7 b_9 b_11 g_12 f_18 hp_16 c_19 g_25 g_26 f_32 hp_30 c_33 g_36 g_37 f_43 hp_41 c_46 d_1 f_52 hp_50 c_53 f_59 hp_57 c_60 g_86 g_87 hn_91 f_89 f_90 g_92 g_93 g_94 g_95 f_101 hp_99 f_107 hp_105 c_108; omega) | omega
              refine lv_icmp_gt (tgt := 203) hx hb dX12_token_189 rfl (fun c_120 => ?_) (fun c_120 => ?_)
              · have c_120 : 4 < x_84.toInt := xI_lt rfl rfl c_120
                exact hJ_113 () _ _ _ ⟨G_103, (Jn_n_token_3_mk (Or.inl ⟨c_120, rfl⟩)), hW, hB_G_103, hF, (Fr.rf (rs := []) (fs := [])), hS, lv_sub hl [0, 1] rfl⟩
              · have c_120 : x_84.toInt ≤ 4 := xI_nlt rfl rfl c_120
                refine lv_aload_n hx hb dX12_token_192 rfl (lv_at hl 1 rfl) ?_
                refine lv_iload_n hx hb dX12_token_193 rfl (lv_at hl 0 rfl) ?_
                have g_121 : (G_103.1 66 4).toInt = (G_1.1 66 4).toInt := (congrArg Int32.toInt (show G_103.1 66 4 = (G_1.1 66 4) from ((hq_104.i9 66 4 rfl rfl).trans ((hq_98.i9 66 4 rfl rfl).trans ((hq_81.i9 66 4 rfl rfl).trans ((hq_56.i9 66 4 rfl rfl).trans ((hq_49.i9 66 4 rfl rfl).trans ((gp_ne eG_45 (by decide)).trans ((congrFun (congrFun (gp_l eG_44).1 66) 4).trans ((hq_40.i9 66 4 rfl rfl).trans ((gp_ne eG_34 (by decide)).trans ((hq_29.i9 66 4 rfl rfl).trans ((hq_15.i9 66 4 rfl rfl).trans (rfl))))))))))))))
                have g_122 : (G_103.1 66 5).toInt = (G.1 66 5).toInt := (congrArg Int32.toInt (show G_103.1 66 5 = (G.1 66 5) from ((hq_104.i9 66 5 rfl rfl).trans ((hq_98.i9 66 5 rfl rfl).trans ((hq_81.i9 66 5 rfl rfl).trans ((hq_56.i9 66 5 rfl rfl).trans ((hq_49.i9 66 5 rfl rfl).trans ((gp_ne eG_45 (by decide)).trans ((congrFun (congrFun (gp_l eG_44).1 66) 5).trans ((hq_40.i9 66 5 rfl rfl).trans ((gp_ne eG_34 (by decide)).trans ((hq_29.i9 66 5 rfl rfl).trans ((hq_15.i9 66 5 rfl rfl).trans ((hq_2.i9 66 5 rfl rfl).trans (rfl)))))))))))))))
                refine S_calli (va_runV (As := [.int x_84]) (rest := [.ref (a 66)]) ⟨hx, hb, hml, hown, hts⟩ (n_here l D k A a z G_103 x_84 ⟨(by first | (clear b_6 hn_8 f_18 c_19 f_32 c_33 f_43 hp_41 c_46 f_52 hp_50 c_53 f_59 hp_57 c_60 hn_91 f_107; omega) | omega), (by first | (clear b_6 hn_8 f_18 c_19 f_32 c_33 f_43 hp_41 c_46 f_52 hp_50 c_53 f_59 hp_57 c_60 hn_91 f_107; omega) | omega)⟩) (cwV 1 hts (gd_V hgd m1606 m1608 m51 m131 m1609) rfl rfl rfl hd_X12_here ⟨Nat.le_of_ble_eq_true rfl, Nat.le_of_ble_eq_true rfl⟩) (pre_W hW hB_G_103 hK hZ hS kd_66 rfl) rfl rfl hl.1 rfl (lv_room (Nat.le_of_ble_eq_true rfl)) dX12_token_194 ⟨Nat.le_of_ble_eq_true rfl, Nat.le_of_ble_eq_true rfl⟩) hS (fun r_123 G_124 H locs hpo hW hS => ?_)
                have hX_127 : Q_here x_84 G_103 r_123 G_124 := hpo
                obtain ⟨hB_G_124, hq_125, f_128, hp_126, -⟩ := hpo
                have hF := hF.call9 hq_125 rfl rfl
                refine S_calli (va_runS (As := [.int r_123]) (rest := [.ref (a 66)]) ⟨hx, hb, hml, hown, hts⟩ (n_letter l D k A a z G_124 r_123 ) (va_cwS 1 hts (gd_S hgd m1610 m1611 m131 m1612) rfl rfl rfl hd_X12_isLetter.2 ⟨Nat.le_of_ble_eq_true rfl, Nat.le_of_ble_eq_true rfl⟩) (pre_S hW hB_G_124 hK hZ hS) rfl rfl hl.1 rfl (lv_room (Nat.le_of_ble_eq_true rfl)) dX12_token_197 ⟨Nat.le_of_ble_eq_true rfl, Nat.le_of_ble_eq_true rfl⟩) hS (fun r_129 G_130 H locs hpo hW hS => ?_)
                have hX_133 : Q_letter r_123 G_124 r_129 G_130 := hpo
                obtain ⟨hB_G_130, hq_131, f_134, hp_132, -⟩ := hpo
                have hF := hF.call9 hq_131 rfl rfl
                refine lv_if_eq (tgt := 207) hx hb dX12_token_200 rfl (fun c_135 => ?_) (fun c_135 => ?_)
                · have c_135 : r_129.toInt = 0 := xI_eq rfl rfl c_135
                  refine ic_2 hx hb dX12_token_207 ?_
                  refine S_putI (ty := .int) (C := RX12) (T := TX12) (N := 89) hx hb hg iX12 tyX12 tyX12_ok nmX12 hown hK hW hS kd_66 rfl 6 (lt_b rfl) (hg (Cond.fieldLink RX12 205 "SlabWalkModel" "sort" "I") m1320) (fun _ h9 => h9) rfl (by decide +kernel) rfl rfl rfl dX12_token_208 (fun G_136 H locs eG_136 hW hS => ?_)
                  have hB_G_136 : Bd G_136 := hB_G_130.put (lo := (-2147483648)) (hi := 2147483647) eG_136 rfl rfl rfl (tI_rng _).1 (tI_rng _).2 (hB_G_130.2.put eG_136 rfl)
                  have hF := hF.put eG_136 (Or.inr (by decide))
                  refine lv_goto (tgt := 232) hx hb dX12_token_211 rfl ?_
                  refine lv_aload_n hx hb dX12_token_232 rfl (lv_at hl 1 rfl) ?_
                  refine S_getI (v := 2) (C := RX12) (T := TX12) (N := 89) hx hb hg iX12 hown hK hW kd_66 rfl 6 (lt_b rfl) (hg (Cond.fieldLink RX12 205 "SlabWalkModel" "sort" "I") m1320) (fun _ h9 => h9) rfl (gp_eq eG_136) dX12_token_233 ?_
                  refine ic_3 hx hb dX12_token_236 ?_
                  refine lv_icmp_eq (tgt := 250) hx hb dX12_token_237 rfl (fun c_137 => ?_) (fun c_137 => ?_)
                  · have c_137 : (2 : Int) = (3 : Int) := xI_eq rfl rfl c_137
                    exfalso; first | (clear b_6 hn_8 f_7 b_9 b_11 g_12 f_18 hp_16 c_19 g_25 g_26 f_32 hp_30 c_33 g_36 g_37 f_43 hp_41 c_46 d_1 f_52 hp_50 c_53 f_59 hp_57 c_60 g_86 g_87 hn_91 f_89 f_90 g_92 g_93 g_94 g_95 f_101 hp_99 f_107 hp_105 c_108 c_120 g_121 g_122 f_128 hp_126 f_134 hp_132 c_135; omega) | omega
                  · have c_137 : (2 : Int) ≠ (3 : Int) := xI_ne rfl rfl c_137
                    refine lv_aload_n hx hb dX12_token_240 rfl (lv_at hl 1 rfl) ?_
                    refine lv_dup hx hb dX12_token_241 rfl ?_
                    refine S_getI (v := (G_1.1 66 4)) (C := RX12) (T := TX12) (N := 89) hx hb hg iX12 hown hK hW kd_66 rfl 4 (lt_b rfl) (hg (Cond.fieldLink RX12 185 "SlabWalkModel" "at" "I") m1318) (fun _ h9 => h9) rfl ((gp_ne eG_136 (by decide)).trans ((hq_131.i9 66 4 rfl rfl).trans ((hq_125.i9 66 4 rfl rfl).trans ((hq_104.i9 66 4 rfl rfl).trans ((hq_98.i9 66 4 rfl rfl).trans ((hq_81.i9 66 4 rfl rfl).trans ((hq_56.i9 66 4 rfl rfl).trans ((hq_49.i9 66 4 rfl rfl).trans ((gp_ne eG_45 (by decide)).trans ((congrFun (congrFun (gp_l eG_44).1 66) 4).trans ((hq_40.i9 66 4 rfl rfl).trans ((gp_ne eG_34 (by decide)).trans ((hq_29.i9 66 4 rfl rfl).trans ((hq_15.i9 66 4 rfl rfl).trans (rfl))))))))))))))) dX12_token_242 ?_
                    refine lv_iload_n hx hb dX12_token_245 rfl (lv_at hl 0 rfl) ?_
                    refine lv_iadd hx hb dX12_token_246 ?_
                    refine lv_topi (fun y_138 ey_138 => ?_)
                    have ty_138 : y_138.toInt = (G_1.1 66 4).toInt + x_84.toInt := xI_add rfl rfl ey_138 ((by first | (clear hn_8 hp_41 f_52 f_59 c_60 hn_91 f_107 f_134; omega) | omega)) ((by first | (clear hn_8 hp_41 f_52 f_59 c_60 hn_91 f_107 f_134; omega) | omega))
                    refine S_putI (ty := .int) (C := RX12) (T := TX12) (N := 89) hx hb hg iX12 tyX12 tyX12_ok nmX12 hown hK hW hS kd_66 rfl 4 (lt_b rfl) (hg (Cond.fieldLink RX12 185 "SlabWalkModel" "at" "I") m1318) (fun _ h9 => h9) rfl (by decide +kernel) rfl rfl rfl dX12_token_247 (fun G_139 H locs eG_139 hW hS => ?_)
                    have hB_G_139 : Bd G_139 := hB_G_136.put (V := y_138.toInt) (lo := 0) (hi := 1600) eG_139 rfl rfl rfl ((by first | (clear hn_8 hp_41 f_52 f_59 c_60 hn_91 f_107 f_134; omega) | omega)) ((by first | (clear hn_8 hp_41 f_52 f_59 c_60 hn_91 f_107 f_134; omega) | omega)) (hB_G_136.2.put eG_139 rfl)
                    have hF := hF.put eG_139 (Or.inr (by decide))
                    have g_140 : (G_139.1 66 4).toInt = y_138.toInt := (congrArg Int32.toInt (show G_139.1 66 4 = y_138 from (gp_eq eG_139)))
                    have g_141 : (G_139.1 66 6).toInt = 2 := (congrArg Int32.toInt (show G_139.1 66 6 = 2 from ((gp_ne eG_139 (by decide)).trans (gp_eq eG_136)))).trans rfl
                    exact W.vret hx hb hr (fun t ht _ => ⟨⟨G_139, rfl, (Q_token_mk ⟨hB_G_139, hF, ((by first | exact ⟨((by first | (clear hn_8 hp_41 f_52 f_59 c_60 hn_91 f_107 f_134 g_141; omega) | omega)), (fun h9 => ((by first | (clear hn_8 hp_41 f_52 f_59 c_60 hn_91 f_107 f_134; omega) | omega)))⟩ | omega)), ⟨G_1, hX_5, f_7, hB_G_1, hq_2, ⟨r_13, G_14, hX_17, ⟨c_19, ⟨r_27, G_28, hX_31, ⟨c_33, ⟨G_34, hB_G_34, (Fr.put (rs := []) (fs := [(66, 7)]) Fr.rf eG_34 (Or.inr (by decide))), (gp_eq eG_34), ⟨r_38, G_39, hX_42, (Or.inl ⟨c_46, ⟨G_45, hB_G_45, (Fr.put (rs := []) (fs := [(66, 8), (66, 9)]) (Fr.putl (rs := []) (fs := [(66, 8), (66, 9)]) Fr.rf eG_44 (Or.inr (by decide))) eG_45 (Or.inr (by decide))), (gp_eq eG_45), ((congrFun (congrFun (congrArg (fun q => q.2.1) eG_45) 66) 9).trans (gpl_eq eG_44)), ⟨r_47, G_48, hX_51, (Or.inl ⟨c_53, ⟨r_54, G_55, hX_58, (Or.inr ⟨c_60, ⟨x_84, G_80, hX_85, f_89, f_90, hB_G_80, hq_81, ⟨r_96, G_97, hX_100, ⟨r_102, G_103, hX_106, ⟨c_108, (Or.inl ⟨c_120, ⟨r_123, G_124, hX_127, ⟨r_129, G_130, hX_133, ⟨c_135, ⟨y_138, ty_138, ⟨(Fr.put (rs := []) (fs := [(66, 4), (66, 6)]) (Fr.put (rs := []) (fs := [(66, 4), (66, 6)]) Fr.rf eG_136 (Or.inr (by decide))) eG_139 (Or.inr (by decide))), (gp_eq eG_139), ((gp_ne eG_139 (by decide)).trans (gp_eq eG_136))⟩⟩⟩⟩⟩⟩)⟩⟩⟩⟩⟩)⟩⟩)⟩⟩⟩)⟩⟩⟩⟩⟩⟩⟩⟩), wd_t ht hW⟩, hS.F ht⟩) hS.2.2 dX12_token_250
                · have c_135 : r_129.toInt ≠ 0 := xI_ne rfl rfl c_135
                  exact hJ_113 () _ _ _ ⟨G_130, (Jn_n_token_3_mk (Or.inr ⟨c_120, ⟨r_123, G_124, hX_127, ⟨r_129, G_130, hX_133, ⟨c_135, rfl⟩⟩⟩⟩)), hW, hB_G_130, hF, (Fr.call9 (rs := []) (fs := []) (Fr.call9 (rs := []) (fs := []) Fr.rf hq_125 rfl rfl) hq_131 rfl rfl), hS, lv_sub hl [0, 1] rfl⟩
            · have c_108 : r_102.toInt ≠ 0 := xI_ne rfl rfl c_108
              refine lv_iload_n hx hb dX12_token_155 rfl (lv_at hl 0 rfl) ?_
              refine ic_4 hx hb dX12_token_156 ?_
              refine lv_icmp_ge (tgt := 180) hx hb dX12_token_157 rfl (fun c_142 => ?_) (fun c_142 => ?_)
              · have c_142 : 4 ≤ x_84.toInt := xI_le rfl rfl c_142
                obtain ⟨y_143, ey_143⟩ : ∃ q, q = x_84 + 1 := ⟨_, rfl⟩
                have ty_143 : y_143.toInt = x_84.toInt + 1 := xI_add rfl rfl ey_143 ((by first | (clear b_6 hn_8 f_18 c_19 f_32 c_33 f_43 hp_41 c_46 f_52 hp_50 c_53 f_59 hp_57 c_60 hn_91 f_107 c_108; omega) | omega)) ((by first | (clear b_6 hn_8 f_18 c_19 f_32 c_33 f_43 hp_41 c_46 f_52 hp_50 c_53 f_59 hp_57 c_60 hn_91 f_107 c_108; omega) | omega))
                refine lv_iinc (v := y_143) (lv' := [(2, .int y_143), (0, .ref (a 66))]) hx hb dX12_token_180 hl (k := 0) rfl (by rw [ey_143]; rfl) (lt_b rfl) rfl (fun ls hl => ?_)
                refine lv_goto (tgt := 144) hx hb dX12_token_183 rfl ?_
                have g_144 : (G_103.1 66 4).toInt = (G_1.1 66 4).toInt := (congrArg Int32.toInt (show G_103.1 66 4 = (G_1.1 66 4) from ((hq_104.i9 66 4 rfl rfl).trans ((hq_98.i9 66 4 rfl rfl).trans ((hq_81.i9 66 4 rfl rfl).trans ((hq_56.i9 66 4 rfl rfl).trans ((hq_49.i9 66 4 rfl rfl).trans ((gp_ne eG_45 (by decide)).trans ((congrFun (congrFun (gp_l eG_44).1 66) 4).trans ((hq_40.i9 66 4 rfl rfl).trans ((gp_ne eG_34 (by decide)).trans ((hq_29.i9 66 4 rfl rfl).trans ((hq_15.i9 66 4 rfl rfl).trans (rfl))))))))))))))
                have g_145 : (G_103.1 66 5).toInt = (G.1 66 5).toInt := (congrArg Int32.toInt (show G_103.1 66 5 = (G.1 66 5) from ((hq_104.i9 66 5 rfl rfl).trans ((hq_98.i9 66 5 rfl rfl).trans ((hq_81.i9 66 5 rfl rfl).trans ((hq_56.i9 66 5 rfl rfl).trans ((hq_49.i9 66 5 rfl rfl).trans ((gp_ne eG_45 (by decide)).trans ((congrFun (congrFun (gp_l eG_44).1 66) 5).trans ((hq_40.i9 66 5 rfl rfl).trans ((gp_ne eG_34 (by decide)).trans ((hq_29.i9 66 5 rfl rfl).trans ((hq_15.i9 66 5 rfl rfl).trans ((hq_2.i9 66 5 rfl rfl).trans (rfl)))))))))))))))
                exact ih_82 (1600 - y_143.toInt : Int).toNat ((by first | (clear b_6 f_18 c_19 f_32 c_33 f_43 hp_41 c_46 f_52 hp_50 c_53 f_59 hp_57 c_60 f_107 c_108; omega) | omega)) _ _ _ ⟨G_103, y_143, (Int.toNat_of_nonneg ((by first | (clear b_6 hn_8 f_18 c_19 f_32 c_33 f_43 hp_41 c_46 f_52 hp_50 c_53 f_59 hp_57 c_60 hn_91 f_107 c_108; omega) | omega))), ⟨(by first | (clear b_6 hn_8 f_18 c_19 f_32 c_33 f_43 hp_41 c_46 f_52 hp_50 c_53 f_59 hp_57 c_60 hn_91 f_107 c_108; omega) | omega), (by first | (clear b_6 hn_8 f_18 c_19 f_32 c_33 f_43 hp_41 c_46 f_52 hp_50 c_53 f_59 hp_57 c_60 hn_91 f_107 c_108; omega) | omega)⟩, ((by first | (clear hn_8 hp_41 f_52 f_59 c_60 hn_91 f_107 c_108; omega) | omega)), (hX_85.st (St_n_token_2_mk ⟨x_84, G_80, y_143, G_103, rfl, rfl, f_89, f_90, hB_G_80, ⟨r_96, G_97, hX_100, ⟨r_102, G_103, hX_106, ⟨c_108, (Or.inl ⟨c_142, ⟨y_143, ty_143, ⟨rfl, rfl⟩⟩⟩)⟩⟩⟩⟩)), hW, hB_G_103, hF, (Fr.call9 (rs := []) (fs := [(66, 8)]) (Fr.call9 (rs := []) (fs := [(66, 8)]) (Fr.call9 (rs := []) (fs := [(66, 8)]) Fr.rf hq_81 rfl rfl) hq_98 rfl rfl) hq_104 rfl rfl), hS, lv_sub hl [0, 1] rfl⟩
              · have c_142 : x_84.toInt < 4 := xI_nle rfl rfl c_142
                refine lv_aload_n hx hb dX12_token_160 rfl (lv_at hl 1 rfl) ?_
                refine lv_bipush (v := 10) hx hb dX12_token_161 (by decide) ?_
                refine lv_aload_n hx hb dX12_token_163 rfl (lv_at hl 1 rfl) ?_
                refine S_getI (v := (G_80.1 66 8)) (C := RX12) (T := TX12) (N := 89) hx hb hg iX12 hown hK hW kd_66 rfl 8 (lt_b rfl) (hg (Cond.fieldLink RX12 202 "SlabWalkModel" "number" "I") m1322) (fun _ h9 => h9) rfl ((hq_104.i9 66 8 rfl rfl).trans (hq_98.i9 66 8 rfl rfl)) dX12_token_164 ?_
                refine lv_imul hx hb dX12_token_167 ?_
                refine lv_topi (fun y_146 ey_146 => ?_)
                refine lv_aload_n hx hb dX12_token_168 rfl (lv_at hl 1 rfl) ?_
                refine lv_iload_n hx hb dX12_token_169 rfl (lv_at hl 0 rfl) ?_
                have g_147 : (G_103.1 66 4).toInt = (G_1.1 66 4).toInt := (congrArg Int32.toInt (show G_103.1 66 4 = (G_1.1 66 4) from ((hq_104.i9 66 4 rfl rfl).trans ((hq_98.i9 66 4 rfl rfl).trans ((hq_81.i9 66 4 rfl rfl).trans ((hq_56.i9 66 4 rfl rfl).trans ((hq_49.i9 66 4 rfl rfl).trans ((gp_ne eG_45 (by decide)).trans ((congrFun (congrFun (gp_l eG_44).1 66) 4).trans ((hq_40.i9 66 4 rfl rfl).trans ((gp_ne eG_34 (by decide)).trans ((hq_29.i9 66 4 rfl rfl).trans ((hq_15.i9 66 4 rfl rfl).trans (rfl))))))))))))))
                have g_148 : (G_103.1 66 5).toInt = (G.1 66 5).toInt := (congrArg Int32.toInt (show G_103.1 66 5 = (G.1 66 5) from ((hq_104.i9 66 5 rfl rfl).trans ((hq_98.i9 66 5 rfl rfl).trans ((hq_81.i9 66 5 rfl rfl).trans ((hq_56.i9 66 5 rfl rfl).trans ((hq_49.i9 66 5 rfl rfl).trans ((gp_ne eG_45 (by decide)).trans ((congrFun (congrFun (gp_l eG_44).1 66) 5).trans ((hq_40.i9 66 5 rfl rfl).trans ((gp_ne eG_34 (by decide)).trans ((hq_29.i9 66 5 rfl rfl).trans ((hq_15.i9 66 5 rfl rfl).trans ((hq_2.i9 66 5 rfl rfl).trans (rfl)))))))))))))))
                refine S_calli (va_runV (As := [.int x_84]) (rest := [.int y_146, .ref (a 66)]) ⟨hx, hb, hml, hown, hts⟩ (n_here l D k A a z G_103 x_84 ⟨(by first | (clear b_6 hn_8 f_18 c_19 f_32 c_33 f_43 hp_41 c_46 f_52 hp_50 c_53 f_59 hp_57 c_60 hn_91 f_107 c_108; omega) | omega), (by first | (clear b_6 hn_8 f_18 c_19 f_32 c_33 f_43 hp_41 c_46 f_52 hp_50 c_53 f_59 hp_57 c_60 hn_91 f_107 c_108; omega) | omega)⟩) (cwV 1 hts (gd_V hgd m1606 m1608 m51 m131 m1609) rfl rfl rfl hd_X12_here ⟨Nat.le_of_ble_eq_true rfl, Nat.le_of_ble_eq_true rfl⟩) (pre_W hW hB_G_103 hK hZ hS kd_66 rfl) rfl rfl hl.1 rfl (lv_room (Nat.le_of_ble_eq_true rfl)) dX12_token_170 ⟨Nat.le_of_ble_eq_true rfl, Nat.le_of_ble_eq_true rfl⟩) hS (fun r_149 G_150 H locs hpo hW hS => ?_)
                have hX_153 : Q_here x_84 G_103 r_149 G_150 := hpo
                obtain ⟨hB_G_150, hq_151, f_154, hp_152, -⟩ := hpo
                have hF := hF.call9 hq_151 rfl rfl
                refine lv_iadd hx hb dX12_token_173 ?_
                refine lv_topi (fun y_155 ey_155 => ?_)
                refine lv_bipush (v := 48) hx hb dX12_token_174 (by decide) ?_
                refine lv_isub hx hb dX12_token_176 ?_
                refine lv_topi (fun y_156 ey_156 => ?_)
                refine S_putI (ty := .int) (C := RX12) (T := TX12) (N := 89) hx hb hg iX12 tyX12 tyX12_ok nmX12 hown hK hW hS kd_66 rfl 8 (lt_b rfl) (hg (Cond.fieldLink RX12 202 "SlabWalkModel" "number" "I") m1322) (fun _ h9 => h9) rfl (by decide +kernel) rfl rfl rfl dX12_token_177 (fun G_157 H locs eG_157 hW hS => ?_)
                have hB_G_157 : Bd G_157 := hB_G_150.put (lo := (-2147483648)) (hi := 2147483647) eG_157 rfl rfl rfl (tI_rng _).1 (tI_rng _).2 (hB_G_150.2.put eG_157 rfl)
                have hF := hF.put eG_157 (Or.inr (by decide))
                obtain ⟨y_158, ey_158⟩ : ∃ q, q = x_84 + 1 := ⟨_, rfl⟩
                have ty_158 : y_158.toInt = x_84.toInt + 1 := xI_add rfl rfl ey_158 ((by first | (clear b_6 hn_8 f_18 c_19 f_32 c_33 f_43 hp_41 c_46 f_52 hp_50 c_53 f_59 hp_57 c_60 hn_91 f_107 c_108; omega) | omega)) ((by first | (clear b_6 hn_8 f_18 c_19 f_32 c_33 f_43 hp_41 c_46 f_52 hp_50 c_53 f_59 hp_57 c_60 hn_91 f_107 c_108; omega) | omega))
                refine lv_iinc (v := y_158) (lv' := [(2, .int y_158), (0, .ref (a 66))]) hx hb dX12_token_180 hl (k := 0) rfl (by rw [ey_158]; rfl) (lt_b rfl) rfl (fun ls hl => ?_)
                refine lv_goto (tgt := 144) hx hb dX12_token_183 rfl ?_
                have g_159 : (G_157.1 66 4).toInt = (G_1.1 66 4).toInt := (congrArg Int32.toInt (show G_157.1 66 4 = (G_1.1 66 4) from ((gp_ne eG_157 (by decide)).trans ((hq_151.i9 66 4 rfl rfl).trans ((hq_104.i9 66 4 rfl rfl).trans ((hq_98.i9 66 4 rfl rfl).trans ((hq_81.i9 66 4 rfl rfl).trans ((hq_56.i9 66 4 rfl rfl).trans ((hq_49.i9 66 4 rfl rfl).trans ((gp_ne eG_45 (by decide)).trans ((congrFun (congrFun (gp_l eG_44).1 66) 4).trans ((hq_40.i9 66 4 rfl rfl).trans ((gp_ne eG_34 (by decide)).trans ((hq_29.i9 66 4 rfl rfl).trans ((hq_15.i9 66 4 rfl rfl).trans (rfl))))))))))))))))
                have g_160 : (G_157.1 66 5).toInt = (G.1 66 5).toInt := (congrArg Int32.toInt (show G_157.1 66 5 = (G.1 66 5) from ((gp_ne eG_157 (by decide)).trans ((hq_151.i9 66 5 rfl rfl).trans ((hq_104.i9 66 5 rfl rfl).trans ((hq_98.i9 66 5 rfl rfl).trans ((hq_81.i9 66 5 rfl rfl).trans ((hq_56.i9 66 5 rfl rfl).trans ((hq_49.i9 66 5 rfl rfl).trans ((gp_ne eG_45 (by decide)).trans ((congrFun (congrFun (gp_l eG_44).1 66) 5).trans ((hq_40.i9 66 5 rfl rfl).trans ((gp_ne eG_34 (by decide)).trans ((hq_29.i9 66 5 rfl rfl).trans ((hq_15.i9 66 5 rfl rfl).trans ((hq_2.i9 66 5 rfl rfl).trans (rfl)))))))))))))))))
                exact ih_82 (1600 - y_158.toInt : Int).toNat ((by first | (clear b_6 f_18 c_19 f_32 c_33 f_43 hp_41 c_46 f_52 hp_50 c_53 f_59 hp_57 c_60 f_107 c_108; omega) | omega)) _ _ _ ⟨G_157, y_158, (Int.toNat_of_nonneg ((by first | (clear b_6 hn_8 f_18 c_19 f_32 c_33 f_43 hp_41 c_46 f_52 hp_50 c_53 f_59 hp_57 c_60 hn_91 f_107 c_108; omega) | omega))), ⟨(by first | (clear b_6 hn_8 f_18 c_19 f_32 c_33 f_43 hp_41 c_46 f_52 hp_50 c_53 f_59 hp_57 c_60 hn_91 f_107 c_108; omega) | omega), (by first | (clear b_6 hn_8 f_18 c_19 f_32 c_33 f_43 hp_41 c_46 f_52 hp_50 c_53 f_59 hp_57 c_60 hn_91 f_107 c_108; omega) | omega)⟩, ((by first | (clear hn_8 hp_41 f_52 f_59 c_60 hn_91 f_107 c_108; omega) | omega)), (hX_85.st (St_n_token_2_mk ⟨x_84, G_80, y_158, G_157, rfl, rfl, f_89, f_90, hB_G_80, ⟨r_96, G_97, hX_100, ⟨r_102, G_103, hX_106, ⟨c_108, (Or.inr ⟨c_142, ⟨y_146, ey_146, ⟨r_149, G_150, hX_153, ⟨y_155, ey_155, ⟨y_156, ey_156, ⟨y_158, ty_158, ⟨rfl, (Fr.put (rs := []) (fs := [(66, 8)]) Fr.rf eG_157 (Or.inr (by decide))), (gp_eq eG_157)⟩⟩⟩⟩⟩⟩⟩)⟩⟩⟩⟩)), hW, hB_G_157, hF, (Fr.put (rs := []) (fs := [(66, 8)]) (Fr.call9 (rs := []) (fs := [(66, 8)]) (Fr.call9 (rs := []) (fs := [(66, 8)]) (Fr.call9 (rs := []) (fs := [(66, 8)]) (Fr.call9 (rs := []) (fs := [(66, 8)]) Fr.rf hq_81 rfl rfl) hq_98 rfl rfl) hq_104 rfl rfl) hq_151 rfl rfl) eG_157 (Or.inr (by decide))), hS, lv_sub hl [0, 1] rfl⟩
        · have c_53 : r_47.toInt ≠ 0 := xI_ne rfl rfl c_53
          have g_167 : (G_48.1 66 4).toInt = (G_1.1 66 4).toInt := (congrArg Int32.toInt (show G_48.1 66 4 = (G_1.1 66 4) from ((hq_49.i9 66 4 rfl rfl).trans ((gp_ne eG_45 (by decide)).trans ((congrFun (congrFun (gp_l eG_44).1 66) 4).trans ((hq_40.i9 66 4 rfl rfl).trans ((gp_ne eG_34 (by decide)).trans ((hq_29.i9 66 4 rfl rfl).trans ((hq_15.i9 66 4 rfl rfl).trans (rfl))))))))))
          have g_168 : (G_48.1 66 5).toInt = (G.1 66 5).toInt := (congrArg Int32.toInt (show G_48.1 66 5 = (G.1 66 5) from ((hq_49.i9 66 5 rfl rfl).trans ((gp_ne eG_45 (by decide)).trans ((congrFun (congrFun (gp_l eG_44).1 66) 5).trans ((hq_40.i9 66 5 rfl rfl).trans ((gp_ne eG_34 (by decide)).trans ((hq_29.i9 66 5 rfl rfl).trans ((hq_15.i9 66 5 rfl rfl).trans ((hq_2.i9 66 5 rfl rfl).trans (rfl)))))))))))
          have qc_169 : (0 : Int32).toInt = 0 := rfl
          refine loop_N (Inv := fun n H locs ls => ∃ (G_161 : GS) (x_165 : Int32), (n : Int) = 1600 - x_165.toInt ∧ (0 ≤ x_165.toInt ∧ x_165.toInt ≤ 1600) ∧ ((G_161.1 66 4).toInt + x_165.toInt ≤ (G_161.1 66 5).toInt) ∧ Rc (St_n_token_4) (0, G_48) (x_165, G_161) ∧ Wd D k A a G_161 H ∧ Bd G_161 ∧ Fr [] [(66, 4), (66, 6), (66, 7), (66, 8), (66, 9)] G G_161 ∧ Fr [] [(66, 9)] G_48 G_161 ∧ va_S A s.heap H locs ∧ lv_has ls 3 [(2, .int x_165), (0, .ref (a 66))]) (fun n_164 H locs ls ih_163 hI => ?_) (1600 - 0 : Int).toNat ⟨G_48, 0, (Int.toNat_of_nonneg ((by first | (clear b_6 hn_8 f_7 b_9 b_11 g_12 f_18 hp_16 c_19 g_25 g_26 f_32 hp_30 c_33 g_36 g_37 f_43 hp_41 c_46 d_1 f_52 hp_50 c_53 g_167 g_168; omega) | omega))), ⟨(by first | (clear b_6 hn_8 f_7 b_9 b_11 g_12 f_18 hp_16 c_19 g_25 g_26 f_32 hp_30 c_33 g_36 g_37 f_43 hp_41 c_46 d_1 f_52 hp_50 c_53 g_167 g_168; omega) | omega), (by first | (clear b_6 hn_8 f_7 b_9 b_11 g_12 f_18 hp_16 c_19 g_25 g_26 f_32 hp_30 c_33 g_36 g_37 f_43 hp_41 c_46 d_1 f_52 hp_50 c_53 g_167 g_168; omega) | omega)⟩, ((by first | (clear hn_8 hp_41 f_52 c_53; omega) | omega)), Rc.rf, hW, hB_G_48, hF, Fr.rf, hS, lv_sub hl [0, 2] rfl⟩
          obtain ⟨G_161, x_165, hn_172, f_170, f_171, hX_166, hW, hB_G_161, hF, hq_162, hS, hl⟩ := hI
          have g_173 : (G_161.1 66 4).toInt = (G_1.1 66 4).toInt := (congrArg Int32.toInt (show G_161.1 66 4 = (G_1.1 66 4) from ((hq_162.i9 66 4 rfl rfl).trans ((hq_49.i9 66 4 rfl rfl).trans ((gp_ne eG_45 (by decide)).trans ((congrFun (congrFun (gp_l eG_44).1 66) 4).trans ((hq_40.i9 66 4 rfl rfl).trans ((gp_ne eG_34 (by decide)).trans ((hq_29.i9 66 4 rfl rfl).trans ((hq_15.i9 66 4 rfl rfl).trans (rfl)))))))))))
          have g_174 : (G_161.1 66 5).toInt = (G.1 66 5).toInt := (congrArg Int32.toInt (show G_161.1 66 5 = (G.1 66 5) from ((hq_162.i9 66 5 rfl rfl).trans ((hq_49.i9 66 5 rfl rfl).trans ((gp_ne eG_45 (by decide)).trans ((congrFun (congrFun (gp_l eG_44).1 66) 5).trans ((hq_40.i9 66 5 rfl rfl).trans ((gp_ne eG_34 (by decide)).trans ((hq_29.i9 66 5 rfl rfl).trans ((hq_15.i9 66 5 rfl rfl).trans ((hq_2.i9 66 5 rfl rfl).trans (rfl))))))))))))
          refine lv_aload_n hx hb dX12_token_78 rfl (lv_at hl 1 rfl) ?_
          refine lv_iload_n hx hb dX12_token_79 rfl (lv_at hl 0 rfl) ?_
          have g_175 : (G_161.1 66 4).toInt = (G_1.1 66 4).toInt := (congrArg Int32.toInt (show G_161.1 66 4 = (G_1.1 66 4) from ((hq_162.i9 66 4 rfl rfl).trans ((hq_49.i9 66 4 rfl rfl).trans ((gp_ne eG_45 (by decide)).trans ((congrFun (congrFun (gp_l eG_44).1 66) 4).trans ((hq_40.i9 66 4 rfl rfl).trans ((gp_ne eG_34 (by decide)).trans ((hq_29.i9 66 4 rfl rfl).trans ((hq_15.i9 66 4 rfl rfl).trans (rfl)))))))))))
          have g_176 : (G_161.1 66 5).toInt = (G.1 66 5).toInt := (congrArg Int32.toInt (show G_161.1 66 5 = (G.1 66 5) from ((hq_162.i9 66 5 rfl rfl).trans ((hq_49.i9 66 5 rfl rfl).trans ((gp_ne eG_45 (by decide)).trans ((congrFun (congrFun (gp_l eG_44).1 66) 5).trans ((hq_40.i9 66 5 rfl rfl).trans ((gp_ne eG_34 (by decide)).trans ((hq_29.i9 66 5 rfl rfl).trans ((hq_15.i9 66 5 rfl rfl).trans ((hq_2.i9 66 5 rfl rfl).trans (rfl))))))))))))
          refine S_calli (va_runV (As := [.int x_165]) (rest := []) ⟨hx, hb, hml, hown, hts⟩ (n_here l D k A a z G_161 x_165 ⟨(by first | (clear b_6 hn_8 f_18 c_19 f_32 c_33 f_43 hp_41 c_46 f_52 hp_50 c_53 hn_172; omega) | omega), (by first | (clear b_6 hn_8 f_18 c_19 f_32 c_33 f_43 hp_41 c_46 f_52 hp_50 c_53 hn_172; omega) | omega)⟩) (cwV 1 hts (gd_V hgd m1606 m1608 m51 m131 m1609) rfl rfl rfl hd_X12_here ⟨Nat.le_of_ble_eq_true rfl, Nat.le_of_ble_eq_true rfl⟩) (pre_W hW hB_G_161 hK hZ hS kd_66 rfl) rfl rfl hl.1 rfl (lv_room (Nat.le_of_ble_eq_true rfl)) dX12_token_80 ⟨Nat.le_of_ble_eq_true rfl, Nat.le_of_ble_eq_true rfl⟩) hS (fun r_177 G_178 H locs hpo hW hS => ?_)
          have hX_181 : Q_here x_165 G_161 r_177 G_178 := hpo
          obtain ⟨hB_G_178, hq_179, f_182, hp_180, -⟩ := hpo
          have hF := hF.call9 hq_179 rfl rfl
          refine S_calli (va_runS (As := [.int r_177]) (rest := []) ⟨hx, hb, hml, hown, hts⟩ (n_letter l D k A a z G_178 r_177 ) (va_cwS 1 hts (gd_S hgd m1610 m1611 m131 m1612) rfl rfl rfl hd_X12_isLetter.2 ⟨Nat.le_of_ble_eq_true rfl, Nat.le_of_ble_eq_true rfl⟩) (pre_S hW hB_G_178 hK hZ hS) rfl rfl hl.1 rfl (lv_room (Nat.le_of_ble_eq_true rfl)) dX12_token_83 ⟨Nat.le_of_ble_eq_true rfl, Nat.le_of_ble_eq_true rfl⟩) hS (fun r_183 G_184 H locs hpo hW hS => ?_)
          have hX_187 : Q_letter r_177 G_178 r_183 G_184 := hpo
          obtain ⟨hB_G_184, hq_185, f_188, hp_186, -⟩ := hpo
          have hF := hF.call9 hq_185 rfl rfl
          refine lv_if_eq (tgt := 119) hx hb dX12_token_86 rfl (fun c_189 => ?_) (fun c_189 => ?_)
          · have c_189 : r_183.toInt = 0 := xI_eq rfl rfl c_189
            refine lv_aload_n hx hb dX12_token_119 rfl (lv_at hl 1 rfl) ?_
            refine lv_iload_n hx hb dX12_token_120 rfl (lv_at hl 0 rfl) ?_
            refine lv_bipush (v := 8) hx hb dX12_token_121 (by decide) ?_
            refine lv_icmp_le (tgt := 130) hx hb dX12_token_123 rfl (fun c_190 => ?_) (fun c_190 => ?_)
            · have c_190 : x_165.toInt ≤ 8 := xI_le rfl rfl c_190
              refine ic_1 hx hb dX12_token_130 ?_
              refine S_putI (ty := .int) (C := RX12) (T := TX12) (N := 89) hx hb hg iX12 tyX12 tyX12_ok nmX12 hown hK hW hS kd_66 rfl 6 (lt_b rfl) (hg (Cond.fieldLink RX12 205 "SlabWalkModel" "sort" "I") m1320) (fun _ h9 => h9) rfl (by decide +kernel) rfl rfl rfl dX12_token_131 (fun G_191 H locs eG_191 hW hS => ?_)
              have hB_G_191 : Bd G_191 := hB_G_184.put (lo := (-2147483648)) (hi := 2147483647) eG_191 rfl rfl rfl (tI_rng _).1 (tI_rng _).2 (hB_G_184.2.put eG_191 rfl)
              have hF := hF.put eG_191 (Or.inr (by decide))
              refine lv_goto (tgt := 232) hx hb dX12_token_134 rfl ?_
              refine lv_aload_n hx hb dX12_token_232 rfl (lv_at hl 1 rfl) ?_
              refine S_getI (v := 1) (C := RX12) (T := TX12) (N := 89) hx hb hg iX12 hown hK hW kd_66 rfl 6 (lt_b rfl) (hg (Cond.fieldLink RX12 205 "SlabWalkModel" "sort" "I") m1320) (fun _ h9 => h9) rfl (gp_eq eG_191) dX12_token_233 ?_
              refine ic_3 hx hb dX12_token_236 ?_
              refine lv_icmp_eq (tgt := 250) hx hb dX12_token_237 rfl (fun c_192 => ?_) (fun c_192 => ?_)
              · have c_192 : (1 : Int) = (3 : Int) := xI_eq rfl rfl c_192
                exfalso; first | (clear b_6 hn_8 f_7 b_9 b_11 g_12 f_18 hp_16 c_19 g_25 g_26 f_32 hp_30 c_33 g_36 g_37 f_43 hp_41 c_46 d_1 f_52 hp_50 c_53 g_167 g_168 hn_172 f_170 f_171 g_173 g_174 g_175 g_176 f_182 hp_180 f_188 hp_186 c_189 c_190; omega) | omega
              · have c_192 : (1 : Int) ≠ (3 : Int) := xI_ne rfl rfl c_192
                refine lv_aload_n hx hb dX12_token_240 rfl (lv_at hl 1 rfl) ?_
                refine lv_dup hx hb dX12_token_241 rfl ?_
                refine S_getI (v := (G_1.1 66 4)) (C := RX12) (T := TX12) (N := 89) hx hb hg iX12 hown hK hW kd_66 rfl 4 (lt_b rfl) (hg (Cond.fieldLink RX12 185 "SlabWalkModel" "at" "I") m1318) (fun _ h9 => h9) rfl ((gp_ne eG_191 (by decide)).trans ((hq_185.i9 66 4 rfl rfl).trans ((hq_179.i9 66 4 rfl rfl).trans ((hq_162.i9 66 4 rfl rfl).trans ((hq_49.i9 66 4 rfl rfl).trans ((gp_ne eG_45 (by decide)).trans ((congrFun (congrFun (gp_l eG_44).1 66) 4).trans ((hq_40.i9 66 4 rfl rfl).trans ((gp_ne eG_34 (by decide)).trans ((hq_29.i9 66 4 rfl rfl).trans ((hq_15.i9 66 4 rfl rfl).trans (rfl)))))))))))) dX12_token_242 ?_
                refine lv_iload_n hx hb dX12_token_245 rfl (lv_at hl 0 rfl) ?_
                refine lv_iadd hx hb dX12_token_246 ?_
                refine lv_topi (fun y_193 ey_193 => ?_)
                have ty_193 : y_193.toInt = (G_1.1 66 4).toInt + x_165.toInt := xI_add rfl rfl ey_193 ((by first | (clear hn_8 hp_41 f_52 c_53 hn_172 f_188; omega) | omega)) ((by first | (clear hn_8 hp_41 f_52 c_53 hn_172 f_188; omega) | omega))
                refine S_putI (ty := .int) (C := RX12) (T := TX12) (N := 89) hx hb hg iX12 tyX12 tyX12_ok nmX12 hown hK hW hS kd_66 rfl 4 (lt_b rfl) (hg (Cond.fieldLink RX12 185 "SlabWalkModel" "at" "I") m1318) (fun _ h9 => h9) rfl (by decide +kernel) rfl rfl rfl dX12_token_247 (fun G_194 H locs eG_194 hW hS => ?_)
                have hB_G_194 : Bd G_194 := hB_G_191.put (V := y_193.toInt) (lo := 0) (hi := 1600) eG_194 rfl rfl rfl ((by first | (clear hn_8 hp_41 f_52 c_53 hn_172 f_188; omega) | omega)) ((by first | (clear hn_8 hp_41 f_52 c_53 hn_172 f_188; omega) | omega)) (hB_G_191.2.put eG_194 rfl)
                have hF := hF.put eG_194 (Or.inr (by decide))
                have g_195 : (G_194.1 66 4).toInt = y_193.toInt := (congrArg Int32.toInt (show G_194.1 66 4 = y_193 from (gp_eq eG_194)))
                have g_196 : (G_194.1 66 6).toInt = 1 := (congrArg Int32.toInt (show G_194.1 66 6 = 1 from ((gp_ne eG_194 (by decide)).trans (gp_eq eG_191)))).trans rfl
                exact W.vret hx hb hr (fun t ht _ => ⟨⟨G_194, rfl, (Q_token_mk ⟨hB_G_194, hF, ((by first | exact ⟨((by first | (clear hn_8 hp_41 f_52 c_53 hn_172 f_188 g_196; omega) | omega)), (fun h9 => ((by first | (clear hn_8 hp_41 f_52 c_53 hn_172 f_188; omega) | omega)))⟩ | omega)), ⟨G_1, hX_5, f_7, hB_G_1, hq_2, ⟨r_13, G_14, hX_17, ⟨c_19, ⟨r_27, G_28, hX_31, ⟨c_33, ⟨G_34, hB_G_34, (Fr.put (rs := []) (fs := [(66, 7)]) Fr.rf eG_34 (Or.inr (by decide))), (gp_eq eG_34), ⟨r_38, G_39, hX_42, (Or.inl ⟨c_46, ⟨G_45, hB_G_45, (Fr.put (rs := []) (fs := [(66, 8), (66, 9)]) (Fr.putl (rs := []) (fs := [(66, 8), (66, 9)]) Fr.rf eG_44 (Or.inr (by decide))) eG_45 (Or.inr (by decide))), (gp_eq eG_45), ((congrFun (congrFun (congrArg (fun q => q.2.1) eG_45) 66) 9).trans (gpl_eq eG_44)), ⟨r_47, G_48, hX_51, (Or.inr ⟨c_53, ⟨x_165, G_161, hX_166, f_170, f_171, hB_G_161, hq_162, ⟨r_177, G_178, hX_181, ⟨r_183, G_184, hX_187, ⟨c_189, (Or.inl ⟨c_190, ⟨y_193, ty_193, ⟨(Fr.put (rs := []) (fs := [(66, 4), (66, 6)]) (Fr.put (rs := []) (fs := [(66, 4), (66, 6)]) Fr.rf eG_191 (Or.inr (by decide))) eG_194 (Or.inr (by decide))), (gp_eq eG_194), ((gp_ne eG_194 (by decide)).trans (gp_eq eG_191))⟩⟩⟩)⟩⟩⟩⟩⟩)⟩⟩⟩)⟩⟩⟩⟩⟩⟩⟩⟩), wd_t ht hW⟩, hS.F ht⟩) hS.2.2 dX12_token_250
            · have c_190 : 8 < x_165.toInt := xI_nle rfl rfl c_190
              refine ic_3 hx hb dX12_token_126 ?_
              refine lv_goto (tgt := 131) hx hb dX12_token_127 rfl ?_
              refine S_putI (ty := .int) (C := RX12) (T := TX12) (N := 89) hx hb hg iX12 tyX12 tyX12_ok nmX12 hown hK hW hS kd_66 rfl 6 (lt_b rfl) (hg (Cond.fieldLink RX12 205 "SlabWalkModel" "sort" "I") m1320) (fun _ h9 => h9) rfl (by decide +kernel) rfl rfl rfl dX12_token_131 (fun G_197 H locs eG_197 hW hS => ?_)
              have hB_G_197 : Bd G_197 := hB_G_184.put (lo := (-2147483648)) (hi := 2147483647) eG_197 rfl rfl rfl (tI_rng _).1 (tI_rng _).2 (hB_G_184.2.put eG_197 rfl)
              have hF := hF.put eG_197 (Or.inr (by decide))
              refine lv_goto (tgt := 232) hx hb dX12_token_134 rfl ?_
              refine lv_aload_n hx hb dX12_token_232 rfl (lv_at hl 1 rfl) ?_
              refine S_getI (v := 3) (C := RX12) (T := TX12) (N := 89) hx hb hg iX12 hown hK hW kd_66 rfl 6 (lt_b rfl) (hg (Cond.fieldLink RX12 205 "SlabWalkModel" "sort" "I") m1320) (fun _ h9 => h9) rfl (gp_eq eG_197) dX12_token_233 ?_
              refine ic_3 hx hb dX12_token_236 ?_
              refine lv_icmp_eq (tgt := 250) hx hb dX12_token_237 rfl (fun c_198 => ?_) (fun c_198 => ?_)
              · have c_198 : (3 : Int) = (3 : Int) := xI_eq rfl rfl c_198
                have g_199 : (G_197.1 66 4).toInt = (G_1.1 66 4).toInt := (congrArg Int32.toInt (show G_197.1 66 4 = (G_1.1 66 4) from ((gp_ne eG_197 (by decide)).trans ((hq_185.i9 66 4 rfl rfl).trans ((hq_179.i9 66 4 rfl rfl).trans ((hq_162.i9 66 4 rfl rfl).trans ((hq_49.i9 66 4 rfl rfl).trans ((gp_ne eG_45 (by decide)).trans ((congrFun (congrFun (gp_l eG_44).1 66) 4).trans ((hq_40.i9 66 4 rfl rfl).trans ((gp_ne eG_34 (by decide)).trans ((hq_29.i9 66 4 rfl rfl).trans ((hq_15.i9 66 4 rfl rfl).trans (rfl))))))))))))))
                have g_200 : (G_197.1 66 6).toInt = 3 := (congrArg Int32.toInt (show G_197.1 66 6 = 3 from (gp_eq eG_197))).trans rfl
                exact W.vret hx hb hr (fun t ht _ => ⟨⟨G_197, rfl, (Q_token_mk ⟨hB_G_197, hF, ((by first | exact ⟨((by first | (clear hn_8 hp_41 f_52 c_53 hn_172 f_188 g_200; omega) | omega)), (fun h9 => ((by first | (clear hn_8 hp_41 f_52 c_53 hn_172 f_188; omega) | omega)))⟩ | omega)), ⟨G_1, hX_5, f_7, hB_G_1, hq_2, ⟨r_13, G_14, hX_17, ⟨c_19, ⟨r_27, G_28, hX_31, ⟨c_33, ⟨G_34, hB_G_34, (Fr.put (rs := []) (fs := [(66, 7)]) Fr.rf eG_34 (Or.inr (by decide))), (gp_eq eG_34), ⟨r_38, G_39, hX_42, (Or.inl ⟨c_46, ⟨G_45, hB_G_45, (Fr.put (rs := []) (fs := [(66, 8), (66, 9)]) (Fr.putl (rs := []) (fs := [(66, 8), (66, 9)]) Fr.rf eG_44 (Or.inr (by decide))) eG_45 (Or.inr (by decide))), (gp_eq eG_45), ((congrFun (congrFun (congrArg (fun q => q.2.1) eG_45) 66) 9).trans (gpl_eq eG_44)), ⟨r_47, G_48, hX_51, (Or.inr ⟨c_53, ⟨x_165, G_161, hX_166, f_170, f_171, hB_G_161, hq_162, ⟨r_177, G_178, hX_181, ⟨r_183, G_184, hX_187, ⟨c_189, (Or.inr ⟨c_190, ⟨(Fr.put (rs := []) (fs := [(66, 6)]) Fr.rf eG_197 (Or.inr (by decide))), (gp_eq eG_197)⟩⟩)⟩⟩⟩⟩⟩)⟩⟩⟩)⟩⟩⟩⟩⟩⟩⟩⟩), wd_t ht hW⟩, hS.F ht⟩) hS.2.2 dX12_token_250
              · have c_198 : (3 : Int) ≠ (3 : Int) := xI_ne rfl rfl c_198
                exfalso; first | (clear b_6 hn_8 f_7 b_9 b_11 g_12 f_18 hp_16 c_19 g_25 g_26 f_32 hp_30 c_33 g_36 g_37 f_43 hp_41 c_46 d_1 f_52 hp_50 c_53 g_167 g_168 hn_172 f_170 f_171 g_173 g_174 g_175 g_176 f_182 hp_180 f_188 hp_186 c_189 c_190; omega) | omega
          · have c_189 : r_183.toInt ≠ 0 := xI_ne rfl rfl c_189
            refine lv_iload_n hx hb dX12_token_89 rfl (lv_at hl 0 rfl) ?_
            refine lv_bipush (v := 8) hx hb dX12_token_90 (by decide) ?_
            refine lv_icmp_ge (tgt := 113) hx hb dX12_token_92 rfl (fun c_201 => ?_) (fun c_201 => ?_)
            · have c_201 : 8 ≤ x_165.toInt := xI_le rfl rfl c_201
              obtain ⟨y_202, ey_202⟩ : ∃ q, q = x_165 + 1 := ⟨_, rfl⟩
              have ty_202 : y_202.toInt = x_165.toInt + 1 := xI_add rfl rfl ey_202 ((by first | (clear b_6 hn_8 f_18 c_19 f_32 c_33 f_43 hp_41 c_46 f_52 hp_50 c_53 hn_172 f_188 c_189; omega) | omega)) ((by first | (clear b_6 hn_8 f_18 c_19 f_32 c_33 f_43 hp_41 c_46 f_52 hp_50 c_53 hn_172 f_188 c_189; omega) | omega))
              refine lv_iinc (v := y_202) (lv' := [(2, .int y_202), (0, .ref (a 66))]) hx hb dX12_token_113 hl (k := 0) rfl (by rw [ey_202]; rfl) (lt_b rfl) rfl (fun ls hl => ?_)
              refine lv_goto (tgt := 78) hx hb dX12_token_116 rfl ?_
              have g_203 : (G_184.1 66 4).toInt = (G_1.1 66 4).toInt := (congrArg Int32.toInt (show G_184.1 66 4 = (G_1.1 66 4) from ((hq_185.i9 66 4 rfl rfl).trans ((hq_179.i9 66 4 rfl rfl).trans ((hq_162.i9 66 4 rfl rfl).trans ((hq_49.i9 66 4 rfl rfl).trans ((gp_ne eG_45 (by decide)).trans ((congrFun (congrFun (gp_l eG_44).1 66) 4).trans ((hq_40.i9 66 4 rfl rfl).trans ((gp_ne eG_34 (by decide)).trans ((hq_29.i9 66 4 rfl rfl).trans ((hq_15.i9 66 4 rfl rfl).trans (rfl)))))))))))))
              have g_204 : (G_184.1 66 5).toInt = (G.1 66 5).toInt := (congrArg Int32.toInt (show G_184.1 66 5 = (G.1 66 5) from ((hq_185.i9 66 5 rfl rfl).trans ((hq_179.i9 66 5 rfl rfl).trans ((hq_162.i9 66 5 rfl rfl).trans ((hq_49.i9 66 5 rfl rfl).trans ((gp_ne eG_45 (by decide)).trans ((congrFun (congrFun (gp_l eG_44).1 66) 5).trans ((hq_40.i9 66 5 rfl rfl).trans ((gp_ne eG_34 (by decide)).trans ((hq_29.i9 66 5 rfl rfl).trans ((hq_15.i9 66 5 rfl rfl).trans ((hq_2.i9 66 5 rfl rfl).trans (rfl))))))))))))))
              exact ih_163 (1600 - y_202.toInt : Int).toNat ((by first | (clear b_6 f_18 c_19 f_32 c_33 f_43 hp_41 c_46 f_52 hp_50 c_53 f_188 c_189; omega) | omega)) _ _ _ ⟨G_184, y_202, (Int.toNat_of_nonneg ((by first | (clear b_6 hn_8 f_18 c_19 f_32 c_33 f_43 hp_41 c_46 f_52 hp_50 c_53 hn_172 f_188 c_189; omega) | omega))), ⟨(by first | (clear b_6 hn_8 f_18 c_19 f_32 c_33 f_43 hp_41 c_46 f_52 hp_50 c_53 hn_172 f_188 c_189; omega) | omega), (by first | (clear b_6 hn_8 f_18 c_19 f_32 c_33 f_43 hp_41 c_46 f_52 hp_50 c_53 hn_172 f_188 c_189; omega) | omega)⟩, ((by first | (clear hn_8 hp_41 f_52 c_53 hn_172 f_188 c_189; omega) | omega)), (hX_166.st (St_n_token_4_mk ⟨x_165, G_161, y_202, G_184, rfl, rfl, f_170, f_171, hB_G_161, ⟨r_177, G_178, hX_181, ⟨r_183, G_184, hX_187, ⟨c_189, (Or.inl ⟨c_201, ⟨y_202, ty_202, ⟨rfl, rfl⟩⟩⟩)⟩⟩⟩⟩)), hW, hB_G_184, hF, (Fr.call9 (rs := []) (fs := [(66, 9)]) (Fr.call9 (rs := []) (fs := [(66, 9)]) (Fr.call9 (rs := []) (fs := [(66, 9)]) Fr.rf hq_162 rfl rfl) hq_179 rfl rfl) hq_185 rfl rfl), hS, lv_sub hl [0, 1] rfl⟩
            · have c_201 : x_165.toInt < 8 := xI_nle rfl rfl c_201
              refine lv_aload_n hx hb dX12_token_95 rfl (lv_at hl 1 rfl) ?_
              refine lv_aload_n hx hb dX12_token_96 rfl (lv_at hl 1 rfl) ?_
              obtain ⟨y_205, ey_205⟩ : ∃ q, G_184.2.1 66 9 = q := ⟨_, rfl⟩
              refine S_getL (v := y_205) (C := RX12) (T := TX12) (N := 89) hx hb hg iX12 hown hK hW kd_66 rfl 9 (lt_b rfl) (hg (Cond.fieldLink RX12 198 "SlabWalkModel" "word" "J") m1323) (fun _ h9 => h9) rfl ey_205 dX12_token_97 ?_
              refine lv_bipush (v := 8) hx hb dX12_token_100 (by decide) ?_
              refine lv_lshl hx hb dX12_token_102 rfl ?_
              refine lv_topl (fun y_206 ey_206 => ?_)
              refine lv_aload_n hx hb dX12_token_103 rfl (lv_at hl 1 rfl) ?_
              refine lv_iload_n hx hb dX12_token_104 rfl (lv_at hl 0 rfl) ?_
              have g_207 : (G_184.1 66 4).toInt = (G_1.1 66 4).toInt := (congrArg Int32.toInt (show G_184.1 66 4 = (G_1.1 66 4) from ((hq_185.i9 66 4 rfl rfl).trans ((hq_179.i9 66 4 rfl rfl).trans ((hq_162.i9 66 4 rfl rfl).trans ((hq_49.i9 66 4 rfl rfl).trans ((gp_ne eG_45 (by decide)).trans ((congrFun (congrFun (gp_l eG_44).1 66) 4).trans ((hq_40.i9 66 4 rfl rfl).trans ((gp_ne eG_34 (by decide)).trans ((hq_29.i9 66 4 rfl rfl).trans ((hq_15.i9 66 4 rfl rfl).trans (rfl)))))))))))))
              have g_208 : (G_184.1 66 5).toInt = (G.1 66 5).toInt := (congrArg Int32.toInt (show G_184.1 66 5 = (G.1 66 5) from ((hq_185.i9 66 5 rfl rfl).trans ((hq_179.i9 66 5 rfl rfl).trans ((hq_162.i9 66 5 rfl rfl).trans ((hq_49.i9 66 5 rfl rfl).trans ((gp_ne eG_45 (by decide)).trans ((congrFun (congrFun (gp_l eG_44).1 66) 5).trans ((hq_40.i9 66 5 rfl rfl).trans ((gp_ne eG_34 (by decide)).trans ((hq_29.i9 66 5 rfl rfl).trans ((hq_15.i9 66 5 rfl rfl).trans ((hq_2.i9 66 5 rfl rfl).trans (rfl))))))))))))))
              refine S_calli (va_runV (As := [.int x_165]) (rest := [.long y_206, .ref (a 66)]) ⟨hx, hb, hml, hown, hts⟩ (n_here l D k A a z G_184 x_165 ⟨(by first | (clear b_6 hn_8 f_18 c_19 f_32 c_33 f_43 hp_41 c_46 f_52 hp_50 c_53 hn_172 f_188 c_189; omega) | omega), (by first | (clear b_6 hn_8 f_18 c_19 f_32 c_33 f_43 hp_41 c_46 f_52 hp_50 c_53 hn_172 f_188 c_189; omega) | omega)⟩) (cwV 1 hts (gd_V hgd m1606 m1608 m51 m131 m1609) rfl rfl rfl hd_X12_here ⟨Nat.le_of_ble_eq_true rfl, Nat.le_of_ble_eq_true rfl⟩) (pre_W hW hB_G_184 hK hZ hS kd_66 rfl) rfl rfl hl.1 rfl (lv_room (Nat.le_of_ble_eq_true rfl)) dX12_token_105 ⟨Nat.le_of_ble_eq_true rfl, Nat.le_of_ble_eq_true rfl⟩) hS (fun r_209 G_210 H locs hpo hW hS => ?_)
              have hX_213 : Q_here x_165 G_184 r_209 G_210 := hpo
              obtain ⟨hB_G_210, hq_211, f_214, hp_212, -⟩ := hpo
              have hF := hF.call9 hq_211 rfl rfl
              refine lv_i2l hx hb dX12_token_108 rfl ?_
              refine lv_topl (fun y_215 ey_215 => ?_)
              refine lv_lor hx hb dX12_token_109 ?_
              refine lv_topl (fun y_216 ey_216 => ?_)
              refine S_putL (C := RX12) (T := TX12) (N := 89) hx hb hg iX12 tyX12 tyX12_ok nmX12 hown hK hW hS kd_66 rfl 9 (lt_b rfl) (hg (Cond.fieldLink RX12 198 "SlabWalkModel" "word" "J") m1323) (fun _ h9 => h9) rfl (by decide +kernel) rfl dX12_token_110 (fun G_217 H locs eG_217 hW hS => ?_)
              have hB_G_217 : Bd G_217 := hB_G_210.putl eG_217
              have hF := hF.putl eG_217 (Or.inr (by decide))
              obtain ⟨y_218, ey_218⟩ : ∃ q, q = x_165 + 1 := ⟨_, rfl⟩
              have ty_218 : y_218.toInt = x_165.toInt + 1 := xI_add rfl rfl ey_218 ((by first | (clear b_6 hn_8 f_18 c_19 f_32 c_33 f_43 hp_41 c_46 f_52 hp_50 c_53 hn_172 f_188 c_189; omega) | omega)) ((by first | (clear b_6 hn_8 f_18 c_19 f_32 c_33 f_43 hp_41 c_46 f_52 hp_50 c_53 hn_172 f_188 c_189; omega) | omega))
              refine lv_iinc (v := y_218) (lv' := [(2, .int y_218), (0, .ref (a 66))]) hx hb dX12_token_113 hl (k := 0) rfl (by rw [ey_218]; rfl) (lt_b rfl) rfl (fun ls hl => ?_)
              refine lv_goto (tgt := 78) hx hb dX12_token_116 rfl ?_
              have g_219 : (G_217.1 66 4).toInt = (G_1.1 66 4).toInt := (congrArg Int32.toInt (show G_217.1 66 4 = (G_1.1 66 4) from ((congrFun (congrFun (gp_l eG_217).1 66) 4).trans ((hq_211.i9 66 4 rfl rfl).trans ((hq_185.i9 66 4 rfl rfl).trans ((hq_179.i9 66 4 rfl rfl).trans ((hq_162.i9 66 4 rfl rfl).trans ((hq_49.i9 66 4 rfl rfl).trans ((gp_ne eG_45 (by decide)).trans ((congrFun (congrFun (gp_l eG_44).1 66) 4).trans ((hq_40.i9 66 4 rfl rfl).trans ((gp_ne eG_34 (by decide)).trans ((hq_29.i9 66 4 rfl rfl).trans ((hq_15.i9 66 4 rfl rfl).trans (rfl)))))))))))))))
              have g_220 : (G_217.1 66 5).toInt = (G.1 66 5).toInt := (congrArg Int32.toInt (show G_217.1 66 5 = (G.1 66 5) from ((congrFun (congrFun (gp_l eG_217).1 66) 5).trans ((hq_211.i9 66 5 rfl rfl).trans ((hq_185.i9 66 5 rfl rfl).trans ((hq_179.i9 66 5 rfl rfl).trans ((hq_162.i9 66 5 rfl rfl).trans ((hq_49.i9 66 5 rfl rfl).trans ((gp_ne eG_45 (by decide)).trans ((congrFun (congrFun (gp_l eG_44).1 66) 5).trans ((hq_40.i9 66 5 rfl rfl).trans ((gp_ne eG_34 (by decide)).trans ((hq_29.i9 66 5 rfl rfl).trans ((hq_15.i9 66 5 rfl rfl).trans ((hq_2.i9 66 5 rfl rfl).trans (rfl))))))))))))))))
              exact ih_163 (1600 - y_218.toInt : Int).toNat ((by first | (clear b_6 f_18 c_19 f_32 c_33 f_43 hp_41 c_46 f_52 hp_50 c_53 f_188 c_189; omega) | omega)) _ _ _ ⟨G_217, y_218, (Int.toNat_of_nonneg ((by first | (clear b_6 hn_8 f_18 c_19 f_32 c_33 f_43 hp_41 c_46 f_52 hp_50 c_53 hn_172 f_188 c_189; omega) | omega))), ⟨(by first | (clear b_6 hn_8 f_18 c_19 f_32 c_33 f_43 hp_41 c_46 f_52 hp_50 c_53 hn_172 f_188 c_189; omega) | omega), (by first | (clear b_6 hn_8 f_18 c_19 f_32 c_33 f_43 hp_41 c_46 f_52 hp_50 c_53 hn_172 f_188 c_189; omega) | omega)⟩, ((by first | (clear hn_8 hp_41 f_52 c_53 hn_172 f_188 c_189; omega) | omega)), (hX_166.st (St_n_token_4_mk ⟨x_165, G_161, y_218, G_217, rfl, rfl, f_170, f_171, hB_G_161, ⟨r_177, G_178, hX_181, ⟨r_183, G_184, hX_187, ⟨c_189, (Or.inr ⟨c_201, ⟨y_205, ey_205.symm.trans (((hq_185.l9 66 9 rfl rfl).trans (hq_179.l9 66 9 rfl rfl))), ⟨y_206, ey_206, ⟨r_209, G_210, hX_213, ⟨y_215, ey_215, ⟨y_216, ey_216, ⟨y_218, ty_218, ⟨rfl, (Fr.putl (rs := []) (fs := [(66, 9)]) Fr.rf eG_217 (Or.inr (by decide))), (gpl_eq eG_217)⟩⟩⟩⟩⟩⟩⟩⟩)⟩⟩⟩⟩)), hW, hB_G_217, hF, (Fr.putl (rs := []) (fs := [(66, 9)]) (Fr.call9 (rs := []) (fs := [(66, 9)]) (Fr.call9 (rs := []) (fs := [(66, 9)]) (Fr.call9 (rs := []) (fs := [(66, 9)]) (Fr.call9 (rs := []) (fs := [(66, 9)]) Fr.rf hq_162 rfl rfl) hq_179 rfl rfl) hq_185 rfl rfl) hq_211 rfl rfl) eG_217 (Or.inr (by decide))), hS, lv_sub hl [0, 1] rfl⟩
      · have c_46 : r_38.toInt < 0 := xI_nle rfl rfl c_46
        refine lv_aload_n hx hb dX12_token_63 rfl (lv_at hl 2 rfl) ?_
        refine ic_0 hx hb dX12_token_64 ?_
        refine S_putI (ty := .int) (C := RX12) (T := TX12) (N := 89) hx hb hg iX12 tyX12 tyX12_ok nmX12 hown hK hW hS kd_66 rfl 6 (lt_b rfl) (hg (Cond.fieldLink RX12 205 "SlabWalkModel" "sort" "I") m1320) (fun _ h9 => h9) rfl (by decide +kernel) rfl rfl rfl dX12_token_65 (fun G_221 H locs eG_221 hW hS => ?_)
        have hB_G_221 : Bd G_221 := hB_G_45.put (lo := (-2147483648)) (hi := 2147483647) eG_221 rfl rfl rfl (tI_rng _).1 (tI_rng _).2 (hB_G_45.2.put eG_221 rfl)
        have hF := hF.put eG_221 (Or.inr (by decide))
        refine lv_goto (tgt := 232) hx hb dX12_token_68 rfl ?_
        refine lv_aload_n hx hb dX12_token_232 rfl (lv_at hl 2 rfl) ?_
        refine S_getI (v := 0) (C := RX12) (T := TX12) (N := 89) hx hb hg iX12 hown hK hW kd_66 rfl 6 (lt_b rfl) (hg (Cond.fieldLink RX12 205 "SlabWalkModel" "sort" "I") m1320) (fun _ h9 => h9) rfl (gp_eq eG_221) dX12_token_233 ?_
        refine ic_3 hx hb dX12_token_236 ?_
        refine lv_icmp_eq (tgt := 250) hx hb dX12_token_237 rfl (fun c_222 => ?_) (fun c_222 => ?_)
        · have c_222 : (0 : Int) = (3 : Int) := xI_eq rfl rfl c_222
          exfalso; first | (clear b_6 hn_8 f_7 b_9 b_11 g_12 f_18 hp_16 c_19 g_25 g_26 f_32 hp_30 c_33 g_36 g_37 f_43 hp_41 c_46; omega) | omega
        · have c_222 : (0 : Int) ≠ (3 : Int) := xI_ne rfl rfl c_222
          refine lv_aload_n hx hb dX12_token_240 rfl (lv_at hl 2 rfl) ?_
          refine lv_dup hx hb dX12_token_241 rfl ?_
          refine S_getI (v := (G_1.1 66 4)) (C := RX12) (T := TX12) (N := 89) hx hb hg iX12 hown hK hW kd_66 rfl 4 (lt_b rfl) (hg (Cond.fieldLink RX12 185 "SlabWalkModel" "at" "I") m1318) (fun _ h9 => h9) rfl ((gp_ne eG_221 (by decide)).trans ((gp_ne eG_45 (by decide)).trans ((congrFun (congrFun (gp_l eG_44).1 66) 4).trans ((hq_40.i9 66 4 rfl rfl).trans ((gp_ne eG_34 (by decide)).trans ((hq_29.i9 66 4 rfl rfl).trans ((hq_15.i9 66 4 rfl rfl).trans (rfl)))))))) dX12_token_242 ?_
          refine lv_iload_n hx hb dX12_token_245 rfl (lv_at hl 0 rfl) ?_
          refine lv_iadd hx hb dX12_token_246 ?_
          refine lv_topi (fun y_223 ey_223 => ?_)
          have ty_223 : y_223.toInt = (G_1.1 66 4).toInt + 0 := xI_add rfl rfl ey_223 (by omega) (by omega)
          refine S_putI (ty := .int) (C := RX12) (T := TX12) (N := 89) hx hb hg iX12 tyX12 tyX12_ok nmX12 hown hK hW hS kd_66 rfl 4 (lt_b rfl) (hg (Cond.fieldLink RX12 185 "SlabWalkModel" "at" "I") m1318) (fun _ h9 => h9) rfl (by decide +kernel) rfl rfl rfl dX12_token_247 (fun G_224 H locs eG_224 hW hS => ?_)
          have hB_G_224 : Bd G_224 := hB_G_221.put (V := y_223.toInt) (lo := 0) (hi := 1600) eG_224 rfl rfl rfl (by omega) (by omega) (hB_G_221.2.put eG_224 rfl)
          have hF := hF.put eG_224 (Or.inr (by decide))
          have g_225 : (G_224.1 66 4).toInt = y_223.toInt := (congrArg Int32.toInt (show G_224.1 66 4 = y_223 from (gp_eq eG_224)))
          have g_226 : (G_224.1 66 6).toInt = 0 := (congrArg Int32.toInt (show G_224.1 66 6 = 0 from ((gp_ne eG_224 (by decide)).trans (gp_eq eG_221)))).trans rfl
          exact W.vret hx hb hr (fun t ht _ => ⟨⟨G_224, rfl, (Q_token_mk ⟨hB_G_224, hF, ((by first | exact ⟨(by omega), (fun h9 => (by omega))⟩ | omega)), ⟨G_1, hX_5, f_7, hB_G_1, hq_2, ⟨r_13, G_14, hX_17, ⟨c_19, ⟨r_27, G_28, hX_31, ⟨c_33, ⟨G_34, hB_G_34, (Fr.put (rs := []) (fs := [(66, 7)]) Fr.rf eG_34 (Or.inr (by decide))), (gp_eq eG_34), ⟨r_38, G_39, hX_42, (Or.inr ⟨c_46, ⟨y_223, ty_223, ⟨(Fr.put (rs := []) (fs := [(66, 4), (66, 6), (66, 8), (66, 9)]) (Fr.put (rs := []) (fs := [(66, 4), (66, 6), (66, 8), (66, 9)]) (Fr.put (rs := []) (fs := [(66, 4), (66, 6), (66, 8), (66, 9)]) (Fr.putl (rs := []) (fs := [(66, 4), (66, 6), (66, 8), (66, 9)]) Fr.rf eG_44 (Or.inr (by decide))) eG_45 (Or.inr (by decide))) eG_221 (Or.inr (by decide))) eG_224 (Or.inr (by decide))), (gp_eq eG_224), ((gp_ne eG_224 (by decide)).trans (gp_eq eG_221)), ((gp_ne eG_224 (by decide)).trans ((gp_ne eG_221 (by decide)).trans (gp_eq eG_45))), ((congrFun (congrFun (congrArg (fun q => q.2.1) eG_224) 66) 9).trans ((congrFun (congrFun (congrArg (fun q => q.2.1) eG_221) 66) 9).trans ((congrFun (congrFun (congrArg (fun q => q.2.1) eG_45) 66) 9).trans (gpl_eq eG_44))))⟩⟩⟩)⟩⟩⟩⟩⟩⟩⟩⟩), wd_t ht hW⟩, hS.F ht⟩) hS.2.2 dX12_token_250
    · have c_33 : r_27.toInt = 10 := xI_eq rfl rfl c_33
      refine lv_aload_n hx hb dX12_token_20 rfl (lv_at hl 0 rfl) ?_
      refine lv_dup hx hb dX12_token_21 rfl ?_
      refine S_getI (v := (G_1.1 66 4)) (C := RX12) (T := TX12) (N := 89) hx hb hg iX12 hown hK hW kd_66 rfl 4 (lt_b rfl) (hg (Cond.fieldLink RX12 185 "SlabWalkModel" "at" "I") m1318) (fun _ h9 => h9) rfl ((hq_29.i9 66 4 rfl rfl).trans ((hq_15.i9 66 4 rfl rfl).trans (rfl))) dX12_token_22 ?_
      refine ic_1 hx hb dX12_token_25 ?_
      refine lv_iadd hx hb dX12_token_26 ?_
      refine lv_topi (fun y_227 ey_227 => ?_)
      have ty_227 : y_227.toInt = (G_1.1 66 4).toInt + 1 := xI_add rfl rfl ey_227 (by omega) (by omega)
      refine S_putI (ty := .int) (C := RX12) (T := TX12) (N := 89) hx hb hg iX12 tyX12 tyX12_ok nmX12 hown hK hW hS kd_66 rfl 4 (lt_b rfl) (hg (Cond.fieldLink RX12 185 "SlabWalkModel" "at" "I") m1318) (fun _ h9 => h9) rfl (by decide +kernel) rfl rfl rfl dX12_token_27 (fun G_228 H locs eG_228 hW hS => ?_)
      have hB_G_228 : Bd G_228 := hB_G_28.put (V := y_227.toInt) (lo := 0) (hi := 1600) eG_228 rfl rfl rfl (by omega) (by omega) (hB_G_28.2.put eG_228 rfl)
      have hF := hF.put eG_228 (Or.inr (by decide))
      refine lv_goto (tgt := 0) hx hb dX12_token_30 rfl ?_
      have g_229 : (G_228.1 66 4).toInt = y_227.toInt := (congrArg Int32.toInt (show G_228.1 66 4 = y_227 from (gp_eq eG_228)))
      have g_230 : (G_228.1 66 4).toInt = y_227.toInt := (congrArg Int32.toInt (show G_228.1 66 4 = y_227 from (gp_eq eG_228)))
      exact ih_3 (1600 - (G_228.1 66 4).toInt : Int).toNat (by omega) _ _ _ ⟨G_228, (Int.toNat_of_nonneg (by omega)), (by omega), (hX_5.st (St_n_token_1_mk ⟨G_1, G_228, rfl, rfl, f_7, hB_G_1, ⟨r_13, G_14, hX_17, (Or.inr ⟨c_19, ⟨r_27, G_28, hX_31, ⟨c_33, ⟨y_227, ty_227, ⟨(Fr.put (rs := []) (fs := [(66, 4)]) Fr.rf eG_228 (Or.inr (by decide))), (gp_eq eG_228)⟩⟩⟩⟩⟩)⟩⟩)), hW, hB_G_228, hF, (Fr.put (rs := []) (fs := [(66, 4)]) (Fr.call9 (rs := []) (fs := [(66, 4)]) (Fr.call9 (rs := []) (fs := [(66, 4)]) (Fr.call9 (rs := []) (fs := [(66, 4)]) Fr.rf hq_2 rfl rfl) hq_15 rfl rfl) hq_29 rfl rfl) eG_228 (Or.inr (by decide))), hS, lv_sub hl [0] rfl⟩
