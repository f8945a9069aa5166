theorem m39 : Cond.selects RX5 yX5_bestStep yX5_bestStep ∈ gd := gds_3 7 rfl
theorem m468 : Cond.fieldLink RX5 24 "SlabWalk$Odds" "odds" "[J" ∈ gd := gdc_2_7 0 rfl gw_fieldLink
theorem m1126 : Cond.methodLink RX5 74 yX5_bestStep ∈ gd := gdc_5_3 2 rfl gw_methodLink
theorem m1128 : Cond.instanceMethod yX5_bestStep ∈ gd := gdc_5_3 4 rfl gw_instanceMethod
theorem m1129 : Cond.code yX5_bestStep cX5_bestStep 7 (some .int) ∈ gd := gdc_5_3 5 rfl gw_code
def rbX5_bravest_0 : List (Nat × List Nat) := [(0, [10]), (1, [55, 5]), (3, [29]), (4, [54, 7]), (6, [21, 7]), (8, [43]), (9, [180, 0, 30]), (12, [163, 0, 31]), (15, [42]), (16, [180, 0, 24]), (19, [21, 7]), (21, [43]), (22, [180, 0, 36]), (25, [21, 7]), (27, [51]), (28, [153, 0, 7]), (31, [10]), (32, [167, 0, 4]), (35, [9]), (36, [80]), (37, [132, 7, 1]), (40, [167, 255, 222]), (43, [3]), (44, [54, 7])]
theorem rcX5_bravest_0 : dgo (lb cX5_bravest) 0 rbX5_bravest_0 = true := by decide +kernel
theorem dX5_bravest_0 : decode cX5_bravest 0 = .ok (.lconst 1, 1) := dk_10 (dw rcX5_bravest_0 0 rfl)
theorem dX5_bravest_1 : decode cX5_bravest 1 = .ok (.lstore 5, 2) := dk_55 (dw rcX5_bravest_0 1 rfl)
theorem dX5_bravest_3 : decode cX5_bravest 3 = .ok (.iload_n 3, 1) := dk_29 (dw rcX5_bravest_0 2 rfl)
theorem dX5_bravest_4 : decode cX5_bravest 4 = .ok (.istore 7, 2) := dk_54 (dw rcX5_bravest_0 3 rfl)
theorem dX5_bravest_6 : decode cX5_bravest 6 = .ok (.iload 7, 2) := dk_21 (dw rcX5_bravest_0 4 rfl)
theorem dX5_bravest_8 : decode cX5_bravest 8 = .ok (.aload_n 1, 1) := dk_43 (dw rcX5_bravest_0 5 rfl)
theorem dX5_bravest_9 : decode cX5_bravest 9 = .ok (.getfield 30, 3) := dk_180 (dw rcX5_bravest_0 6 rfl) rfl
theorem dX5_bravest_12 : decode cX5_bravest 12 = .ok (.if_icmp .gt 31, 3) := dk_163 (dw rcX5_bravest_0 7 rfl) rfl
theorem dX5_bravest_15 : decode cX5_bravest 15 = .ok (.aload_n 0, 1) := dk_42 (dw rcX5_bravest_0 8 rfl)
theorem dX5_bravest_16 : decode cX5_bravest 16 = .ok (.getfield 24, 3) := dk_180 (dw rcX5_bravest_0 9 rfl) rfl
theorem dX5_bravest_19 : decode cX5_bravest 19 = .ok (.iload 7, 2) := dk_21 (dw rcX5_bravest_0 10 rfl)
theorem dX5_bravest_21 : decode cX5_bravest 21 = .ok (.aload_n 1, 1) := dk_43 (dw rcX5_bravest_0 11 rfl)
theorem dX5_bravest_22 : decode cX5_bravest 22 = .ok (.getfield 36, 3) := dk_180 (dw rcX5_bravest_0 12 rfl) rfl
theorem dX5_bravest_25 : decode cX5_bravest 25 = .ok (.iload 7, 2) := dk_21 (dw rcX5_bravest_0 13 rfl)
theorem dX5_bravest_27 : decode cX5_bravest 27 = .ok (.baload, 1) := dk_51 (dw rcX5_bravest_0 14 rfl)
theorem dX5_bravest_28 : decode cX5_bravest 28 = .ok (.ifCond .eq 7, 3) := dk_153 (dw rcX5_bravest_0 15 rfl) rfl
theorem dX5_bravest_31 : decode cX5_bravest 31 = .ok (.lconst 1, 1) := dk_10 (dw rcX5_bravest_0 16 rfl)
theorem dX5_bravest_32 : decode cX5_bravest 32 = .ok (.goto 4, 3) := dk_167 (dw rcX5_bravest_0 17 rfl) rfl
theorem dX5_bravest_35 : decode cX5_bravest 35 = .ok (.lconst 0, 1) := dk_9 (dw rcX5_bravest_0 18 rfl)
theorem dX5_bravest_36 : decode cX5_bravest 36 = .ok (.lastore, 1) := dk_80 (dw rcX5_bravest_0 19 rfl)
theorem dX5_bravest_37 : decode cX5_bravest 37 = .ok (.iinc 7 1, 3) := dk_132 (dw rcX5_bravest_0 20 rfl) rfl
theorem dX5_bravest_40 : decode cX5_bravest 40 = .ok (.goto (-34), 3) := dk_167 (dw rcX5_bravest_0 21 rfl) rfl
theorem dX5_bravest_43 : decode cX5_bravest 43 = .ok (.iconst 0, 1) := dk_3 (dw rcX5_bravest_0 22 rfl)
theorem dX5_bravest_44 : decode cX5_bravest 44 = .ok (.istore 7, 2) := dk_54 (dw rcX5_bravest_0 23 rfl)
def rbX5_bravest_46 : List (Nat × List Nat) := [(46, [21, 7]), (48, [21, 4]), (50, [162, 0, 184]), (53, [43]), (54, [180, 0, 30]), (57, [4]), (58, [96]), (59, [54, 8]), (61, [21, 8]), (63, [43]), (64, [180, 0, 30]), (67, [6]), (68, [96]), (69, [163, 0, 18]), (72, [42]), (73, [180, 0, 24]), (76, [21, 8]), (78, [22, 5]), (80, [80]), (81, [132, 8, 1]), (84, [167, 255, 233]), (87, [22, 5]), (89, [44]), (90, [3])]
theorem rcX5_bravest_46 : dgo (lb cX5_bravest) 0 rbX5_bravest_46 = true := by decide +kernel
theorem dX5_bravest_46 : decode cX5_bravest 46 = .ok (.iload 7, 2) := dk_21 (dw rcX5_bravest_46 0 rfl)
theorem dX5_bravest_48 : decode cX5_bravest 48 = .ok (.iload 4, 2) := dk_21 (dw rcX5_bravest_46 1 rfl)
theorem dX5_bravest_50 : decode cX5_bravest 50 = .ok (.if_icmp .ge 184, 3) := dk_162 (dw rcX5_bravest_46 2 rfl) rfl
theorem dX5_bravest_53 : decode cX5_bravest 53 = .ok (.aload_n 1, 1) := dk_43 (dw rcX5_bravest_46 3 rfl)
theorem dX5_bravest_54 : decode cX5_bravest 54 = .ok (.getfield 30, 3) := dk_180 (dw rcX5_bravest_46 4 rfl) rfl
theorem dX5_bravest_57 : decode cX5_bravest 57 = .ok (.iconst 1, 1) := dk_4 (dw rcX5_bravest_46 5 rfl)
theorem dX5_bravest_58 : decode cX5_bravest 58 = .ok (.iadd, 1) := dk_96 (dw rcX5_bravest_46 6 rfl)
theorem dX5_bravest_59 : decode cX5_bravest 59 = .ok (.istore 8, 2) := dk_54 (dw rcX5_bravest_46 7 rfl)
theorem dX5_bravest_61 : decode cX5_bravest 61 = .ok (.iload 8, 2) := dk_21 (dw rcX5_bravest_46 8 rfl)
theorem dX5_bravest_63 : decode cX5_bravest 63 = .ok (.aload_n 1, 1) := dk_43 (dw rcX5_bravest_46 9 rfl)
theorem dX5_bravest_64 : decode cX5_bravest 64 = .ok (.getfield 30, 3) := dk_180 (dw rcX5_bravest_46 10 rfl) rfl
theorem dX5_bravest_67 : decode cX5_bravest 67 = .ok (.iconst 3, 1) := dk_6 (dw rcX5_bravest_46 11 rfl)
theorem dX5_bravest_68 : decode cX5_bravest 68 = .ok (.iadd, 1) := dk_96 (dw rcX5_bravest_46 12 rfl)
theorem dX5_bravest_69 : decode cX5_bravest 69 = .ok (.if_icmp .gt 18, 3) := dk_163 (dw rcX5_bravest_46 13 rfl) rfl
theorem dX5_bravest_72 : decode cX5_bravest 72 = .ok (.aload_n 0, 1) := dk_42 (dw rcX5_bravest_46 14 rfl)
theorem dX5_bravest_73 : decode cX5_bravest 73 = .ok (.getfield 24, 3) := dk_180 (dw rcX5_bravest_46 15 rfl) rfl
theorem dX5_bravest_76 : decode cX5_bravest 76 = .ok (.iload 8, 2) := dk_21 (dw rcX5_bravest_46 16 rfl)
theorem dX5_bravest_78 : decode cX5_bravest 78 = .ok (.lload 5, 2) := dk_22 (dw rcX5_bravest_46 17 rfl)
theorem dX5_bravest_80 : decode cX5_bravest 80 = .ok (.lastore, 1) := dk_80 (dw rcX5_bravest_46 18 rfl)
theorem dX5_bravest_81 : decode cX5_bravest 81 = .ok (.iinc 8 1, 3) := dk_132 (dw rcX5_bravest_46 19 rfl) rfl
theorem dX5_bravest_84 : decode cX5_bravest 84 = .ok (.goto (-23), 3) := dk_167 (dw rcX5_bravest_46 20 rfl) rfl
theorem dX5_bravest_87 : decode cX5_bravest 87 = .ok (.lload 5, 2) := dk_22 (dw rcX5_bravest_46 21 rfl)
theorem dX5_bravest_89 : decode cX5_bravest 89 = .ok (.aload_n 2, 1) := dk_44 (dw rcX5_bravest_46 22 rfl)
theorem dX5_bravest_90 : decode cX5_bravest 90 = .ok (.iconst 0, 1) := dk_3 (dw rcX5_bravest_46 23 rfl)
def rbX5_bravest_91 : List (Nat × List Nat) := [(91, [46]), (92, [44]), (93, [4]), (94, [46]), (95, [96]), (96, [44]), (97, [5]), (98, [46]), (99, [96]), (100, [133]), (101, [105]), (102, [55, 5]), (104, [29]), (105, [4]), (106, [96]), (107, [54, 8]), (109, [21, 8]), (111, [43]), (112, [180, 0, 30]), (115, [5]), (116, [96]), (117, [163, 0, 58]), (120, [42]), (121, [180, 0, 27])]
theorem rcX5_bravest_91 : dgo (lb cX5_bravest) 0 rbX5_bravest_91 = true := by decide +kernel
theorem dX5_bravest_91 : decode cX5_bravest 91 = .ok (.iaload, 1) := dk_46 (dw rcX5_bravest_91 0 rfl)
theorem dX5_bravest_92 : decode cX5_bravest 92 = .ok (.aload_n 2, 1) := dk_44 (dw rcX5_bravest_91 1 rfl)
theorem dX5_bravest_93 : decode cX5_bravest 93 = .ok (.iconst 1, 1) := dk_4 (dw rcX5_bravest_91 2 rfl)
theorem dX5_bravest_94 : decode cX5_bravest 94 = .ok (.iaload, 1) := dk_46 (dw rcX5_bravest_91 3 rfl)
theorem dX5_bravest_95 : decode cX5_bravest 95 = .ok (.iadd, 1) := dk_96 (dw rcX5_bravest_91 4 rfl)
theorem dX5_bravest_96 : decode cX5_bravest 96 = .ok (.aload_n 2, 1) := dk_44 (dw rcX5_bravest_91 5 rfl)
theorem dX5_bravest_97 : decode cX5_bravest 97 = .ok (.iconst 2, 1) := dk_5 (dw rcX5_bravest_91 6 rfl)
theorem dX5_bravest_98 : decode cX5_bravest 98 = .ok (.iaload, 1) := dk_46 (dw rcX5_bravest_91 7 rfl)
theorem dX5_bravest_99 : decode cX5_bravest 99 = .ok (.iadd, 1) := dk_96 (dw rcX5_bravest_91 8 rfl)
theorem dX5_bravest_100 : decode cX5_bravest 100 = .ok (.i2l, 1) := dk_133 (dw rcX5_bravest_91 9 rfl)
theorem dX5_bravest_101 : decode cX5_bravest 101 = .ok (.lmul, 1) := dk_105 (dw rcX5_bravest_91 10 rfl)
theorem dX5_bravest_102 : decode cX5_bravest 102 = .ok (.lstore 5, 2) := dk_55 (dw rcX5_bravest_91 11 rfl)
theorem dX5_bravest_104 : decode cX5_bravest 104 = .ok (.iload_n 3, 1) := dk_29 (dw rcX5_bravest_91 12 rfl)
theorem dX5_bravest_105 : decode cX5_bravest 105 = .ok (.iconst 1, 1) := dk_4 (dw rcX5_bravest_91 13 rfl)
theorem dX5_bravest_106 : decode cX5_bravest 106 = .ok (.iadd, 1) := dk_96 (dw rcX5_bravest_91 14 rfl)
theorem dX5_bravest_107 : decode cX5_bravest 107 = .ok (.istore 8, 2) := dk_54 (dw rcX5_bravest_91 15 rfl)
theorem dX5_bravest_109 : decode cX5_bravest 109 = .ok (.iload 8, 2) := dk_21 (dw rcX5_bravest_91 16 rfl)
theorem dX5_bravest_111 : decode cX5_bravest 111 = .ok (.aload_n 1, 1) := dk_43 (dw rcX5_bravest_91 17 rfl)
theorem dX5_bravest_112 : decode cX5_bravest 112 = .ok (.getfield 30, 3) := dk_180 (dw rcX5_bravest_91 18 rfl) rfl
theorem dX5_bravest_115 : decode cX5_bravest 115 = .ok (.iconst 2, 1) := dk_5 (dw rcX5_bravest_91 19 rfl)
theorem dX5_bravest_116 : decode cX5_bravest 116 = .ok (.iadd, 1) := dk_96 (dw rcX5_bravest_91 20 rfl)
theorem dX5_bravest_117 : decode cX5_bravest 117 = .ok (.if_icmp .gt 58, 3) := dk_163 (dw rcX5_bravest_91 21 rfl) rfl
theorem dX5_bravest_120 : decode cX5_bravest 120 = .ok (.aload_n 0, 1) := dk_42 (dw rcX5_bravest_91 22 rfl)
theorem dX5_bravest_121 : decode cX5_bravest 121 = .ok (.getfield 27, 3) := dk_180 (dw rcX5_bravest_91 23 rfl) rfl
def rbX5_bravest_124 : List (Nat × List Nat) := [(124, [21, 8]), (126, [44]), (127, [3]), (128, [46]), (129, [133]), (130, [42]), (131, [180, 0, 24]), (134, [21, 8]), (136, [4]), (137, [100]), (138, [47]), (139, [105]), (140, [44]), (141, [4]), (142, [46]), (143, [133]), (144, [42]), (145, [180, 0, 24]), (148, [21, 8]), (150, [47]), (151, [105]), (152, [97]), (153, [44]), (154, [5])]
theorem rcX5_bravest_124 : dgo (lb cX5_bravest) 0 rbX5_bravest_124 = true := by decide +kernel
theorem dX5_bravest_124 : decode cX5_bravest 124 = .ok (.iload 8, 2) := dk_21 (dw rcX5_bravest_124 0 rfl)
theorem dX5_bravest_126 : decode cX5_bravest 126 = .ok (.aload_n 2, 1) := dk_44 (dw rcX5_bravest_124 1 rfl)
theorem dX5_bravest_127 : decode cX5_bravest 127 = .ok (.iconst 0, 1) := dk_3 (dw rcX5_bravest_124 2 rfl)
theorem dX5_bravest_128 : decode cX5_bravest 128 = .ok (.iaload, 1) := dk_46 (dw rcX5_bravest_124 3 rfl)
theorem dX5_bravest_129 : decode cX5_bravest 129 = .ok (.i2l, 1) := dk_133 (dw rcX5_bravest_124 4 rfl)
theorem dX5_bravest_130 : decode cX5_bravest 130 = .ok (.aload_n 0, 1) := dk_42 (dw rcX5_bravest_124 5 rfl)
theorem dX5_bravest_131 : decode cX5_bravest 131 = .ok (.getfield 24, 3) := dk_180 (dw rcX5_bravest_124 6 rfl) rfl
theorem dX5_bravest_134 : decode cX5_bravest 134 = .ok (.iload 8, 2) := dk_21 (dw rcX5_bravest_124 7 rfl)
theorem dX5_bravest_136 : decode cX5_bravest 136 = .ok (.iconst 1, 1) := dk_4 (dw rcX5_bravest_124 8 rfl)
theorem dX5_bravest_137 : decode cX5_bravest 137 = .ok (.isub, 1) := dk_100 (dw rcX5_bravest_124 9 rfl)
theorem dX5_bravest_138 : decode cX5_bravest 138 = .ok (.laload, 1) := dk_47 (dw rcX5_bravest_124 10 rfl)
theorem dX5_bravest_139 : decode cX5_bravest 139 = .ok (.lmul, 1) := dk_105 (dw rcX5_bravest_124 11 rfl)
theorem dX5_bravest_140 : decode cX5_bravest 140 = .ok (.aload_n 2, 1) := dk_44 (dw rcX5_bravest_124 12 rfl)
theorem dX5_bravest_141 : decode cX5_bravest 141 = .ok (.iconst 1, 1) := dk_4 (dw rcX5_bravest_124 13 rfl)
theorem dX5_bravest_142 : decode cX5_bravest 142 = .ok (.iaload, 1) := dk_46 (dw rcX5_bravest_124 14 rfl)
theorem dX5_bravest_143 : decode cX5_bravest 143 = .ok (.i2l, 1) := dk_133 (dw rcX5_bravest_124 15 rfl)
theorem dX5_bravest_144 : decode cX5_bravest 144 = .ok (.aload_n 0, 1) := dk_42 (dw rcX5_bravest_124 16 rfl)
theorem dX5_bravest_145 : decode cX5_bravest 145 = .ok (.getfield 24, 3) := dk_180 (dw rcX5_bravest_124 17 rfl) rfl
theorem dX5_bravest_148 : decode cX5_bravest 148 = .ok (.iload 8, 2) := dk_21 (dw rcX5_bravest_124 18 rfl)
theorem dX5_bravest_150 : decode cX5_bravest 150 = .ok (.laload, 1) := dk_47 (dw rcX5_bravest_124 19 rfl)
theorem dX5_bravest_151 : decode cX5_bravest 151 = .ok (.lmul, 1) := dk_105 (dw rcX5_bravest_124 20 rfl)
theorem dX5_bravest_152 : decode cX5_bravest 152 = .ok (.ladd, 1) := dk_97 (dw rcX5_bravest_124 21 rfl)
theorem dX5_bravest_153 : decode cX5_bravest 153 = .ok (.aload_n 2, 1) := dk_44 (dw rcX5_bravest_124 22 rfl)
theorem dX5_bravest_154 : decode cX5_bravest 154 = .ok (.iconst 2, 1) := dk_5 (dw rcX5_bravest_124 23 rfl)
def rbX5_bravest_155 : List (Nat × List Nat) := [(155, [46]), (156, [133]), (157, [42]), (158, [180, 0, 24]), (161, [21, 8]), (163, [4]), (164, [96]), (165, [47]), (166, [105]), (167, [97]), (168, [80]), (169, [132, 8, 1]), (172, [167, 255, 193]), (175, [29]), (176, [54, 8]), (178, [21, 8]), (180, [43]), (181, [180, 0, 30]), (184, [163, 0, 44]), (187, [42]), (188, [180, 0, 24]), (191, [21, 8]), (193, [43]), (194, [180, 0, 36])]
theorem rcX5_bravest_155 : dgo (lb cX5_bravest) 0 rbX5_bravest_155 = true := by decide +kernel
theorem dX5_bravest_155 : decode cX5_bravest 155 = .ok (.iaload, 1) := dk_46 (dw rcX5_bravest_155 0 rfl)
theorem dX5_bravest_156 : decode cX5_bravest 156 = .ok (.i2l, 1) := dk_133 (dw rcX5_bravest_155 1 rfl)
theorem dX5_bravest_157 : decode cX5_bravest 157 = .ok (.aload_n 0, 1) := dk_42 (dw rcX5_bravest_155 2 rfl)
theorem dX5_bravest_158 : decode cX5_bravest 158 = .ok (.getfield 24, 3) := dk_180 (dw rcX5_bravest_155 3 rfl) rfl
theorem dX5_bravest_161 : decode cX5_bravest 161 = .ok (.iload 8, 2) := dk_21 (dw rcX5_bravest_155 4 rfl)
theorem dX5_bravest_163 : decode cX5_bravest 163 = .ok (.iconst 1, 1) := dk_4 (dw rcX5_bravest_155 5 rfl)
theorem dX5_bravest_164 : decode cX5_bravest 164 = .ok (.iadd, 1) := dk_96 (dw rcX5_bravest_155 6 rfl)
theorem dX5_bravest_165 : decode cX5_bravest 165 = .ok (.laload, 1) := dk_47 (dw rcX5_bravest_155 7 rfl)
theorem dX5_bravest_166 : decode cX5_bravest 166 = .ok (.lmul, 1) := dk_105 (dw rcX5_bravest_155 8 rfl)
theorem dX5_bravest_167 : decode cX5_bravest 167 = .ok (.ladd, 1) := dk_97 (dw rcX5_bravest_155 9 rfl)
theorem dX5_bravest_168 : decode cX5_bravest 168 = .ok (.lastore, 1) := dk_80 (dw rcX5_bravest_155 10 rfl)
theorem dX5_bravest_169 : decode cX5_bravest 169 = .ok (.iinc 8 1, 3) := dk_132 (dw rcX5_bravest_155 11 rfl) rfl
theorem dX5_bravest_172 : decode cX5_bravest 172 = .ok (.goto (-63), 3) := dk_167 (dw rcX5_bravest_155 12 rfl) rfl
theorem dX5_bravest_175 : decode cX5_bravest 175 = .ok (.iload_n 3, 1) := dk_29 (dw rcX5_bravest_155 13 rfl)
theorem dX5_bravest_176 : decode cX5_bravest 176 = .ok (.istore 8, 2) := dk_54 (dw rcX5_bravest_155 14 rfl)
theorem dX5_bravest_178 : decode cX5_bravest 178 = .ok (.iload 8, 2) := dk_21 (dw rcX5_bravest_155 15 rfl)
theorem dX5_bravest_180 : decode cX5_bravest 180 = .ok (.aload_n 1, 1) := dk_43 (dw rcX5_bravest_155 16 rfl)
theorem dX5_bravest_181 : decode cX5_bravest 181 = .ok (.getfield 30, 3) := dk_180 (dw rcX5_bravest_155 17 rfl) rfl
theorem dX5_bravest_184 : decode cX5_bravest 184 = .ok (.if_icmp .gt 44, 3) := dk_163 (dw rcX5_bravest_155 18 rfl) rfl
theorem dX5_bravest_187 : decode cX5_bravest 187 = .ok (.aload_n 0, 1) := dk_42 (dw rcX5_bravest_155 19 rfl)
theorem dX5_bravest_188 : decode cX5_bravest 188 = .ok (.getfield 24, 3) := dk_180 (dw rcX5_bravest_155 20 rfl) rfl
theorem dX5_bravest_191 : decode cX5_bravest 191 = .ok (.iload 8, 2) := dk_21 (dw rcX5_bravest_155 21 rfl)
theorem dX5_bravest_193 : decode cX5_bravest 193 = .ok (.aload_n 1, 1) := dk_43 (dw rcX5_bravest_155 22 rfl)
theorem dX5_bravest_194 : decode cX5_bravest 194 = .ok (.getfield 36, 3) := dk_180 (dw rcX5_bravest_155 23 rfl) rfl
def rbX5_bravest_197 : List (Nat × List Nat) := [(197, [21, 8]), (199, [51]), (200, [153, 0, 20]), (203, [42]), (204, [43]), (205, [21, 8]), (207, [42]), (208, [43]), (209, [21, 8]), (211, [182, 0, 74]), (214, [182, 0, 78]), (217, [167, 0, 4]), (220, [9]), (221, [80]), (222, [132, 8, 1]), (225, [167, 255, 209]), (228, [132, 7, 1]), (231, [167, 255, 71]), (234, [42]), (235, [43]), (236, [180, 0, 36]), (239, [29]), (240, [51]), (241, [153, 0, 12])]
theorem rcX5_bravest_197 : dgo (lb cX5_bravest) 0 rbX5_bravest_197 = true := by decide +kernel
theorem dX5_bravest_197 : decode cX5_bravest 197 = .ok (.iload 8, 2) := dk_21 (dw rcX5_bravest_197 0 rfl)
theorem dX5_bravest_199 : decode cX5_bravest 199 = .ok (.baload, 1) := dk_51 (dw rcX5_bravest_197 1 rfl)
theorem dX5_bravest_200 : decode cX5_bravest 200 = .ok (.ifCond .eq 20, 3) := dk_153 (dw rcX5_bravest_197 2 rfl) rfl
theorem dX5_bravest_203 : decode cX5_bravest 203 = .ok (.aload_n 0, 1) := dk_42 (dw rcX5_bravest_197 3 rfl)
theorem dX5_bravest_204 : decode cX5_bravest 204 = .ok (.aload_n 1, 1) := dk_43 (dw rcX5_bravest_197 4 rfl)
theorem dX5_bravest_205 : decode cX5_bravest 205 = .ok (.iload 8, 2) := dk_21 (dw rcX5_bravest_197 5 rfl)
theorem dX5_bravest_207 : decode cX5_bravest 207 = .ok (.aload_n 0, 1) := dk_42 (dw rcX5_bravest_197 6 rfl)
theorem dX5_bravest_208 : decode cX5_bravest 208 = .ok (.aload_n 1, 1) := dk_43 (dw rcX5_bravest_197 7 rfl)
theorem dX5_bravest_209 : decode cX5_bravest 209 = .ok (.iload 8, 2) := dk_21 (dw rcX5_bravest_197 8 rfl)
theorem dX5_bravest_211 : decode cX5_bravest 211 = .ok (.invokevirtual 74, 3) := dk_182 (dw rcX5_bravest_197 9 rfl) rfl
theorem dX5_bravest_214 : decode cX5_bravest 214 = .ok (.invokevirtual 78, 3) := dk_182 (dw rcX5_bravest_197 10 rfl) rfl
theorem dX5_bravest_217 : decode cX5_bravest 217 = .ok (.goto 4, 3) := dk_167 (dw rcX5_bravest_197 11 rfl) rfl
theorem dX5_bravest_220 : decode cX5_bravest 220 = .ok (.lconst 0, 1) := dk_9 (dw rcX5_bravest_197 12 rfl)
theorem dX5_bravest_221 : decode cX5_bravest 221 = .ok (.lastore, 1) := dk_80 (dw rcX5_bravest_197 13 rfl)
theorem dX5_bravest_222 : decode cX5_bravest 222 = .ok (.iinc 8 1, 3) := dk_132 (dw rcX5_bravest_197 14 rfl) rfl
theorem dX5_bravest_225 : decode cX5_bravest 225 = .ok (.goto (-47), 3) := dk_167 (dw rcX5_bravest_197 15 rfl) rfl
theorem dX5_bravest_228 : decode cX5_bravest 228 = .ok (.iinc 7 1, 3) := dk_132 (dw rcX5_bravest_197 16 rfl) rfl
theorem dX5_bravest_231 : decode cX5_bravest 231 = .ok (.goto (-185), 3) := dk_167 (dw rcX5_bravest_197 17 rfl) rfl
theorem dX5_bravest_234 : decode cX5_bravest 234 = .ok (.aload_n 0, 1) := dk_42 (dw rcX5_bravest_197 18 rfl)
theorem dX5_bravest_235 : decode cX5_bravest 235 = .ok (.aload_n 1, 1) := dk_43 (dw rcX5_bravest_197 19 rfl)
theorem dX5_bravest_236 : decode cX5_bravest 236 = .ok (.getfield 36, 3) := dk_180 (dw rcX5_bravest_197 20 rfl) rfl
theorem dX5_bravest_239 : decode cX5_bravest 239 = .ok (.iload_n 3, 1) := dk_29 (dw rcX5_bravest_197 21 rfl)
theorem dX5_bravest_240 : decode cX5_bravest 240 = .ok (.baload, 1) := dk_51 (dw rcX5_bravest_197 22 rfl)
theorem dX5_bravest_241 : decode cX5_bravest 241 = .ok (.ifCond .eq 12, 3) := dk_153 (dw rcX5_bravest_197 23 rfl) rfl
def rbX5_bravest_244 : List (Nat × List Nat) := [(244, [42]), (245, [43]), (246, [29]), (247, [182, 0, 74]), (250, [167, 0, 7]), (253, [43]), (254, [180, 0, 58]), (257, [181, 0, 82]), (260, [42]), (261, [180, 0, 24]), (264, [29]), (265, [47]), (266, [173])]
theorem rcX5_bravest_244 : dgo (lb cX5_bravest) 0 rbX5_bravest_244 = true := by decide +kernel
theorem dX5_bravest_244 : decode cX5_bravest 244 = .ok (.aload_n 0, 1) := dk_42 (dw rcX5_bravest_244 0 rfl)
theorem dX5_bravest_245 : decode cX5_bravest 245 = .ok (.aload_n 1, 1) := dk_43 (dw rcX5_bravest_244 1 rfl)
theorem dX5_bravest_246 : decode cX5_bravest 246 = .ok (.iload_n 3, 1) := dk_29 (dw rcX5_bravest_244 2 rfl)
theorem dX5_bravest_247 : decode cX5_bravest 247 = .ok (.invokevirtual 74, 3) := dk_182 (dw rcX5_bravest_244 3 rfl) rfl
theorem dX5_bravest_250 : decode cX5_bravest 250 = .ok (.goto 7, 3) := dk_167 (dw rcX5_bravest_244 4 rfl) rfl
theorem dX5_bravest_253 : decode cX5_bravest 253 = .ok (.aload_n 1, 1) := dk_43 (dw rcX5_bravest_244 5 rfl)
theorem dX5_bravest_254 : decode cX5_bravest 254 = .ok (.getfield 58, 3) := dk_180 (dw rcX5_bravest_244 6 rfl) rfl
theorem dX5_bravest_257 : decode cX5_bravest 257 = .ok (.putfield 82, 3) := dk_181 (dw rcX5_bravest_244 7 rfl) rfl
theorem dX5_bravest_260 : decode cX5_bravest 260 = .ok (.aload_n 0, 1) := dk_42 (dw rcX5_bravest_244 8 rfl)
theorem dX5_bravest_261 : decode cX5_bravest 261 = .ok (.getfield 24, 3) := dk_180 (dw rcX5_bravest_244 9 rfl) rfl
theorem dX5_bravest_264 : decode cX5_bravest 264 = .ok (.iload_n 3, 1) := dk_29 (dw rcX5_bravest_244 10 rfl)
theorem dX5_bravest_265 : decode cX5_bravest 265 = .ok (.laload, 1) := dk_47 (dw rcX5_bravest_244 11 rfl)
theorem dX5_bravest_266 : decode cX5_bravest 266 = .ok (.lreturn, 1) := dk_173 (dw rcX5_bravest_244 12 rfl)
set_option maxHeartbeats 4000000 in
set_option maxRecDepth 100000 in
theorem k_oBrave_1 (l : Launch) (D : va_G) (k : KT) (A : Nat → Prop) (a : Nat → Nat) (z : SK) (G : GS) (p0 : Int32) (p1 : Int32) (ha_p0 : 0 ≤ p0.toInt ∧ p0.toInt ≤ 399) (ha_p1 : 1 ≤ p1.toInt ∧ p1.toInt ≤ 8) (hci : (G.1 7 6).toInt ≤ 399 ∧ (G.1 7 3).toInt ≤ (G.1 7 4).toInt ∧ ((G.1 7 7).toInt ≤ 0 ∨ (G.1 7 7).toInt + (G.1 7 4).toInt ≤ (G.1 7 6).toInt + 1)) : Met l yX5_bravest (WS yX5_bravest cX5_bravest 9 (some .long)) ({ frames := 3, cells := 0, slots := 0, locals := 63 }) (va_Pc [.ref (a 29), .ref (a 7), .ref (a 16), .int p0, .int p1] (cW D k A a z G)) (va_Ql (fun (r : Int64) (G1 : GS) => P_oBrave_1 p0 p1 G r G1) (fun (G1 : GS) t => Wd D k A a G1 t.heap) A) 0 0 A := by
  refine Met.ofW (cc := cX5_bravest) (maxL := 9) (ret := (some .long)) (by decide) rfl ?_
  intro p e s m args below meth c s₁ B hml hv
  obtain ⟨rfl, hW, hB_G, hK, hZ⟩ := hv
  have hx := B.exec
  have hb := B.bytes
  have hr := B.returns
  have hts := atoms_spec (ws := WS yX5_bravest cX5_bravest 9 (some .long)) B.pre
  have hgd : ∀ w ∈ gd, w ∈ WS yX5_bravest cX5_bravest 9 (some .long) := fun w h => List.mem_cons_of_mem _ h
  have hg : ∀ w ∈ gd, w.before _ s = true := fun w h => hts w (hgd w h)
  have hown : s.vm.findClass RX5 = some m.cls := findClass_of_methodNamed B.named
  have hS : va_S A s.heap s.heap [] := va_S.rf
  have hF : Fr [56, 57] [(29, 6)] G G := Fr.rf
  have hl := lv_entry ([.ref (a 29), .ref (a 7), .ref (a 16), .int p0, .int p1]) (n := 9) (Nat.le_of_ble_eq_true rfl)
  rw [lg_entry_eq]
  generalize (lg_sl ([.ref (a 29), .ref (a 7), .ref (a 16), .int p0, .int p1]) ++ List.replicate (9 - (lg_sl ([.ref (a 29), .ref (a 7), .ref (a 16), .int p0, .int p1])).length) Slot.unset).toArray = ls at hl ⊢
  have hl : lv_has ls 9 [(0, .ref (a 29)), (1, .ref (a 7)), (2, .ref (a 16)), (3, .int p0), (4, .int p1)] := hl
  have b_1 : (-1) ≤ (G.1 7 6).toInt ∧ (G.1 7 6).toInt ≤ 400 := bd_7_6 hB_G
  refine lv_lconst (v := 1) hx hb dX5_bravest_0 (by decide) ?_
  refine lv_lstore (lv' := [(5, .long 1), (0, .ref (a 29)), (1, .ref (a 7)), (2, .ref (a 16)), (3, .int p0), (4, .int p1)]) hx hb dX5_bravest_1 hl (lt_b rfl) rfl (fun ls hl => ?_)
  refine lv_iload_n hx hb dX5_bravest_3 rfl (lv_at hl 4 rfl) ?_
  refine lv_istore (lv' := [(7, .int p0), (5, .long 1), (0, .ref (a 29)), (1, .ref (a 7)), (2, .ref (a 16)), (3, .int p0), (4, .int p1)]) hx hb dX5_bravest_4 hl (lt_b rfl) rfl (fun ls hl => ?_)
  refine loop_N (Inv := fun n H locs ls => ∃ (G_2 : GS) (x_6 : Int32), (n : Int) = 400 - x_6.toInt ∧ (0 ≤ x_6.toInt ∧ x_6.toInt ≤ 400) ∧ Rc (St_k_oBrave_1_1 G) (p0, G) (x_6, G_2) ∧ Wd D k A a G_2 H ∧ Bd G_2 ∧ Fr [56, 57] [(29, 6)] G G_2 ∧ Fr [56] [] G G_2 ∧ va_S A s.heap H locs ∧ lv_has ls 9 [(7, .int x_6), (5, .long 1), (0, .ref (a 29)), (1, .ref (a 7)), (2, .ref (a 16)), (3, .int p0), (4, .int p1)]) (fun n_5 H locs ls ih_4 hI => ?_) (400 - p0.toInt : Int).toNat ⟨G, p0, (Int.toNat_of_nonneg ((by first | (clear ha_p1 hci b_1; omega) | omega))), ⟨(by first | (clear ha_p1 hci b_1; omega) | omega), (by first | (clear ha_p1 hci b_1; omega) | omega)⟩, Rc.rf, hW, hB_G, hF, Fr.rf, hS, lv_sub hl [0, 1, 2, 3, 4, 5, 6] rfl⟩
  obtain ⟨G_2, x_6, hn_9, f_8, hX_7, hW, hB_G_2, hF, hq_3, hS, hl⟩ := hI
  refine lv_iload hx hb dX5_bravest_6 (lv_at hl 0 rfl) ?_
  refine lv_aload_n hx hb dX5_bravest_8 rfl (lv_at hl 3 rfl) ?_
  refine S_getI (v := (G.1 7 6)) (C := RX0) (T := TX0) (N := 8) hx hb hg iX0 hown hK hW kd_7 rfl 6 (lt_b rfl) (hg (Cond.fieldLink RX5 30 "SlabWalk$Course" "last" "I") m389) (fun _ h9 => h9) rfl ((hq_3.i9 7 6 rfl rfl).trans (rfl)) dX5_bravest_9 ?_
  refine lv_icmp_gt (tgt := 43) hx hb dX5_bravest_12 rfl (fun c_10 => ?_) (fun c_10 => ?_)
  · have c_10 : (G.1 7 6).toInt < x_6.toInt := xI_lt rfl rfl c_10
    refine ic_0 hx hb dX5_bravest_43 ?_
    refine lv_istore (lv' := [(7, .int 0), (5, .long 1), (0, .ref (a 29)), (1, .ref (a 7)), (2, .ref (a 16)), (3, .int p0), (4, .int p1)]) hx hb dX5_bravest_44 hl (lt_b rfl) rfl (fun ls hl => ?_)
    have qc_18 : (0 : Int32).toInt = 0 := rfl
    refine loop_N (Inv := fun n H locs ls => ∃ (G_11 : GS) (x_15 : Int32) (x_16 : Int64), (n : Int) = 8 - x_15.toInt ∧ (0 ≤ x_15.toInt ∧ x_15.toInt ≤ 8) ∧ Rc (St_k_oBrave_1_2 p0 p1 G) (0, 1, G_2) (x_15, x_16, G_11) ∧ Wd D k A a G_11 H ∧ Bd G_11 ∧ Fr [56, 57] [(29, 6)] G G_11 ∧ Fr [56, 57] [] G_2 G_11 ∧ va_S A s.heap H locs ∧ lv_has ls 9 [(7, .int x_15), (5, .long x_16), (0, .ref (a 29)), (1, .ref (a 7)), (2, .ref (a 16)), (3, .int p0), (4, .int p1)]) (fun n_14 H locs ls ih_13 hI => ?_) (8 - 0 : Int).toNat ⟨G_2, 0, 1, (Int.toNat_of_nonneg ((by first | (clear ha_p0 ha_p1 hci b_1 hn_9 f_8 c_10; omega) | omega))), ⟨(by first | (clear ha_p0 ha_p1 hci b_1 hn_9 f_8 c_10; omega) | omega), (by first | (clear ha_p0 ha_p1 hci b_1 hn_9 f_8 c_10; omega) | omega)⟩, Rc.rf, hW, hB_G_2, hF, Fr.rf, hS, lv_sub hl [0, 1, 2, 3, 4, 5, 6] rfl⟩
    obtain ⟨G_11, x_15, x_16, hn_20, f_19, hX_17, hW, hB_G_11, hF, hq_12, hS, hl⟩ := hI
    refine lv_iload hx hb dX5_bravest_46 (lv_at hl 0 rfl) ?_
    refine lv_iload hx hb dX5_bravest_48 (lv_at hl 6 rfl) ?_
    refine lv_icmp_ge (tgt := 234) hx hb dX5_bravest_50 rfl (fun c_21 => ?_) (fun c_21 => ?_)
    · have c_21 : p1.toInt ≤ x_15.toInt := xI_le rfl rfl c_21
      refine lv_aload_n hx hb dX5_bravest_234 rfl (lv_at hl 2 rfl) ?_
      refine lv_aload_n hx hb dX5_bravest_235 rfl (lv_at hl 3 rfl) ?_
      refine S_getR (n := 40) (C := RX0) (T := TX0) (N := 8) hx hb hg iX0 hown hK hW kd_7 rfl 0 (lt_b rfl) (hg (Cond.fieldLink RX5 36 "SlabWalk$Course" "lawful" "[Z") m372) (fun _ h9 => h9) rfl dX5_bravest_236 ?_
      refine lv_iload_n hx hb dX5_bravest_239 rfl (lv_at hl 5 rfl) ?_
      refine S_zald hx hb hK hW kd_40 (vin ((by first | (clear ha_p1 hci b_1 hn_9 f_8 c_10 hn_20 f_19 c_21; omega) | omega)) ((by first | (clear ha_p1 hci b_1 hn_9 f_8 c_10 hn_20 f_19 c_21; omega) | omega))) dX5_bravest_240 (fun y_22 ey_22 => ?_)
      have ty_22 : 0 ≤ y_22.toInt ∧ y_22.toInt ≤ 1 := bv_40 hB_G_11 ey_22
      refine lv_if_eq (tgt := 253) hx hb dX5_bravest_241 rfl (fun c_23 => ?_) (fun c_23 => ?_)
      · have c_23 : y_22.toInt = 0 := xI_eq rfl rfl c_23
        refine lv_aload_n hx hb dX5_bravest_253 rfl (lv_at hl 3 rfl) ?_
        have b_24 : 0 ≤ (G.1 7 3).toInt ∧ (G.1 7 3).toInt ≤ 60 := bd_7_3 hB_G
        refine S_getI (v := (G.1 7 3)) (C := RX0) (T := TX0) (N := 8) hx hb hg iX0 hown hK hW kd_7 rfl 3 (lt_b rfl) (hg (Cond.fieldLink RX5 58 "SlabWalk$Course" "least" "I") m379) (fun _ h9 => h9) rfl ((hq_12.i9 7 3 rfl rfl).trans (hq_3.i9 7 3 rfl rfl)) dX5_bravest_254 ?_
        refine S_putI (ty := .int) (C := RX5) (T := TX5) (N := 7) hx hb hg iX5 tyX5 tyX5_ok nmX5 hown hK hW hS kd_29 rfl 6 (lt_b rfl) (hg (Cond.fieldLink RX5 82 "SlabWalk$Odds" "boldest" "I") m470) (fun _ h9 => h9) rfl (by decide +kernel) rfl rfl rfl dX5_bravest_257 (fun G_25 H locs eG_25 hW hS => ?_)
        have hB_G_25 : Bd G_25 := hB_G_11.put (lo := (-2147483648)) (hi := 2147483647) eG_25 rfl rfl rfl (tI_rng _).1 (tI_rng _).2 (hB_G_11.2.put eG_25 rfl)
        have hF := hF.put eG_25 (Or.inr (by decide))
        refine lv_aload_n hx hb dX5_bravest_260 rfl (lv_at hl 2 rfl) ?_
        refine S_getR (n := 56) (C := RX5) (T := TX5) (N := 7) hx hb hg iX5 hown hK hW kd_29 rfl 4 (lt_b rfl) (hg (Cond.fieldLink RX5 24 "SlabWalk$Odds" "odds" "[J") m468) (fun _ h9 => h9) rfl dX5_bravest_261 ?_
        refine lv_iload_n hx hb dX5_bravest_264 rfl (lv_at hl 5 rfl) ?_
        refine S_lald hx hb hK hW kd_56 (vin ((by first | (clear ha_p1 hci b_1 hn_9 f_8 c_10 hn_20 f_19 c_21 ty_22 c_23 b_24; omega) | omega)) ((by first | (clear ha_p1 hci b_1 hn_9 f_8 c_10 hn_20 f_19 c_21 ty_22 c_23 b_24; omega) | omega))) dX5_bravest_265 (fun y_26 ey_26 => ?_)
        exact W.lret (v := y_26) hx hb hr (fun t ht _ => ⟨⟨y_26, G_25, rfl, (P_oBrave_1_mk ⟨hB_G_25, hF, ⟨x_6, G_2, hX_7, f_8, hB_G_2, hq_3, ⟨c_10, ⟨x_15, x_16, G_11, hX_17, f_19, hB_G_11, hq_12, ⟨c_21, ⟨y_22, ey_22, (Or.inl ⟨c_23, ⟨y_26, ey_26.trans (congrFun (rl_put eG_25) _), ⟨rfl, (Fr.put (rs := []) (fs := [(29, 6)]) Fr.rf eG_25 (Or.inr (by decide))), (gp_eq eG_25)⟩⟩⟩)⟩⟩⟩⟩⟩⟩), wd_t ht hW⟩, hS.F ht⟩) hS.2.2 dX5_bravest_266
      · have c_23 : y_22.toInt ≠ 0 := xI_ne rfl rfl c_23
        refine lv_aload_n hx hb dX5_bravest_244 rfl (lv_at hl 2 rfl) ?_
        refine lv_aload_n hx hb dX5_bravest_245 rfl (lv_at hl 3 rfl) ?_
        refine lv_iload_n hx hb dX5_bravest_246 rfl (lv_at hl 5 rfl) ?_
        have b_27 : 0 ≤ (G.1 7 3).toInt ∧ (G.1 7 3).toInt ≤ 60 := bd_7_3 hB_G
        have g_28 : (G_11.1 7 3).toInt = (G.1 7 3).toInt := (congrArg Int32.toInt (show G_11.1 7 3 = (G.1 7 3) from ((hq_12.i9 7 3 rfl rfl).trans (hq_3.i9 7 3 rfl rfl))))
        have b_29 : 0 ≤ (G.1 7 4).toInt ∧ (G.1 7 4).toInt ≤ 60 := bd_7_4 hB_G
        have g_30 : (G_11.1 7 4).toInt = (G.1 7 4).toInt := (congrArg Int32.toInt (show G_11.1 7 4 = (G.1 7 4) from ((hq_12.i9 7 4 rfl rfl).trans (hq_3.i9 7 4 rfl rfl))))
        have g_31 : (G_11.1 7 6).toInt = (G.1 7 6).toInt := (congrArg Int32.toInt (show G_11.1 7 6 = (G.1 7 6) from ((hq_12.i9 7 6 rfl rfl).trans ((hq_3.i9 7 6 rfl rfl).trans (rfl)))))
        have b_32 : 0 ≤ (G.1 7 7).toInt ∧ (G.1 7 7).toInt ≤ 400 := bd_7_7 hB_G
        have g_33 : (G_11.1 7 7).toInt = (G.1 7 7).toInt := (congrArg Int32.toInt (show G_11.1 7 7 = (G.1 7 7) from ((hq_12.i9 7 7 rfl rfl).trans (hq_3.i9 7 7 rfl rfl))))
        refine S_calli (va_runV (As := [.ref (a 7), .int p0]) (rest := [.ref (a 29)]) ⟨hx, hb, hml, hown, hts⟩ (k_oBest l D k A a z G_11 p0 ⟨(by first | (clear ha_p1 hci b_1 hn_9 f_8 c_10 hn_20 f_19 c_21 ty_22 c_23 b_27 g_28 b_29 g_30 g_31 b_32 g_33; omega) | omega), (by first | (clear ha_p1 hci b_1 hn_9 f_8 c_10 hn_20 f_19 c_21 ty_22 c_23 b_27 g_28 b_29 g_30 g_31 b_32 g_33; omega) | omega)⟩ ((by first | exact ⟨((by first | (clear ha_p0 ha_p1 hn_9 hn_20 f_19 c_21 ty_22 c_23; omega) | omega)), ⟨((by first | (clear ha_p0 ha_p1 hn_9 f_8 hn_20 f_19 c_21 ty_22 c_23; omega) | omega)), ((by first | (clear ha_p0 ha_p1 hn_9 hn_20 f_19 c_21 ty_22 c_23; omega) | omega))⟩⟩ | omega))) (cwV 2 hts (gd_V hgd m1126 m1128 m39 m126 m1129) rfl rfl rfl hd_X5_bestStep ⟨Nat.le_of_ble_eq_true rfl, Nat.le_of_ble_eq_true rfl⟩) (pre_W hW hB_G_11 hK hZ hS kd_29 rfl) rfl rfl hl.1 rfl (lv_room (Nat.le_of_ble_eq_true rfl)) dX5_bravest_247 ⟨Nat.le_of_ble_eq_true rfl, Nat.le_of_ble_eq_true rfl⟩) hS (fun r_34 G_35 H locs hpo hW hS => ?_)
        have hX_38 : P_oBest p0 G_11 r_34 G_35 := hpo
        obtain ⟨hB_G_35, hq_36, f_39, -⟩ := hpo
        have hF := hF.call9 hq_36 rfl rfl
        refine lv_goto (tgt := 257) hx hb dX5_bravest_250 rfl ?_
        refine S_putI (ty := .int) (C := RX5) (T := TX5) (N := 7) hx hb hg iX5 tyX5 tyX5_ok nmX5 hown hK hW hS kd_29 rfl 6 (lt_b rfl) (hg (Cond.fieldLink RX5 82 "SlabWalk$Odds" "boldest" "I") m470) (fun _ h9 => h9) rfl (by decide +kernel) rfl rfl rfl dX5_bravest_257 (fun G_40 H locs eG_40 hW hS => ?_)
        have hB_G_40 : Bd G_40 := hB_G_35.put (lo := (-2147483648)) (hi := 2147483647) eG_40 rfl rfl rfl (tI_rng _).1 (tI_rng _).2 (hB_G_35.2.put eG_40 rfl)
        have hF := hF.put eG_40 (Or.inr (by decide))
        refine lv_aload_n hx hb dX5_bravest_260 rfl (lv_at hl 2 rfl) ?_
        refine S_getR (n := 56) (C := RX5) (T := TX5) (N := 7) hx hb hg iX5 hown hK hW kd_29 rfl 4 (lt_b rfl) (hg (Cond.fieldLink RX5 24 "SlabWalk$Odds" "odds" "[J") m468) (fun _ h9 => h9) rfl dX5_bravest_261 ?_
        refine lv_iload_n hx hb dX5_bravest_264 rfl (lv_at hl 5 rfl) ?_
        refine S_lald hx hb hK hW kd_56 (vin ((by first | (clear ha_p1 hci b_1 hn_9 f_8 c_10 hn_20 f_19 c_21 ty_22 c_23 b_27 g_28 b_29 g_30 g_31 b_32 g_33 f_39; omega) | omega)) ((by first | (clear ha_p1 hci b_1 hn_9 f_8 c_10 hn_20 f_19 c_21 ty_22 c_23 b_27 g_28 b_29 g_30 g_31 b_32 g_33 f_39; omega) | omega))) dX5_bravest_265 (fun y_41 ey_41 => ?_)
        exact W.lret (v := y_41) hx hb hr (fun t ht _ => ⟨⟨y_41, G_40, rfl, (P_oBrave_1_mk ⟨hB_G_40, hF, ⟨x_6, G_2, hX_7, f_8, hB_G_2, hq_3, ⟨c_10, ⟨x_15, x_16, G_11, hX_17, f_19, hB_G_11, hq_12, ⟨c_21, ⟨y_22, ey_22, (Or.inr ⟨c_23, ⟨r_34, G_35, hX_38, ⟨y_41, ey_41.trans (congrFun (rl_put eG_40) _), ⟨rfl, (Fr.put (rs := []) (fs := [(29, 6)]) Fr.rf eG_40 (Or.inr (by decide))), (gp_eq eG_40)⟩⟩⟩⟩)⟩⟩⟩⟩⟩⟩), wd_t ht hW⟩, hS.F ht⟩) hS.2.2 dX5_bravest_266
    · have c_21 : x_15.toInt < p1.toInt := xI_nle rfl rfl c_21
      refine lv_aload_n hx hb dX5_bravest_53 rfl (lv_at hl 3 rfl) ?_
      refine S_getI (v := (G.1 7 6)) (C := RX0) (T := TX0) (N := 8) hx hb hg iX0 hown hK hW kd_7 rfl 6 (lt_b rfl) (hg (Cond.fieldLink RX5 30 "SlabWalk$Course" "last" "I") m389) (fun _ h9 => h9) rfl ((hq_12.i9 7 6 rfl rfl).trans ((hq_3.i9 7 6 rfl rfl).trans (rfl))) dX5_bravest_54 ?_
      refine ic_1 hx hb dX5_bravest_57 ?_
      refine lv_iadd hx hb dX5_bravest_58 ?_
      refine lv_topi (fun y_42 ey_42 => ?_)
      have ty_42 : y_42.toInt = (G.1 7 6).toInt + 1 := xI_add rfl rfl ey_42 ((by first | (clear ha_p0 ha_p1 hn_9 hn_20 f_19 c_21; omega) | omega)) ((by first | (clear ha_p0 ha_p1 hn_9 hn_20 f_19 c_21; omega) | omega))
      refine lv_istore (lv' := [(8, .int y_42), (7, .int x_15), (5, .long x_16), (0, .ref (a 29)), (1, .ref (a 7)), (2, .ref (a 16)), (3, .int p0), (4, .int p1)]) hx hb dX5_bravest_59 hl (lt_b rfl) rfl (fun ls hl => ?_)
      refine loop_N (Inv := fun n H locs ls => ∃ (G_43 : GS) (x_47 : Int32), (n : Int) = 403 - x_47.toInt ∧ (0 ≤ x_47.toInt ∧ x_47.toInt ≤ 403) ∧ Rc (St_k_oBrave_1_3 x_16 G) (y_42, G_11) (x_47, G_43) ∧ Wd D k A a G_43 H ∧ Bd G_43 ∧ Fr [56, 57] [(29, 6)] G G_43 ∧ Fr [56] [] G_11 G_43 ∧ va_S A s.heap H locs ∧ lv_has ls 9 [(8, .int x_47), (7, .int x_15), (5, .long x_16), (0, .ref (a 29)), (1, .ref (a 7)), (2, .ref (a 16)), (3, .int p0), (4, .int p1)]) (fun n_46 H locs ls ih_45 hI => ?_) (403 - y_42.toInt : Int).toNat ⟨G_11, y_42, (Int.toNat_of_nonneg ((by first | (clear ha_p0 ha_p1 hn_9 hn_20 f_19 c_21; omega) | omega))), ⟨(by first | (clear ha_p0 ha_p1 hn_9 hn_20 f_19 c_21; omega) | omega), (by first | (clear ha_p0 ha_p1 hn_9 hn_20 f_19 c_21; omega) | omega)⟩, Rc.rf, hW, hB_G_11, hF, Fr.rf, hS, lv_sub hl [0, 1, 2, 3, 4, 5, 6, 7] rfl⟩
      obtain ⟨G_43, x_47, hn_50, f_49, hX_48, hW, hB_G_43, hF, hq_44, hS, hl⟩ := hI
      refine lv_iload hx hb dX5_bravest_61 (lv_at hl 0 rfl) ?_
      refine lv_aload_n hx hb dX5_bravest_63 rfl (lv_at hl 4 rfl) ?_
      refine S_getI (v := (G.1 7 6)) (C := RX0) (T := TX0) (N := 8) hx hb hg iX0 hown hK hW kd_7 rfl 6 (lt_b rfl) (hg (Cond.fieldLink RX5 30 "SlabWalk$Course" "last" "I") m389) (fun _ h9 => h9) rfl ((hq_44.i9 7 6 rfl rfl).trans ((hq_12.i9 7 6 rfl rfl).trans ((hq_3.i9 7 6 rfl rfl).trans (rfl)))) dX5_bravest_64 ?_
      refine ic_3 hx hb dX5_bravest_67 ?_
      refine lv_iadd hx hb dX5_bravest_68 ?_
      refine lv_topi (fun y_51 ey_51 => ?_)
      have ty_51 : y_51.toInt = (G.1 7 6).toInt + 3 := xI_add rfl rfl ey_51 ((by first | (clear ha_p0 ha_p1 hn_9 hn_20 f_19 c_21 hn_50 f_49; omega) | omega)) ((by first | (clear ha_p0 ha_p1 hn_9 hn_20 f_19 c_21 hn_50 f_49; omega) | omega))
      refine lv_icmp_gt (tgt := 87) hx hb dX5_bravest_69 rfl (fun c_52 => ?_) (fun c_52 => ?_)
      · have c_52 : y_51.toInt < x_47.toInt := xI_lt rfl rfl c_52
        refine lv_lload hx hb dX5_bravest_87 (lv_at hl 2 rfl) ?_
        refine lv_aload_n hx hb dX5_bravest_89 rfl (lv_at hl 5 rfl) ?_
        refine ic_0 hx hb dX5_bravest_90 ?_
        refine S_iald hx hb hK hW kd_16 (vin (by decide) (by decide)) dX5_bravest_91 (fun y_53 ey_53 => ?_)
        have ty_53 : 0 ≤ y_53.toInt ∧ y_53.toInt ≤ 9 := bv_16 hB_G_43 ey_53
        refine lv_aload_n hx hb dX5_bravest_92 rfl (lv_at hl 5 rfl) ?_
        refine ic_1 hx hb dX5_bravest_93 ?_
        refine S_iald hx hb hK hW kd_16 (vin (by decide) (by decide)) dX5_bravest_94 (fun y_54 ey_54 => ?_)
        have ty_54 : 0 ≤ y_54.toInt ∧ y_54.toInt ≤ 9 := bv_16 hB_G_43 ey_54
        refine lv_iadd hx hb dX5_bravest_95 ?_
        refine lv_topi (fun y_55 ey_55 => ?_)
        have ty_55 : y_55.toInt = y_53.toInt + y_54.toInt := xI_add rfl rfl ey_55 ((by first | (clear ha_p0 ha_p1 hci b_1 hn_9 f_8 c_10 hn_20 f_19 c_21 ty_42 hn_50 f_49 ty_51 c_52; omega) | omega)) ((by first | (clear ha_p0 ha_p1 hci b_1 hn_9 f_8 c_10 hn_20 f_19 c_21 ty_42 hn_50 f_49 ty_51 c_52; omega) | omega))
        refine lv_aload_n hx hb dX5_bravest_96 rfl (lv_at hl 5 rfl) ?_
        refine ic_2 hx hb dX5_bravest_97 ?_
        refine S_iald hx hb hK hW kd_16 (vin (by decide) (by decide)) dX5_bravest_98 (fun y_56 ey_56 => ?_)
        have ty_56 : 0 ≤ y_56.toInt ∧ y_56.toInt ≤ 9 := bv_16 hB_G_43 ey_56
        refine lv_iadd hx hb dX5_bravest_99 ?_
        refine lv_topi (fun y_57 ey_57 => ?_)
        have ty_57 : y_57.toInt = y_55.toInt + y_56.toInt := xI_add rfl rfl ey_57 ((by first | (clear ha_p0 ha_p1 hci b_1 hn_9 f_8 c_10 hn_20 f_19 c_21 ty_42 hn_50 f_49 ty_51 c_52; omega) | omega)) ((by first | (clear ha_p0 ha_p1 hci b_1 hn_9 f_8 c_10 hn_20 f_19 c_21 ty_42 hn_50 f_49 ty_51 c_52; omega) | omega))
        refine lv_i2l hx hb dX5_bravest_100 rfl ?_
        refine lv_topl (fun y_58 ey_58 => ?_)
        refine lv_lmul hx hb dX5_bravest_101 ?_
        refine lv_topl (fun y_59 ey_59 => ?_)
        refine lv_lstore (lv' := [(5, .long y_59), (8, .int x_47), (7, .int x_15), (0, .ref (a 29)), (1, .ref (a 7)), (2, .ref (a 16)), (3, .int p0), (4, .int p1)]) hx hb dX5_bravest_102 hl (lt_b rfl) rfl (fun ls hl => ?_)
        refine lv_iload_n hx hb dX5_bravest_104 rfl (lv_at hl 6 rfl) ?_
        refine ic_1 hx hb dX5_bravest_105 ?_
        refine lv_iadd hx hb dX5_bravest_106 ?_
        refine lv_topi (fun y_60 ey_60 => ?_)
        have ty_60 : y_60.toInt = p0.toInt + 1 := xI_add rfl rfl ey_60 ((by first | (clear ha_p1 hci b_1 hn_9 f_8 c_10 hn_20 f_19 c_21 ty_42 hn_50 f_49 ty_51 c_52 ty_53 ty_54 ty_55 ty_56 ty_57; omega) | omega)) ((by first | (clear ha_p1 hci b_1 hn_9 f_8 c_10 hn_20 f_19 c_21 ty_42 hn_50 f_49 ty_51 c_52 ty_53 ty_54 ty_55 ty_56 ty_57; omega) | omega))
        refine lv_istore (lv' := [(8, .int y_60), (5, .long y_59), (7, .int x_15), (0, .ref (a 29)), (1, .ref (a 7)), (2, .ref (a 16)), (3, .int p0), (4, .int p1)]) hx hb dX5_bravest_107 hl (lt_b rfl) rfl (fun ls hl => ?_)
        refine loop_N (Inv := fun n H locs ls => ∃ (G_61 : GS) (x_65 : Int32), (n : Int) = 402 - x_65.toInt ∧ (1 ≤ x_65.toInt ∧ x_65.toInt ≤ 402) ∧ Rc (St_k_oBrave_1_4 G) (y_60, G_43) (x_65, G_61) ∧ Wd D k A a G_61 H ∧ Bd G_61 ∧ Fr [56, 57] [(29, 6)] G G_61 ∧ Fr [57] [] G_43 G_61 ∧ va_S A s.heap H locs ∧ lv_has ls 9 [(8, .int x_65), (5, .long y_59), (7, .int x_15), (0, .ref (a 29)), (1, .ref (a 7)), (2, .ref (a 16)), (3, .int p0), (4, .int p1)]) (fun n_64 H locs ls ih_63 hI => ?_) (402 - y_60.toInt : Int).toNat ⟨G_43, y_60, (Int.toNat_of_nonneg ((by first | (clear ha_p1 hci b_1 hn_9 f_8 c_10 hn_20 f_19 c_21 ty_42 hn_50 f_49 ty_51 c_52 ty_53 ty_54 ty_55 ty_56 ty_57; omega) | omega))), ⟨(by first | (clear ha_p1 hci b_1 hn_9 f_8 c_10 hn_20 f_19 c_21 ty_42 hn_50 f_49 ty_51 c_52 ty_53 ty_54 ty_55 ty_56 ty_57; omega) | omega), (by first | (clear ha_p1 hci b_1 hn_9 f_8 c_10 hn_20 f_19 c_21 ty_42 hn_50 f_49 ty_51 c_52 ty_53 ty_54 ty_55 ty_56 ty_57; omega) | omega)⟩, Rc.rf, hW, hB_G_43, hF, Fr.rf, hS, lv_sub hl [0, 1, 2, 3, 4, 5, 6, 7] rfl⟩
        obtain ⟨G_61, x_65, hn_68, f_67, hX_66, hW, hB_G_61, hF, hq_62, hS, hl⟩ := hI
        refine lv_iload hx hb dX5_bravest_109 (lv_at hl 0 rfl) ?_
        refine lv_aload_n hx hb dX5_bravest_111 rfl (lv_at hl 4 rfl) ?_
        refine S_getI (v := (G.1 7 6)) (C := RX0) (T := TX0) (N := 8) hx hb hg iX0 hown hK hW kd_7 rfl 6 (lt_b rfl) (hg (Cond.fieldLink RX5 30 "SlabWalk$Course" "last" "I") m389) (fun _ h9 => h9) rfl ((hq_62.i9 7 6 rfl rfl).trans ((hq_44.i9 7 6 rfl rfl).trans ((hq_12.i9 7 6 rfl rfl).trans ((hq_3.i9 7 6 rfl rfl).trans (rfl))))) dX5_bravest_112 ?_
        refine ic_2 hx hb dX5_bravest_115 ?_
        refine lv_iadd hx hb dX5_bravest_116 ?_
        refine lv_topi (fun y_69 ey_69 => ?_)
        have ty_69 : y_69.toInt = (G.1 7 6).toInt + 2 := xI_add rfl rfl ey_69 ((by first | (clear ha_p0 ha_p1 hn_9 hn_20 f_19 c_21 hn_50 ty_53 ty_54 ty_55 ty_56 ty_57 ty_60 hn_68 f_67; omega) | omega)) ((by first | (clear ha_p0 ha_p1 hn_9 hn_20 f_19 c_21 hn_50 ty_53 ty_54 ty_55 ty_56 ty_57 ty_60 hn_68 f_67; omega) | omega))
        refine lv_icmp_gt (tgt := 175) hx hb dX5_bravest_117 rfl (fun c_70 => ?_) (fun c_70 => ?_)
        · have c_70 : y_69.toInt < x_65.toInt := xI_lt rfl rfl c_70
          refine lv_iload_n hx hb dX5_bravest_175 rfl (lv_at hl 6 rfl) ?_
          refine lv_istore (lv' := [(8, .int p0), (5, .long y_59), (7, .int x_15), (0, .ref (a 29)), (1, .ref (a 7)), (2, .ref (a 16)), (3, .int p0), (4, .int p1)]) hx hb dX5_bravest_176 hl (lt_b rfl) rfl (fun ls hl => ?_)
          refine loop_N (Inv := fun n H locs ls => ∃ (G_71 : GS) (x_75 : Int32), (n : Int) = 400 - x_75.toInt ∧ (0 ≤ x_75.toInt ∧ x_75.toInt ≤ 400) ∧ Rc (St_k_oBrave_1_5 G) (p0, G_61) (x_75, G_71) ∧ Wd D k A a G_71 H ∧ Bd G_71 ∧ Fr [56, 57] [(29, 6)] G G_71 ∧ Fr [56] [] G_61 G_71 ∧ va_S A s.heap H locs ∧ lv_has ls 9 [(8, .int x_75), (5, .long y_59), (7, .int x_15), (0, .ref (a 29)), (1, .ref (a 7)), (2, .ref (a 16)), (3, .int p0), (4, .int p1)]) (fun n_74 H locs ls ih_73 hI => ?_) (400 - p0.toInt : Int).toNat ⟨G_61, p0, (Int.toNat_of_nonneg ((by first | (clear ha_p1 hci b_1 hn_9 f_8 c_10 hn_20 f_19 c_21 ty_42 hn_50 f_49 ty_51 c_52 ty_53 ty_54 ty_55 ty_56 ty_57 hn_68 f_67 ty_69 c_70; omega) | omega))), ⟨(by first | (clear ha_p1 hci b_1 hn_9 f_8 c_10 hn_20 f_19 c_21 ty_42 hn_50 f_49 ty_51 c_52 ty_53 ty_54 ty_55 ty_56 ty_57 hn_68 f_67 ty_69 c_70; omega) | omega), (by first | (clear ha_p1 hci b_1 hn_9 f_8 c_10 hn_20 f_19 c_21 ty_42 hn_50 f_49 ty_51 c_52 ty_53 ty_54 ty_55 ty_56 ty_57 hn_68 f_67 ty_69 c_70; omega) | omega)⟩, Rc.rf, hW, hB_G_61, hF, Fr.rf, hS, lv_sub hl [0, 1, 2, 3, 4, 5, 6, 7] rfl⟩
          obtain ⟨G_71, x_75, hn_78, f_77, hX_76, hW, hB_G_71, hF, hq_72, hS, hl⟩ := hI
          refine lv_iload hx hb dX5_bravest_178 (lv_at hl 0 rfl) ?_
          refine lv_aload_n hx hb dX5_bravest_180 rfl (lv_at hl 4 rfl) ?_
          refine S_getI (v := (G.1 7 6)) (C := RX0) (T := TX0) (N := 8) hx hb hg iX0 hown hK hW kd_7 rfl 6 (lt_b rfl) (hg (Cond.fieldLink RX5 30 "SlabWalk$Course" "last" "I") m389) (fun _ h9 => h9) rfl ((hq_72.i9 7 6 rfl rfl).trans ((hq_62.i9 7 6 rfl rfl).trans ((hq_44.i9 7 6 rfl rfl).trans ((hq_12.i9 7 6 rfl rfl).trans ((hq_3.i9 7 6 rfl rfl).trans (rfl)))))) dX5_bravest_181 ?_
          refine lv_icmp_gt (tgt := 228) hx hb dX5_bravest_184 rfl (fun c_79 => ?_) (fun c_79 => ?_)
          · have c_79 : (G.1 7 6).toInt < x_75.toInt := xI_lt rfl rfl c_79
            obtain ⟨y_80, ey_80⟩ : ∃ q, q = x_15 + 1 := ⟨_, rfl⟩
            have ty_80 : y_80.toInt = x_15.toInt + 1 := xI_add rfl rfl ey_80 ((by first | (clear ha_p0 hci b_1 hn_9 f_8 c_10 hn_20 ty_42 hn_50 f_49 ty_51 c_52 ty_53 ty_54 ty_55 ty_56 ty_57 ty_60 hn_68 f_67 ty_69 c_70 hn_78 f_77 c_79; omega) | omega)) ((by first | (clear ha_p0 hci b_1 hn_9 f_8 c_10 hn_20 ty_42 hn_50 f_49 ty_51 c_52 ty_53 ty_54 ty_55 ty_56 ty_57 ty_60 hn_68 f_67 ty_69 c_70 hn_78 f_77 c_79; omega) | omega))
            refine lv_iinc (v := y_80) (lv' := [(7, .int y_80), (8, .int x_75), (5, .long y_59), (0, .ref (a 29)), (1, .ref (a 7)), (2, .ref (a 16)), (3, .int p0), (4, .int p1)]) hx hb dX5_bravest_228 hl (k := 2) rfl (by rw [ey_80]; rfl) (lt_b rfl) rfl (fun ls hl => ?_)
            refine lv_goto (tgt := 46) hx hb dX5_bravest_231 rfl ?_
            exact ih_13 (8 - y_80.toInt : Int).toNat ((by first | (clear ha_p0 hci b_1 hn_9 f_8 c_10 ty_42 hn_50 f_49 ty_51 c_52 ty_53 ty_54 ty_55 ty_56 ty_57 ty_60 hn_68 f_67 ty_69 c_70 hn_78 f_77 c_79; omega) | omega)) _ _ _ ⟨G_71, y_80, y_59, (Int.toNat_of_nonneg ((by first | (clear ha_p0 hci b_1 hn_9 f_8 c_10 hn_20 ty_42 hn_50 f_49 ty_51 c_52 ty_53 ty_54 ty_55 ty_56 ty_57 ty_60 hn_68 f_67 ty_69 c_70 hn_78 f_77 c_79; omega) | omega))), ⟨(by first | (clear ha_p0 hci b_1 hn_9 f_8 c_10 hn_20 ty_42 hn_50 f_49 ty_51 c_52 ty_53 ty_54 ty_55 ty_56 ty_57 ty_60 hn_68 f_67 ty_69 c_70 hn_78 f_77 c_79; omega) | omega), (by first | (clear ha_p0 hci b_1 hn_9 f_8 c_10 hn_20 ty_42 hn_50 f_49 ty_51 c_52 ty_53 ty_54 ty_55 ty_56 ty_57 ty_60 hn_68 f_67 ty_69 c_70 hn_78 f_77 c_79; omega) | omega)⟩, (hX_17.st (St_k_oBrave_1_2_mk ⟨x_15, x_16, G_11, y_80, y_59, G_71, rfl, rfl, f_19, hB_G_11, ⟨c_21, ⟨y_42, ty_42, ⟨x_47, G_43, hX_48, f_49, hB_G_43, hq_44, ⟨y_51, ty_51, ⟨c_52, ⟨y_53, ey_53, ⟨y_54, ey_54, ⟨y_55, ty_55, ⟨y_56, ey_56, ⟨y_57, ty_57, ⟨y_58, ey_58, ⟨y_59, ey_59, ⟨y_60, ty_60, ⟨x_65, G_61, hX_66, f_67, hB_G_61, hq_62, ⟨y_69, ty_69, ⟨c_70, ⟨x_75, G_71, hX_76, f_77, hB_G_71, hq_72, ⟨c_79, ⟨y_80, ty_80, ⟨rfl, rfl, rfl⟩⟩⟩⟩⟩⟩⟩⟩⟩⟩⟩⟩⟩⟩⟩⟩⟩⟩⟩⟩⟩)), hW, hB_G_71, hF, (Fr.call9 (rs := [56, 57]) (fs := []) (Fr.call9 (rs := [56, 57]) (fs := []) (Fr.call9 (rs := [56, 57]) (fs := []) (Fr.call9 (rs := [56, 57]) (fs := []) Fr.rf hq_12 rfl rfl) hq_44 rfl rfl) hq_62 rfl rfl) hq_72 rfl rfl), hS, lv_sub hl [0, 2, 3, 4, 5, 6, 7] rfl⟩
          · have c_79 : x_75.toInt ≤ (G.1 7 6).toInt := xI_nlt rfl rfl c_79
            refine lv_aload_n hx hb dX5_bravest_187 rfl (lv_at hl 3 rfl) ?_
            refine S_getR (n := 56) (C := RX5) (T := TX5) (N := 7) hx hb hg iX5 hown hK hW kd_29 rfl 4 (lt_b rfl) (hg (Cond.fieldLink RX5 24 "SlabWalk$Odds" "odds" "[J") m468) (fun _ h9 => h9) rfl dX5_bravest_188 ?_
            refine lv_iload hx hb dX5_bravest_191 (lv_at hl 0 rfl) ?_
            refine lv_aload_n hx hb dX5_bravest_193 rfl (lv_at hl 4 rfl) ?_
            refine S_getR (n := 40) (C := RX0) (T := TX0) (N := 8) hx hb hg iX0 hown hK hW kd_7 rfl 0 (lt_b rfl) (hg (Cond.fieldLink RX5 36 "SlabWalk$Course" "lawful" "[Z") m372) (fun _ h9 => h9) rfl dX5_bravest_194 ?_
            refine lv_iload hx hb dX5_bravest_197 (lv_at hl 0 rfl) ?_
            refine S_zald hx hb hK hW kd_40 (vin ((by first | (clear ha_p0 ha_p1 hn_9 f_8 hn_20 f_19 c_21 hn_50 f_49 ty_53 ty_54 ty_55 ty_56 ty_57 ty_60 hn_68 f_67 hn_78; omega) | omega)) ((by first | (clear ha_p0 ha_p1 hn_9 f_8 hn_20 f_19 c_21 hn_50 f_49 ty_53 ty_54 ty_55 ty_56 ty_57 ty_60 hn_68 f_67 hn_78; omega) | omega))) dX5_bravest_199 (fun y_81 ey_81 => ?_)
            have ty_81 : 0 ≤ y_81.toInt ∧ y_81.toInt ≤ 1 := bv_40 hB_G_71 ey_81
            refine lv_if_eq (tgt := 220) hx hb dX5_bravest_200 rfl (fun c_82 => ?_) (fun c_82 => ?_)
            · have c_82 : y_81.toInt = 0 := xI_eq rfl rfl c_82
              refine lv_lconst (v := 0) hx hb dX5_bravest_220 (by decide) ?_
              refine S_last hx hb hK hW hS kd_56 (vin ((by first | (clear ha_p0 ha_p1 hn_9 f_8 hn_20 f_19 c_21 hn_50 f_49 ty_53 ty_54 ty_55 ty_56 ty_57 ty_60 hn_68 f_67 hn_78 ty_81 c_82; omega) | omega)) ((by first | (clear ha_p0 ha_p1 hn_9 f_8 hn_20 f_19 c_21 hn_50 f_49 ty_53 ty_54 ty_55 ty_56 ty_57 ty_60 hn_68 f_67 hn_78 ty_81 c_82; omega) | omega))) dX5_bravest_221 (fun G_83 H locs eG_83 hW hS => ?_)
              have hB_G_83 : Bd G_83 := hB_G_71.putl eG_83
              have hF := hF.putl eG_83 (Or.inl (by decide))
              obtain ⟨y_84, ey_84⟩ : ∃ q, q = x_75 + 1 := ⟨_, rfl⟩
              have ty_84 : y_84.toInt = x_75.toInt + 1 := xI_add rfl rfl ey_84 ((by first | (clear ha_p0 ha_p1 hn_9 f_8 hn_20 f_19 c_21 hn_50 f_49 ty_53 ty_54 ty_55 ty_56 ty_57 ty_60 hn_68 f_67 hn_78 ty_81 c_82; omega) | omega)) ((by first | (clear ha_p0 ha_p1 hn_9 f_8 hn_20 f_19 c_21 hn_50 f_49 ty_53 ty_54 ty_55 ty_56 ty_57 ty_60 hn_68 f_67 hn_78 ty_81 c_82; omega) | omega))
              refine lv_iinc (v := y_84) (lv' := [(8, .int y_84), (5, .long y_59), (7, .int x_15), (0, .ref (a 29)), (1, .ref (a 7)), (2, .ref (a 16)), (3, .int p0), (4, .int p1)]) hx hb dX5_bravest_222 hl (k := 0) rfl (by rw [ey_84]; rfl) (lt_b rfl) rfl (fun ls hl => ?_)
              refine lv_goto (tgt := 178) hx hb dX5_bravest_225 rfl ?_
              exact ih_73 (400 - y_84.toInt : Int).toNat ((by first | (clear ha_p0 ha_p1 f_8 hn_20 f_19 c_21 f_49 ty_53 ty_54 ty_55 ty_56 ty_57 ty_60 f_67 ty_81 c_82; omega) | omega)) _ _ _ ⟨G_83, y_84, (Int.toNat_of_nonneg ((by first | (clear ha_p0 ha_p1 hn_9 f_8 hn_20 f_19 c_21 hn_50 f_49 ty_53 ty_54 ty_55 ty_56 ty_57 ty_60 hn_68 f_67 hn_78 ty_81 c_82; omega) | omega))), ⟨(by first | (clear ha_p0 ha_p1 hn_9 f_8 hn_20 f_19 c_21 hn_50 f_49 ty_53 ty_54 ty_55 ty_56 ty_57 ty_60 hn_68 f_67 hn_78 ty_81 c_82; omega) | omega), (by first | (clear ha_p0 ha_p1 hn_9 f_8 hn_20 f_19 c_21 hn_50 f_49 ty_53 ty_54 ty_55 ty_56 ty_57 ty_60 hn_68 f_67 hn_78 ty_81 c_82; omega) | omega)⟩, (hX_76.st (St_k_oBrave_1_5_mk ⟨x_75, G_71, y_84, G_83, rfl, rfl, f_77, hB_G_71, ⟨c_79, ⟨y_81, ey_81, (Or.inl ⟨c_82, ⟨y_84, ty_84, ⟨rfl, (Fr.putl (rs := [56]) (fs := []) Fr.rf eG_83 (Or.inl (by decide))), rl_ast eG_83⟩⟩⟩)⟩⟩⟩)), hW, hB_G_83, hF, (Fr.putl (rs := [56]) (fs := []) (Fr.call9 (rs := [56]) (fs := []) Fr.rf hq_72 rfl rfl) eG_83 (Or.inl (by decide))), hS, lv_sub hl [0, 1, 2, 3, 4, 5, 6, 7] rfl⟩
            · have c_82 : y_81.toInt ≠ 0 := xI_ne rfl rfl c_82
              refine lv_aload_n hx hb dX5_bravest_203 rfl (lv_at hl 3 rfl) ?_
              refine lv_aload_n hx hb dX5_bravest_204 rfl (lv_at hl 4 rfl) ?_
              refine lv_iload hx hb dX5_bravest_205 (lv_at hl 0 rfl) ?_
              refine lv_aload_n hx hb dX5_bravest_207 rfl (lv_at hl 3 rfl) ?_
              refine lv_aload_n hx hb dX5_bravest_208 rfl (lv_at hl 4 rfl) ?_
              refine lv_iload hx hb dX5_bravest_209 (lv_at hl 0 rfl) ?_
              have b_85 : 0 ≤ (G.1 7 3).toInt ∧ (G.1 7 3).toInt ≤ 60 := bd_7_3 hB_G
              have g_86 : (G_71.1 7 3).toInt = (G.1 7 3).toInt := (congrArg Int32.toInt (show G_71.1 7 3 = (G.1 7 3) from ((hq_72.i9 7 3 rfl rfl).trans ((hq_62.i9 7 3 rfl rfl).trans ((hq_44.i9 7 3 rfl rfl).trans ((hq_12.i9 7 3 rfl rfl).trans (hq_3.i9 7 3 rfl rfl)))))))
              have b_87 : 0 ≤ (G.1 7 4).toInt ∧ (G.1 7 4).toInt ≤ 60 := bd_7_4 hB_G
              have g_88 : (G_71.1 7 4).toInt = (G.1 7 4).toInt := (congrArg Int32.toInt (show G_71.1 7 4 = (G.1 7 4) from ((hq_72.i9 7 4 rfl rfl).trans ((hq_62.i9 7 4 rfl rfl).trans ((hq_44.i9 7 4 rfl rfl).trans ((hq_12.i9 7 4 rfl rfl).trans (hq_3.i9 7 4 rfl rfl)))))))
              have g_89 : (G_71.1 7 6).toInt = (G.1 7 6).toInt := (congrArg Int32.toInt (show G_71.1 7 6 = (G.1 7 6) from ((hq_72.i9 7 6 rfl rfl).trans ((hq_62.i9 7 6 rfl rfl).trans ((hq_44.i9 7 6 rfl rfl).trans ((hq_12.i9 7 6 rfl rfl).trans ((hq_3.i9 7 6 rfl rfl).trans (rfl))))))))
              have b_90 : 0 ≤ (G.1 7 7).toInt ∧ (G.1 7 7).toInt ≤ 400 := bd_7_7 hB_G
              have g_91 : (G_71.1 7 7).toInt = (G.1 7 7).toInt := (congrArg Int32.toInt (show G_71.1 7 7 = (G.1 7 7) from ((hq_72.i9 7 7 rfl rfl).trans ((hq_62.i9 7 7 rfl rfl).trans ((hq_44.i9 7 7 rfl rfl).trans ((hq_12.i9 7 7 rfl rfl).trans (hq_3.i9 7 7 rfl rfl)))))))
              refine S_calli (va_runV (As := [.ref (a 7), .int x_75]) (rest := [.int x_75, .ref (a 7), .ref (a 29), .int x_75, .ref (a 56)]) ⟨hx, hb, hml, hown, hts⟩ (k_oBest l D k A a z G_71 x_75 ⟨(by first | (clear ha_p0 ha_p1 hn_9 f_8 hn_20 f_19 c_21 hn_50 f_49 ty_53 ty_54 ty_55 ty_56 ty_57 ty_60 hn_68 f_67 hn_78 ty_81 c_82 b_85 b_87 b_90; omega) | omega), (by first | (clear ha_p0 ha_p1 hn_9 f_8 hn_20 f_19 c_21 hn_50 f_49 ty_53 ty_54 ty_55 ty_56 ty_57 ty_60 hn_68 f_67 hn_78 ty_81 c_82 b_85 b_87 b_90; omega) | omega)⟩ ((by first | exact ⟨((by first | (clear ha_p0 ha_p1 hn_9 hn_20 f_19 c_21 hn_50 ty_53 ty_54 ty_55 ty_56 ty_57 ty_60 hn_68 hn_78 ty_81 c_82; omega) | omega)), ⟨((by first | (clear ha_p0 ha_p1 hn_9 f_8 hn_20 f_19 c_21 hn_50 f_49 ty_53 ty_54 ty_55 ty_56 ty_57 ty_60 hn_68 f_67 hn_78 f_77 ty_81 c_82; omega) | omega)), ((by first | (clear ha_p0 ha_p1 hn_9 hn_20 f_19 c_21 hn_50 ty_53 ty_54 ty_55 ty_56 ty_57 ty_60 hn_68 hn_78 ty_81 c_82; omega) | omega))⟩⟩ | omega))) (cwV 2 hts (gd_V hgd m1126 m1128 m39 m126 m1129) rfl rfl rfl hd_X5_bestStep ⟨Nat.le_of_ble_eq_true rfl, Nat.le_of_ble_eq_true rfl⟩) (pre_W hW hB_G_71 hK hZ hS kd_29 rfl) rfl rfl hl.1 rfl (lv_room (Nat.le_of_ble_eq_true rfl)) dX5_bravest_211 ⟨Nat.le_of_ble_eq_true rfl, Nat.le_of_ble_eq_true rfl⟩) hS (fun r_92 G_93 H locs hpo hW hS => ?_)
              have hX_96 : P_oBest x_75 G_71 r_92 G_93 := hpo
              obtain ⟨hB_G_93, hq_94, f_97, -⟩ := hpo
              have hF := hF.call9 hq_94 rfl rfl
              have g_98 : (G_93.1 7 3).toInt = (G.1 7 3).toInt := (congrArg Int32.toInt (show G_93.1 7 3 = (G.1 7 3) from ((hq_94.i9 7 3 rfl rfl).trans ((hq_72.i9 7 3 rfl rfl).trans ((hq_62.i9 7 3 rfl rfl).trans ((hq_44.i9 7 3 rfl rfl).trans ((hq_12.i9 7 3 rfl rfl).trans ((hq_3.i9 7 3 rfl rfl).trans (rfl)))))))))
              have g_99 : (G_93.1 7 4).toInt = (G.1 7 4).toInt := (congrArg Int32.toInt (show G_93.1 7 4 = (G.1 7 4) from ((hq_94.i9 7 4 rfl rfl).trans ((hq_72.i9 7 4 rfl rfl).trans ((hq_62.i9 7 4 rfl rfl).trans ((hq_44.i9 7 4 rfl rfl).trans ((hq_12.i9 7 4 rfl rfl).trans ((hq_3.i9 7 4 rfl rfl).trans (rfl)))))))))
              have g_100 : (G_93.1 7 6).toInt = (G.1 7 6).toInt := (congrArg Int32.toInt (show G_93.1 7 6 = (G.1 7 6) from ((hq_94.i9 7 6 rfl rfl).trans ((hq_72.i9 7 6 rfl rfl).trans ((hq_62.i9 7 6 rfl rfl).trans ((hq_44.i9 7 6 rfl rfl).trans ((hq_12.i9 7 6 rfl rfl).trans ((hq_3.i9 7 6 rfl rfl).trans (rfl)))))))))
              have g_101 : (G_93.1 7 7).toInt = (G.1 7 7).toInt := (congrArg Int32.toInt (show G_93.1 7 7 = (G.1 7 7) from ((hq_94.i9 7 7 rfl rfl).trans ((hq_72.i9 7 7 rfl rfl).trans ((hq_62.i9 7 7 rfl rfl).trans ((hq_44.i9 7 7 rfl rfl).trans ((hq_12.i9 7 7 rfl rfl).trans ((hq_3.i9 7 7 rfl rfl).trans (rfl)))))))))
              refine S_calll (va_runV (As := [.ref (a 7), .int x_75, .int r_92]) (rest := [.int x_75, .ref (a 56)]) ⟨hx, hb, hml, hown, hts⟩ (k_oAim l D k A a z G_93 x_75 r_92 ⟨(by first | (clear ha_p0 ha_p1 hn_9 f_8 hn_20 f_19 c_21 hn_50 f_49 ty_53 ty_54 ty_55 ty_56 ty_57 ty_60 hn_68 f_67 hn_78 ty_81 c_82 b_85 b_87 b_90 f_97; omega) | omega), (by first | (clear ha_p0 ha_p1 hn_9 f_8 hn_20 f_19 c_21 hn_50 f_49 ty_53 ty_54 ty_55 ty_56 ty_57 ty_60 hn_68 f_67 hn_78 ty_81 c_82 b_85 b_87 b_90 f_97; omega) | omega)⟩ ⟨(by first | (clear ha_p0 ha_p1 hci b_1 hn_9 f_8 c_10 hn_20 f_19 c_21 ty_42 hn_50 f_49 ty_51 c_52 ty_53 ty_54 ty_55 ty_56 ty_57 ty_60 hn_68 f_67 ty_69 c_70 hn_78 f_77 c_79 ty_81 c_82 b_85 g_86 b_87 g_88 g_89 b_90 g_91 g_98 g_99 g_100 g_101; omega) | omega), (by first | (clear ha_p0 ha_p1 hci b_1 hn_9 f_8 c_10 hn_20 f_19 c_21 ty_42 hn_50 f_49 ty_51 c_52 ty_53 ty_54 ty_55 ty_56 ty_57 ty_60 hn_68 f_67 ty_69 c_70 hn_78 f_77 c_79 ty_81 c_82 b_85 g_86 b_87 g_88 g_89 b_90 g_91 g_98 g_99 g_100 g_101; omega) | omega)⟩ ((by first | exact ⟨((by first | (clear ha_p0 ha_p1 hn_9 hn_20 f_19 c_21 hn_50 ty_53 ty_54 ty_55 ty_56 ty_57 ty_60 hn_68 hn_78 ty_81 c_82 f_97; omega) | omega)), ⟨((by first | (clear ha_p0 ha_p1 hn_9 f_8 hn_20 f_19 c_21 hn_50 f_49 ty_53 ty_54 ty_55 ty_56 ty_57 ty_60 hn_68 f_67 hn_78 f_77 ty_81 c_82 f_97; omega) | omega)), ((by first | (clear ha_p0 ha_p1 hn_9 hn_20 f_19 c_21 hn_50 ty_53 ty_54 ty_55 ty_56 ty_57 ty_60 hn_68 hn_78 ty_81 c_82 f_97; omega) | omega))⟩⟩ | omega))) (cwV 3 hts (gd_V hgd m1130 m1132 m40 m126 m1133) rfl rfl rfl hd_X5_aimFrom ⟨Nat.le_of_ble_eq_true rfl, Nat.le_of_ble_eq_true rfl⟩) (pre_W hW hB_G_93 hK hZ hS kd_29 rfl) rfl rfl hl.1 rfl (lv_room (Nat.le_of_ble_eq_true rfl)) dX5_bravest_214 ⟨Nat.le_of_ble_eq_true rfl, Nat.le_of_ble_eq_true rfl⟩) hS (fun r_102 G_103 H locs hpo hW hS => ?_)
              have hX_106 : P_oAim x_75 r_92 G_93 r_102 G_103 := hpo
              obtain ⟨hB_G_103, hq_104, -⟩ := hpo
              have hF := hF.call9 hq_104 rfl rfl
              refine lv_goto (tgt := 221) hx hb dX5_bravest_217 rfl ?_
              refine S_last hx hb hK hW hS kd_56 (vin ((by first | (clear ha_p0 ha_p1 hn_9 f_8 hn_20 f_19 c_21 hn_50 f_49 ty_53 ty_54 ty_55 ty_56 ty_57 ty_60 hn_68 f_67 hn_78 ty_81 c_82 b_85 b_87 b_90 f_97; omega) | omega)) ((by first | (clear ha_p0 ha_p1 hn_9 f_8 hn_20 f_19 c_21 hn_50 f_49 ty_53 ty_54 ty_55 ty_56 ty_57 ty_60 hn_68 f_67 hn_78 ty_81 c_82 b_85 b_87 b_90 f_97; omega) | omega))) dX5_bravest_221 (fun G_107 H locs eG_107 hW hS => ?_)
              have hB_G_107 : Bd G_107 := hB_G_103.putl eG_107
              have hF := hF.putl eG_107 (Or.inl (by decide))
              obtain ⟨y_108, ey_108⟩ : ∃ q, q = x_75 + 1 := ⟨_, rfl⟩
              have ty_108 : y_108.toInt = x_75.toInt + 1 := xI_add rfl rfl ey_108 ((by first | (clear ha_p0 ha_p1 hn_9 f_8 hn_20 f_19 c_21 hn_50 f_49 ty_53 ty_54 ty_55 ty_56 ty_57 ty_60 hn_68 f_67 hn_78 ty_81 c_82 b_85 b_87 b_90 f_97; omega) | omega)) ((by first | (clear ha_p0 ha_p1 hn_9 f_8 hn_20 f_19 c_21 hn_50 f_49 ty_53 ty_54 ty_55 ty_56 ty_57 ty_60 hn_68 f_67 hn_78 ty_81 c_82 b_85 b_87 b_90 f_97; omega) | omega))
              refine lv_iinc (v := y_108) (lv' := [(8, .int y_108), (5, .long y_59), (7, .int x_15), (0, .ref (a 29)), (1, .ref (a 7)), (2, .ref (a 16)), (3, .int p0), (4, .int p1)]) hx hb dX5_bravest_222 hl (k := 0) rfl (by rw [ey_108]; rfl) (lt_b rfl) rfl (fun ls hl => ?_)
              refine lv_goto (tgt := 178) hx hb dX5_bravest_225 rfl ?_
              exact ih_73 (400 - y_108.toInt : Int).toNat ((by first | (clear ha_p0 ha_p1 f_8 hn_20 f_19 c_21 f_49 ty_53 ty_54 ty_55 ty_56 ty_57 ty_60 f_67 ty_81 c_82 b_85 b_87 b_90 f_97; omega) | omega)) _ _ _ ⟨G_107, y_108, (Int.toNat_of_nonneg ((by first | (clear ha_p0 ha_p1 hn_9 f_8 hn_20 f_19 c_21 hn_50 f_49 ty_53 ty_54 ty_55 ty_56 ty_57 ty_60 hn_68 f_67 hn_78 ty_81 c_82 b_85 b_87 b_90 f_97; omega) | omega))), ⟨(by first | (clear ha_p0 ha_p1 hn_9 f_8 hn_20 f_19 c_21 hn_50 f_49 ty_53 ty_54 ty_55 ty_56 ty_57 ty_60 hn_68 f_67 hn_78 ty_81 c_82 b_85 b_87 b_90 f_97; omega) | omega), (by first | (clear ha_p0 ha_p1 hn_9 f_8 hn_20 f_19 c_21 hn_50 f_49 ty_53 ty_54 ty_55 ty_56 ty_57 ty_60 hn_68 f_67 hn_78 ty_81 c_82 b_85 b_87 b_90 f_97; omega) | omega)⟩, (hX_76.st (St_k_oBrave_1_5_mk ⟨x_75, G_71, y_108, G_107, rfl, rfl, f_77, hB_G_71, ⟨c_79, ⟨y_81, ey_81, (Or.inr ⟨c_82, ⟨r_92, G_93, hX_96, ⟨r_102, G_103, hX_106, ⟨y_108, ty_108, ⟨rfl, (Fr.putl (rs := [56]) (fs := []) Fr.rf eG_107 (Or.inl (by decide))), rl_ast eG_107⟩⟩⟩⟩⟩)⟩⟩⟩)), hW, hB_G_107, hF, (Fr.putl (rs := [56]) (fs := []) (Fr.call9 (rs := [56]) (fs := []) (Fr.call9 (rs := [56]) (fs := []) (Fr.call9 (rs := [56]) (fs := []) Fr.rf hq_72 rfl rfl) hq_94 rfl rfl) hq_104 rfl rfl) eG_107 (Or.inl (by decide))), hS, lv_sub hl [0, 1, 2, 3, 4, 5, 6, 7] rfl⟩
        · have c_70 : x_65.toInt ≤ y_69.toInt := xI_nlt rfl rfl c_70
          refine lv_aload_n hx hb dX5_bravest_120 rfl (lv_at hl 3 rfl) ?_
          refine S_getR (n := 57) (C := RX5) (T := TX5) (N := 7) hx hb hg iX5 hown hK hW kd_29 rfl 5 (lt_b rfl) (hg (Cond.fieldLink RX5 27 "SlabWalk$Odds" "aims" "[J") m469) (fun _ h9 => h9) rfl dX5_bravest_121 ?_
          refine lv_iload hx hb dX5_bravest_124 (lv_at hl 0 rfl) ?_
          refine lv_aload_n hx hb dX5_bravest_126 rfl (lv_at hl 5 rfl) ?_
          refine ic_0 hx hb dX5_bravest_127 ?_
          refine S_iald hx hb hK hW kd_16 (vin (by decide) (by decide)) dX5_bravest_128 (fun y_109 ey_109 => ?_)
          have ty_109 : 0 ≤ y_109.toInt ∧ y_109.toInt ≤ 9 := bv_16 hB_G_61 ey_109
          refine lv_i2l hx hb dX5_bravest_129 rfl ?_
          refine lv_topl (fun y_110 ey_110 => ?_)
          refine lv_aload_n hx hb dX5_bravest_130 rfl (lv_at hl 3 rfl) ?_
          refine S_getR (n := 56) (C := RX5) (T := TX5) (N := 7) hx hb hg iX5 hown hK hW kd_29 rfl 4 (lt_b rfl) (hg (Cond.fieldLink RX5 24 "SlabWalk$Odds" "odds" "[J") m468) (fun _ h9 => h9) rfl dX5_bravest_131 ?_
          refine lv_iload hx hb dX5_bravest_134 (lv_at hl 0 rfl) ?_
          refine ic_1 hx hb dX5_bravest_136 ?_
          refine lv_isub hx hb dX5_bravest_137 ?_
          refine lv_topi (fun y_111 ey_111 => ?_)
          have ty_111 : y_111.toInt = x_65.toInt - 1 := xI_sub rfl rfl ey_111 ((by first | (clear ha_p0 ha_p1 hn_9 f_8 hn_20 f_19 c_21 hn_50 f_49 ty_53 ty_54 ty_55 ty_56 ty_57 ty_60 hn_68 ty_109; omega) | omega)) ((by first | (clear ha_p0 ha_p1 hn_9 f_8 hn_20 f_19 c_21 hn_50 f_49 ty_53 ty_54 ty_55 ty_56 ty_57 ty_60 hn_68 ty_109; omega) | omega))
          refine S_lald hx hb hK hW kd_56 (vin ((by first | (clear ha_p0 ha_p1 hn_9 f_8 hn_20 f_19 c_21 hn_50 f_49 ty_53 ty_54 ty_55 ty_56 ty_57 ty_60 hn_68 ty_109; omega) | omega)) ((by first | (clear ha_p0 ha_p1 hn_9 f_8 hn_20 f_19 c_21 hn_50 f_49 ty_53 ty_54 ty_55 ty_56 ty_57 ty_60 hn_68 ty_109; omega) | omega))) dX5_bravest_138 (fun y_112 ey_112 => ?_)
          refine lv_lmul hx hb dX5_bravest_139 ?_
          refine lv_topl (fun y_113 ey_113 => ?_)
          refine lv_aload_n hx hb dX5_bravest_140 rfl (lv_at hl 5 rfl) ?_
          refine ic_1 hx hb dX5_bravest_141 ?_
          refine S_iald hx hb hK hW kd_16 (vin (by decide) (by decide)) dX5_bravest_142 (fun y_114 ey_114 => ?_)
          have ty_114 : 0 ≤ y_114.toInt ∧ y_114.toInt ≤ 9 := bv_16 hB_G_61 ey_114
          refine lv_i2l hx hb dX5_bravest_143 rfl ?_
          refine lv_topl (fun y_115 ey_115 => ?_)
          refine lv_aload_n hx hb dX5_bravest_144 rfl (lv_at hl 3 rfl) ?_
          refine S_getR (n := 56) (C := RX5) (T := TX5) (N := 7) hx hb hg iX5 hown hK hW kd_29 rfl 4 (lt_b rfl) (hg (Cond.fieldLink RX5 24 "SlabWalk$Odds" "odds" "[J") m468) (fun _ h9 => h9) rfl dX5_bravest_145 ?_
          refine lv_iload hx hb dX5_bravest_148 (lv_at hl 0 rfl) ?_
          refine S_lald hx hb hK hW kd_56 (vin ((by first | (clear ha_p0 ha_p1 hn_9 f_8 hn_20 f_19 c_21 hn_50 f_49 ty_53 ty_54 ty_55 ty_56 ty_57 ty_60 hn_68 ty_109 ty_114; omega) | omega)) ((by first | (clear ha_p0 ha_p1 hn_9 f_8 hn_20 f_19 c_21 hn_50 f_49 ty_53 ty_54 ty_55 ty_56 ty_57 ty_60 hn_68 ty_109 ty_114; omega) | omega))) dX5_bravest_150 (fun y_116 ey_116 => ?_)
          refine lv_lmul hx hb dX5_bravest_151 ?_
          refine lv_topl (fun y_117 ey_117 => ?_)
          refine lv_ladd hx hb dX5_bravest_152 ?_
          refine lv_topl (fun y_118 ey_118 => ?_)
          refine lv_aload_n hx hb dX5_bravest_153 rfl (lv_at hl 5 rfl) ?_
          refine ic_2 hx hb dX5_bravest_154 ?_
          refine S_iald hx hb hK hW kd_16 (vin (by decide) (by decide)) dX5_bravest_155 (fun y_119 ey_119 => ?_)
          have ty_119 : 0 ≤ y_119.toInt ∧ y_119.toInt ≤ 9 := bv_16 hB_G_61 ey_119
          refine lv_i2l hx hb dX5_bravest_156 rfl ?_
          refine lv_topl (fun y_120 ey_120 => ?_)
          refine lv_aload_n hx hb dX5_bravest_157 rfl (lv_at hl 3 rfl) ?_
          refine S_getR (n := 56) (C := RX5) (T := TX5) (N := 7) hx hb hg iX5 hown hK hW kd_29 rfl 4 (lt_b rfl) (hg (Cond.fieldLink RX5 24 "SlabWalk$Odds" "odds" "[J") m468) (fun _ h9 => h9) rfl dX5_bravest_158 ?_
          refine lv_iload hx hb dX5_bravest_161 (lv_at hl 0 rfl) ?_
          refine ic_1 hx hb dX5_bravest_163 ?_
          refine lv_iadd hx hb dX5_bravest_164 ?_
          refine lv_topi (fun y_121 ey_121 => ?_)
          have ty_121 : y_121.toInt = x_65.toInt + 1 := xI_add rfl rfl ey_121 ((by first | (clear ha_p0 ha_p1 hn_9 f_8 hn_20 f_19 c_21 hn_50 f_49 ty_53 ty_54 ty_55 ty_56 ty_57 ty_60 hn_68 ty_109 ty_114 ty_119; omega) | omega)) ((by first | (clear ha_p0 ha_p1 hn_9 f_8 hn_20 f_19 c_21 hn_50 f_49 ty_53 ty_54 ty_55 ty_56 ty_57 ty_60 hn_68 ty_109 ty_114 ty_119; omega) | omega))
          refine S_lald hx hb hK hW kd_56 (vin ((by first | (clear ha_p0 ha_p1 hn_9 f_8 hn_20 f_19 c_21 hn_50 f_49 ty_53 ty_54 ty_55 ty_56 ty_57 ty_60 hn_68 ty_109 ty_114 ty_119; omega) | omega)) ((by first | (clear ha_p0 ha_p1 hn_9 f_8 hn_20 f_19 c_21 hn_50 f_49 ty_53 ty_54 ty_55 ty_56 ty_57 ty_60 hn_68 ty_109 ty_114 ty_119; omega) | omega))) dX5_bravest_165 (fun y_122 ey_122 => ?_)
          refine lv_lmul hx hb dX5_bravest_166 ?_
          refine lv_topl (fun y_123 ey_123 => ?_)
          refine lv_ladd hx hb dX5_bravest_167 ?_
          refine lv_topl (fun y_124 ey_124 => ?_)
          refine S_last hx hb hK hW hS kd_57 (vin ((by first | (clear ha_p0 ha_p1 hn_9 f_8 hn_20 f_19 c_21 hn_50 f_49 ty_53 ty_54 ty_55 ty_56 ty_57 ty_60 hn_68 ty_109 ty_114 ty_119; omega) | omega)) ((by first | (clear ha_p0 ha_p1 hn_9 f_8 hn_20 f_19 c_21 hn_50 f_49 ty_53 ty_54 ty_55 ty_56 ty_57 ty_60 hn_68 ty_109 ty_114 ty_119; omega) | omega))) dX5_bravest_168 (fun G_125 H locs eG_125 hW hS => ?_)
          have hB_G_125 : Bd G_125 := hB_G_61.putl eG_125
          have hF := hF.putl eG_125 (Or.inl (by decide))
          obtain ⟨y_126, ey_126⟩ : ∃ q, q = x_65 + 1 := ⟨_, rfl⟩
          have ty_126 : y_126.toInt = x_65.toInt + 1 := xI_add rfl rfl ey_126 ((by first | (clear ha_p0 ha_p1 hn_9 f_8 hn_20 f_19 c_21 hn_50 f_49 ty_53 ty_54 ty_55 ty_56 ty_57 ty_60 hn_68 ty_109 ty_114 ty_119; omega) | omega)) ((by first | (clear ha_p0 ha_p1 hn_9 f_8 hn_20 f_19 c_21 hn_50 f_49 ty_53 ty_54 ty_55 ty_56 ty_57 ty_60 hn_68 ty_109 ty_114 ty_119; omega) | omega))
          refine lv_iinc (v := y_126) (lv' := [(8, .int y_126), (5, .long y_59), (7, .int x_15), (0, .ref (a 29)), (1, .ref (a 7)), (2, .ref (a 16)), (3, .int p0), (4, .int p1)]) hx hb dX5_bravest_169 hl (k := 0) rfl (by rw [ey_126]; rfl) (lt_b rfl) rfl (fun ls hl => ?_)
          refine lv_goto (tgt := 109) hx hb dX5_bravest_172 rfl ?_
          exact ih_63 (402 - y_126.toInt : Int).toNat ((by first | (clear ha_p0 ha_p1 f_8 hn_20 f_19 c_21 f_49 ty_53 ty_54 ty_55 ty_56 ty_57 ty_60 ty_109 ty_114 ty_119; omega) | omega)) _ _ _ ⟨G_125, y_126, (Int.toNat_of_nonneg ((by first | (clear ha_p0 ha_p1 hn_9 f_8 hn_20 f_19 c_21 hn_50 f_49 ty_53 ty_54 ty_55 ty_56 ty_57 ty_60 hn_68 ty_109 ty_114 ty_119; omega) | omega))), ⟨(by first | (clear ha_p0 ha_p1 hn_9 f_8 hn_20 f_19 c_21 hn_50 f_49 ty_53 ty_54 ty_55 ty_56 ty_57 ty_60 hn_68 ty_109 ty_114 ty_119; omega) | omega), (by first | (clear ha_p0 ha_p1 hn_9 f_8 hn_20 f_19 c_21 hn_50 f_49 ty_53 ty_54 ty_55 ty_56 ty_57 ty_60 hn_68 ty_109 ty_114 ty_119; omega) | omega)⟩, (hX_66.st (St_k_oBrave_1_4_mk ⟨x_65, G_61, y_126, G_125, rfl, rfl, f_67, hB_G_61, ⟨y_69, ty_69, ⟨c_70, ⟨y_109, ey_109, ⟨y_110, ey_110, ⟨y_111, ty_111, ⟨y_112, ey_112, ⟨y_113, ey_113, ⟨y_114, ey_114, ⟨y_115, ey_115, ⟨y_116, ey_116, ⟨y_117, ey_117, ⟨y_118, ey_118, ⟨y_119, ey_119, ⟨y_120, ey_120, ⟨y_121, ty_121, ⟨y_122, ey_122, ⟨y_123, ey_123, ⟨y_124, ey_124, ⟨y_126, ty_126, ⟨rfl, (Fr.putl (rs := [57]) (fs := []) Fr.rf eG_125 (Or.inl (by decide))), rl_ast eG_125⟩⟩⟩⟩⟩⟩⟩⟩⟩⟩⟩⟩⟩⟩⟩⟩⟩⟩⟩⟩⟩)), hW, hB_G_125, hF, (Fr.putl (rs := [57]) (fs := []) (Fr.call9 (rs := [57]) (fs := []) Fr.rf hq_62 rfl rfl) eG_125 (Or.inl (by decide))), hS, lv_sub hl [0, 1, 2, 3, 4, 5, 6, 7] rfl⟩
      · have c_52 : x_47.toInt ≤ y_51.toInt := xI_nlt rfl rfl c_52
        refine lv_aload_n hx hb dX5_bravest_72 rfl (lv_at hl 3 rfl) ?_
        refine S_getR (n := 56) (C := RX5) (T := TX5) (N := 7) hx hb hg iX5 hown hK hW kd_29 rfl 4 (lt_b rfl) (hg (Cond.fieldLink RX5 24 "SlabWalk$Odds" "odds" "[J") m468) (fun _ h9 => h9) rfl dX5_bravest_73 ?_
        refine lv_iload hx hb dX5_bravest_76 (lv_at hl 0 rfl) ?_
        refine lv_lload hx hb dX5_bravest_78 (lv_at hl 2 rfl) ?_
        refine S_last hx hb hK hW hS kd_56 (vin ((by first | (clear ha_p0 ha_p1 hn_9 f_8 hn_20 f_19 c_21 hn_50; omega) | omega)) ((by first | (clear ha_p0 ha_p1 hn_9 f_8 hn_20 f_19 c_21 hn_50; omega) | omega))) dX5_bravest_80 (fun G_127 H locs eG_127 hW hS => ?_)
        have hB_G_127 : Bd G_127 := hB_G_43.putl eG_127
        have hF := hF.putl eG_127 (Or.inl (by decide))
        obtain ⟨y_128, ey_128⟩ : ∃ q, q = x_47 + 1 := ⟨_, rfl⟩
        have ty_128 : y_128.toInt = x_47.toInt + 1 := xI_add rfl rfl ey_128 ((by first | (clear ha_p0 ha_p1 hn_9 f_8 hn_20 f_19 c_21 hn_50; omega) | omega)) ((by first | (clear ha_p0 ha_p1 hn_9 f_8 hn_20 f_19 c_21 hn_50; omega) | omega))
        refine lv_iinc (v := y_128) (lv' := [(8, .int y_128), (7, .int x_15), (5, .long x_16), (0, .ref (a 29)), (1, .ref (a 7)), (2, .ref (a 16)), (3, .int p0), (4, .int p1)]) hx hb dX5_bravest_81 hl (k := 0) rfl (by rw [ey_128]; rfl) (lt_b rfl) rfl (fun ls hl => ?_)
        refine lv_goto (tgt := 61) hx hb dX5_bravest_84 rfl ?_
        exact ih_45 (403 - y_128.toInt : Int).toNat ((by first | (clear ha_p0 ha_p1 f_8 hn_20 f_19 c_21; omega) | omega)) _ _ _ ⟨G_127, y_128, (Int.toNat_of_nonneg ((by first | (clear ha_p0 ha_p1 hn_9 f_8 hn_20 f_19 c_21 hn_50; omega) | omega))), ⟨(by first | (clear ha_p0 ha_p1 hn_9 f_8 hn_20 f_19 c_21 hn_50; omega) | omega), (by first | (clear ha_p0 ha_p1 hn_9 f_8 hn_20 f_19 c_21 hn_50; omega) | omega)⟩, (hX_48.st (St_k_oBrave_1_3_mk ⟨x_47, G_43, y_128, G_127, rfl, rfl, f_49, hB_G_43, ⟨y_51, ty_51, ⟨c_52, ⟨y_128, ty_128, ⟨rfl, (Fr.putl (rs := [56]) (fs := []) Fr.rf eG_127 (Or.inl (by decide))), rl_ast eG_127⟩⟩⟩⟩⟩)), hW, hB_G_127, hF, (Fr.putl (rs := [56]) (fs := []) (Fr.call9 (rs := [56]) (fs := []) Fr.rf hq_44 rfl rfl) eG_127 (Or.inl (by decide))), hS, lv_sub hl [0, 1, 2, 3, 4, 5, 6, 7] rfl⟩
  · have c_10 : x_6.toInt ≤ (G.1 7 6).toInt := xI_nlt rfl rfl c_10
    refine lv_aload_n hx hb dX5_bravest_15 rfl (lv_at hl 2 rfl) ?_
    refine S_getR (n := 56) (C := RX5) (T := TX5) (N := 7) hx hb hg iX5 hown hK hW kd_29 rfl 4 (lt_b rfl) (hg (Cond.fieldLink RX5 24 "SlabWalk$Odds" "odds" "[J") m468) (fun _ h9 => h9) rfl dX5_bravest_16 ?_
    refine lv_iload hx hb dX5_bravest_19 (lv_at hl 0 rfl) ?_
    refine lv_aload_n hx hb dX5_bravest_21 rfl (lv_at hl 3 rfl) ?_
    refine S_getR (n := 40) (C := RX0) (T := TX0) (N := 8) hx hb hg iX0 hown hK hW kd_7 rfl 0 (lt_b rfl) (hg (Cond.fieldLink RX5 36 "SlabWalk$Course" "lawful" "[Z") m372) (fun _ h9 => h9) rfl dX5_bravest_22 ?_
    refine lv_iload hx hb dX5_bravest_25 (lv_at hl 0 rfl) ?_
    refine S_zald hx hb hK hW kd_40 (vin ((by first | (clear ha_p0 ha_p1 hn_9; omega) | omega)) ((by first | (clear ha_p0 ha_p1 hn_9; omega) | omega))) dX5_bravest_27 (fun y_129 ey_129 => ?_)
    have ty_129 : 0 ≤ y_129.toInt ∧ y_129.toInt ≤ 1 := bv_40 hB_G_2 ey_129
    refine lv_if_eq (tgt := 35) hx hb dX5_bravest_28 rfl (fun c_130 => ?_) (fun c_130 => ?_)
    · have c_130 : y_129.toInt = 0 := xI_eq rfl rfl c_130
      refine lv_lconst (v := 0) hx hb dX5_bravest_35 (by decide) ?_
      refine S_last hx hb hK hW hS kd_56 (vin ((by first | (clear ha_p0 ha_p1 hn_9 ty_129 c_130; omega) | omega)) ((by first | (clear ha_p0 ha_p1 hn_9 ty_129 c_130; omega) | omega))) dX5_bravest_36 (fun G_131 H locs eG_131 hW hS => ?_)
      have hB_G_131 : Bd G_131 := hB_G_2.putl eG_131
      have hF := hF.putl eG_131 (Or.inl (by decide))
      obtain ⟨y_132, ey_132⟩ : ∃ q, q = x_6 + 1 := ⟨_, rfl⟩
      have ty_132 : y_132.toInt = x_6.toInt + 1 := xI_add rfl rfl ey_132 ((by first | (clear ha_p0 ha_p1 hn_9 ty_129 c_130; omega) | omega)) ((by first | (clear ha_p0 ha_p1 hn_9 ty_129 c_130; omega) | omega))
      refine lv_iinc (v := y_132) (lv' := [(7, .int y_132), (5, .long 1), (0, .ref (a 29)), (1, .ref (a 7)), (2, .ref (a 16)), (3, .int p0), (4, .int p1)]) hx hb dX5_bravest_37 hl (k := 0) rfl (by rw [ey_132]; rfl) (lt_b rfl) rfl (fun ls hl => ?_)
      refine lv_goto (tgt := 6) hx hb dX5_bravest_40 rfl ?_
      exact ih_4 (400 - y_132.toInt : Int).toNat ((by first | (clear ha_p0 ha_p1 ty_129 c_130; omega) | omega)) _ _ _ ⟨G_131, y_132, (Int.toNat_of_nonneg ((by first | (clear ha_p0 ha_p1 hn_9 ty_129 c_130; omega) | omega))), ⟨(by first | (clear ha_p0 ha_p1 hn_9 ty_129 c_130; omega) | omega), (by first | (clear ha_p0 ha_p1 hn_9 ty_129 c_130; omega) | omega)⟩, (hX_7.st (St_k_oBrave_1_1_mk ⟨x_6, G_2, y_132, G_131, rfl, rfl, f_8, hB_G_2, ⟨c_10, ⟨y_129, ey_129, (Or.inl ⟨c_130, ⟨y_132, ty_132, ⟨rfl, (Fr.putl (rs := [56]) (fs := []) Fr.rf eG_131 (Or.inl (by decide))), rl_ast eG_131⟩⟩⟩)⟩⟩⟩)), hW, hB_G_131, hF, (Fr.putl (rs := [56]) (fs := []) (Fr.call9 (rs := [56]) (fs := []) Fr.rf hq_3 rfl rfl) eG_131 (Or.inl (by decide))), hS, lv_sub hl [0, 1, 2, 3, 4, 5, 6] rfl⟩
    · have c_130 : y_129.toInt ≠ 0 := xI_ne rfl rfl c_130
      refine lv_lconst (v := 1) hx hb dX5_bravest_31 (by decide) ?_
      refine lv_goto (tgt := 36) hx hb dX5_bravest_32 rfl ?_
      refine S_last hx hb hK hW hS kd_56 (vin ((by first | (clear ha_p0 ha_p1 hn_9 ty_129 c_130; omega) | omega)) ((by first | (clear ha_p0 ha_p1 hn_9 ty_129 c_130; omega) | omega))) dX5_bravest_36 (fun G_133 H locs eG_133 hW hS => ?_)
      have hB_G_133 : Bd G_133 := hB_G_2.putl eG_133
      have hF := hF.putl eG_133 (Or.inl (by decide))
      obtain ⟨y_134, ey_134⟩ : ∃ q, q = x_6 + 1 := ⟨_, rfl⟩
      have ty_134 : y_134.toInt = x_6.toInt + 1 := xI_add rfl rfl ey_134 ((by first | (clear ha_p0 ha_p1 hn_9 ty_129 c_130; omega) | omega)) ((by first | (clear ha_p0 ha_p1 hn_9 ty_129 c_130; omega) | omega))
      refine lv_iinc (v := y_134) (lv' := [(7, .int y_134), (5, .long 1), (0, .ref (a 29)), (1, .ref (a 7)), (2, .ref (a 16)), (3, .int p0), (4, .int p1)]) hx hb dX5_bravest_37 hl (k := 0) rfl (by rw [ey_134]; rfl) (lt_b rfl) rfl (fun ls hl => ?_)
      refine lv_goto (tgt := 6) hx hb dX5_bravest_40 rfl ?_
      exact ih_4 (400 - y_134.toInt : Int).toNat ((by first | (clear ha_p0 ha_p1 ty_129 c_130; omega) | omega)) _ _ _ ⟨G_133, y_134, (Int.toNat_of_nonneg ((by first | (clear ha_p0 ha_p1 hn_9 ty_129 c_130; omega) | omega))), ⟨(by first | (clear ha_p0 ha_p1 hn_9 ty_129 c_130; omega) | omega), (by first | (clear ha_p0 ha_p1 hn_9 ty_129 c_130; omega) | omega)⟩, (hX_7.st (St_k_oBrave_1_1_mk ⟨x_6, G_2, y_134, G_133, rfl, rfl, f_8, hB_G_2, ⟨c_10, ⟨y_129, ey_129, (Or.inr ⟨c_130, ⟨y_134, ty_134, ⟨rfl, (Fr.putl (rs := [56]) (fs := []) Fr.rf eG_133 (Or.inl (by decide))), rl_ast eG_133⟩⟩⟩)⟩⟩⟩)), hW, hB_G_133, hF, (Fr.putl (rs := [56]) (fs := []) (Fr.call9 (rs := [56]) (fs := []) Fr.rf hq_3 rfl rfl) eG_133 (Or.inl (by decide))), hS, lv_sub hl [0, 1, 2, 3, 4, 5, 6] rfl⟩

set_option maxHeartbeats 4000000 in
set_option maxRecDepth 100000 in
theorem k_oBrave_2 (l : Launch) (D : va_G) (k : KT) (A : Nat → Prop) (a : Nat → Nat) (z : SK) (G : GS) (p0 : Int32) (p1 : Int32) (ha_p0 : 0 ≤ p0.toInt ∧ p0.toInt ≤ 399) (ha_p1 : 1 ≤ p1.toInt ∧ p1.toInt ≤ 8) (hci : (G.1 7 6).toInt ≤ 399 ∧ (G.1 7 3).toInt ≤ (G.1 7 4).toInt ∧ ((G.1 7 7).toInt ≤ 0 ∨ (G.1 7 7).toInt + (G.1 7 4).toInt ≤ (G.1 7 6).toInt + 1)) : Met l yX5_bravest (WS yX5_bravest cX5_bravest 9 (some .long)) ({ frames := 3, cells := 0, slots := 0, locals := 63 }) (va_Pc [.ref (a 29), .ref (a 7), .ref (a 26), .int p0, .int p1] (cW D k A a z G)) (va_Ql (fun (r : Int64) (G1 : GS) => P_oBrave_2 p0 p1 G r G1) (fun (G1 : GS) t => Wd D k A a G1 t.heap) A) 0 0 A := by
  refine Met.ofW (cc := cX5_bravest) (maxL := 9) (ret := (some .long)) (by decide) rfl ?_
  intro p e s m args below meth c s₁ B hml hv
  obtain ⟨rfl, hW, hB_G, hK, hZ⟩ := hv
  have hx := B.exec
  have hb := B.bytes
  have hr := B.returns
  have hts := atoms_spec (ws := WS yX5_bravest cX5_bravest 9 (some .long)) B.pre
  have hgd : ∀ w ∈ gd, w ∈ WS yX5_bravest cX5_bravest 9 (some .long) := fun w h => List.mem_cons_of_mem _ h
  have hg : ∀ w ∈ gd, w.before _ s = true := fun w h => hts w (hgd w h)
  have hown : s.vm.findClass RX5 = some m.cls := findClass_of_methodNamed B.named
  have hS : va_S A s.heap s.heap [] := va_S.rf
  have hF : Fr [56, 57] [(29, 6)] G G := Fr.rf
  have hl := lv_entry ([.ref (a 29), .ref (a 7), .ref (a 26), .int p0, .int p1]) (n := 9) (Nat.le_of_ble_eq_true rfl)
  rw [lg_entry_eq]
  generalize (lg_sl ([.ref (a 29), .ref (a 7), .ref (a 26), .int p0, .int p1]) ++ List.replicate (9 - (lg_sl ([.ref (a 29), .ref (a 7), .ref (a 26), .int p0, .int p1])).length) Slot.unset).toArray = ls at hl ⊢
  have hl : lv_has ls 9 [(0, .ref (a 29)), (1, .ref (a 7)), (2, .ref (a 26)), (3, .int p0), (4, .int p1)] := hl
  have b_1 : (-1) ≤ (G.1 7 6).toInt ∧ (G.1 7 6).toInt ≤ 400 := bd_7_6 hB_G
  refine lv_lconst (v := 1) hx hb dX5_bravest_0 (by decide) ?_
  refine lv_lstore (lv' := [(5, .long 1), (0, .ref (a 29)), (1, .ref (a 7)), (2, .ref (a 26)), (3, .int p0), (4, .int p1)]) hx hb dX5_bravest_1 hl (lt_b rfl) rfl (fun ls hl => ?_)
  refine lv_iload_n hx hb dX5_bravest_3 rfl (lv_at hl 4 rfl) ?_
  refine lv_istore (lv' := [(7, .int p0), (5, .long 1), (0, .ref (a 29)), (1, .ref (a 7)), (2, .ref (a 26)), (3, .int p0), (4, .int p1)]) hx hb dX5_bravest_4 hl (lt_b rfl) rfl (fun ls hl => ?_)
  refine loop_N (Inv := fun n H locs ls => ∃ (G_2 : GS) (x_6 : Int32), (n : Int) = 400 - x_6.toInt ∧ (0 ≤ x_6.toInt ∧ x_6.toInt ≤ 400) ∧ Rc (St_k_oBrave_2_1 G) (p0, G) (x_6, G_2) ∧ Wd D k A a G_2 H ∧ Bd G_2 ∧ Fr [56, 57] [(29, 6)] G G_2 ∧ Fr [56] [] G G_2 ∧ va_S A s.heap H locs ∧ lv_has ls 9 [(7, .int x_6), (5, .long 1), (0, .ref (a 29)), (1, .ref (a 7)), (2, .ref (a 26)), (3, .int p0), (4, .int p1)]) (fun n_5 H locs ls ih_4 hI => ?_) (400 - p0.toInt : Int).toNat ⟨G, p0, (Int.toNat_of_nonneg ((by first | (clear ha_p1 hci b_1; omega) | omega))), ⟨(by first | (clear ha_p1 hci b_1; omega) | omega), (by first | (clear ha_p1 hci b_1; omega) | omega)⟩, Rc.rf, hW, hB_G, hF, Fr.rf, hS, lv_sub hl [0, 1, 2, 3, 4, 5, 6] rfl⟩
  obtain ⟨G_2, x_6, hn_9, f_8, hX_7, hW, hB_G_2, hF, hq_3, hS, hl⟩ := hI
  refine lv_iload hx hb dX5_bravest_6 (lv_at hl 0 rfl) ?_
  refine lv_aload_n hx hb dX5_bravest_8 rfl (lv_at hl 3 rfl) ?_
  refine S_getI (v := (G.1 7 6)) (C := RX0) (T := TX0) (N := 8) hx hb hg iX0 hown hK hW kd_7 rfl 6 (lt_b rfl) (hg (Cond.fieldLink RX5 30 "SlabWalk$Course" "last" "I") m389) (fun _ h9 => h9) rfl ((hq_3.i9 7 6 rfl rfl).trans (rfl)) dX5_bravest_9 ?_
  refine lv_icmp_gt (tgt := 43) hx hb dX5_bravest_12 rfl (fun c_10 => ?_) (fun c_10 => ?_)
  · have c_10 : (G.1 7 6).toInt < x_6.toInt := xI_lt rfl rfl c_10
    refine ic_0 hx hb dX5_bravest_43 ?_
    refine lv_istore (lv' := [(7, .int 0), (5, .long 1), (0, .ref (a 29)), (1, .ref (a 7)), (2, .ref (a 26)), (3, .int p0), (4, .int p1)]) hx hb dX5_bravest_44 hl (lt_b rfl) rfl (fun ls hl => ?_)
    have qc_18 : (0 : Int32).toInt = 0 := rfl
    refine loop_N (Inv := fun n H locs ls => ∃ (G_11 : GS) (x_15 : Int32) (x_16 : Int64), (n : Int) = 8 - x_15.toInt ∧ (0 ≤ x_15.toInt ∧ x_15.toInt ≤ 8) ∧ Rc (St_k_oBrave_2_2 p0 p1 G) (0, 1, G_2) (x_15, x_16, G_11) ∧ Wd D k A a G_11 H ∧ Bd G_11 ∧ Fr [56, 57] [(29, 6)] G G_11 ∧ Fr [56, 57] [] G_2 G_11 ∧ va_S A s.heap H locs ∧ lv_has ls 9 [(7, .int x_15), (5, .long x_16), (0, .ref (a 29)), (1, .ref (a 7)), (2, .ref (a 26)), (3, .int p0), (4, .int p1)]) (fun n_14 H locs ls ih_13 hI => ?_) (8 - 0 : Int).toNat ⟨G_2, 0, 1, (Int.toNat_of_nonneg ((by first | (clear ha_p0 ha_p1 hci b_1 hn_9 f_8 c_10; omega) | omega))), ⟨(by first | (clear ha_p0 ha_p1 hci b_1 hn_9 f_8 c_10; omega) | omega), (by first | (clear ha_p0 ha_p1 hci b_1 hn_9 f_8 c_10; omega) | omega)⟩, Rc.rf, hW, hB_G_2, hF, Fr.rf, hS, lv_sub hl [0, 1, 2, 3, 4, 5, 6] rfl⟩
    obtain ⟨G_11, x_15, x_16, hn_20, f_19, hX_17, hW, hB_G_11, hF, hq_12, hS, hl⟩ := hI
    refine lv_iload hx hb dX5_bravest_46 (lv_at hl 0 rfl) ?_
    refine lv_iload hx hb dX5_bravest_48 (lv_at hl 6 rfl) ?_
    refine lv_icmp_ge (tgt := 234) hx hb dX5_bravest_50 rfl (fun c_21 => ?_) (fun c_21 => ?_)
    · have c_21 : p1.toInt ≤ x_15.toInt := xI_le rfl rfl c_21
      refine lv_aload_n hx hb dX5_bravest_234 rfl (lv_at hl 2 rfl) ?_
      refine lv_aload_n hx hb dX5_bravest_235 rfl (lv_at hl 3 rfl) ?_
      refine S_getR (n := 40) (C := RX0) (T := TX0) (N := 8) hx hb hg iX0 hown hK hW kd_7 rfl 0 (lt_b rfl) (hg (Cond.fieldLink RX5 36 "SlabWalk$Course" "lawful" "[Z") m372) (fun _ h9 => h9) rfl dX5_bravest_236 ?_
      refine lv_iload_n hx hb dX5_bravest_239 rfl (lv_at hl 5 rfl) ?_
      refine S_zald hx hb hK hW kd_40 (vin ((by first | (clear ha_p1 hci b_1 hn_9 f_8 c_10 hn_20 f_19 c_21; omega) | omega)) ((by first | (clear ha_p1 hci b_1 hn_9 f_8 c_10 hn_20 f_19 c_21; omega) | omega))) dX5_bravest_240 (fun y_22 ey_22 => ?_)
      have ty_22 : 0 ≤ y_22.toInt ∧ y_22.toInt ≤ 1 := bv_40 hB_G_11 ey_22
      refine lv_if_eq (tgt := 253) hx hb dX5_bravest_241 rfl (fun c_23 => ?_) (fun c_23 => ?_)
      · have c_23 : y_22.toInt = 0 := xI_eq rfl rfl c_23
        refine lv_aload_n hx hb dX5_bravest_253 rfl (lv_at hl 3 rfl) ?_
        have b_24 : 0 ≤ (G.1 7 3).toInt ∧ (G.1 7 3).toInt ≤ 60 := bd_7_3 hB_G
        refine S_getI (v := (G.1 7 3)) (C := RX0) (T := TX0) (N := 8) hx hb hg iX0 hown hK hW kd_7 rfl 3 (lt_b rfl) (hg (Cond.fieldLink RX5 58 "SlabWalk$Course" "least" "I") m379) (fun _ h9 => h9) rfl ((hq_12.i9 7 3 rfl rfl).trans (hq_3.i9 7 3 rfl rfl)) dX5_bravest_254 ?_
        refine S_putI (ty := .int) (C := RX5) (T := TX5) (N := 7) hx hb hg iX5 tyX5 tyX5_ok nmX5 hown hK hW hS kd_29 rfl 6 (lt_b rfl) (hg (Cond.fieldLink RX5 82 "SlabWalk$Odds" "boldest" "I") m470) (fun _ h9 => h9) rfl (by decide +kernel) rfl rfl rfl dX5_bravest_257 (fun G_25 H locs eG_25 hW hS => ?_)
        have hB_G_25 : Bd G_25 := hB_G_11.put (lo := (-2147483648)) (hi := 2147483647) eG_25 rfl rfl rfl (tI_rng _).1 (tI_rng _).2 (hB_G_11.2.put eG_25 rfl)
        have hF := hF.put eG_25 (Or.inr (by decide))
        refine lv_aload_n hx hb dX5_bravest_260 rfl (lv_at hl 2 rfl) ?_
        refine S_getR (n := 56) (C := RX5) (T := TX5) (N := 7) hx hb hg iX5 hown hK hW kd_29 rfl 4 (lt_b rfl) (hg (Cond.fieldLink RX5 24 "SlabWalk$Odds" "odds" "[J") m468) (fun _ h9 => h9) rfl dX5_bravest_261 ?_
        refine lv_iload_n hx hb dX5_bravest_264 rfl (lv_at hl 5 rfl) ?_
        refine S_lald hx hb hK hW kd_56 (vin ((by first | (clear ha_p1 hci b_1 hn_9 f_8 c_10 hn_20 f_19 c_21 ty_22 c_23 b_24; omega) | omega)) ((by first | (clear ha_p1 hci b_1 hn_9 f_8 c_10 hn_20 f_19 c_21 ty_22 c_23 b_24; omega) | omega))) dX5_bravest_265 (fun y_26 ey_26 => ?_)
        exact W.lret (v := y_26) hx hb hr (fun t ht _ => ⟨⟨y_26, G_25, rfl, (P_oBrave_2_mk ⟨hB_G_25, hF, ⟨x_6, G_2, hX_7, f_8, hB_G_2, hq_3, ⟨c_10, ⟨x_15, x_16, G_11, hX_17, f_19, hB_G_11, hq_12, ⟨c_21, ⟨y_22, ey_22, (Or.inl ⟨c_23, ⟨y_26, ey_26.trans (congrFun (rl_put eG_25) _), ⟨rfl, (Fr.put (rs := []) (fs := [(29, 6)]) Fr.rf eG_25 (Or.inr (by decide))), (gp_eq eG_25)⟩⟩⟩)⟩⟩⟩⟩⟩⟩), wd_t ht hW⟩, hS.F ht⟩) hS.2.2 dX5_bravest_266
      · have c_23 : y_22.toInt ≠ 0 := xI_ne rfl rfl c_23
        refine lv_aload_n hx hb dX5_bravest_244 rfl (lv_at hl 2 rfl) ?_
        refine lv_aload_n hx hb dX5_bravest_245 rfl (lv_at hl 3 rfl) ?_
        refine lv_iload_n hx hb dX5_bravest_246 rfl (lv_at hl 5 rfl) ?_
        have b_27 : 0 ≤ (G.1 7 3).toInt ∧ (G.1 7 3).toInt ≤ 60 := bd_7_3 hB_G
        have g_28 : (G_11.1 7 3).toInt = (G.1 7 3).toInt := (congrArg Int32.toInt (show G_11.1 7 3 = (G.1 7 3) from ((hq_12.i9 7 3 rfl rfl).trans (hq_3.i9 7 3 rfl rfl))))
        have b_29 : 0 ≤ (G.1 7 4).toInt ∧ (G.1 7 4).toInt ≤ 60 := bd_7_4 hB_G
        have g_30 : (G_11.1 7 4).toInt = (G.1 7 4).toInt := (congrArg Int32.toInt (show G_11.1 7 4 = (G.1 7 4) from ((hq_12.i9 7 4 rfl rfl).trans (hq_3.i9 7 4 rfl rfl))))
        have g_31 : (G_11.1 7 6).toInt = (G.1 7 6).toInt := (congrArg Int32.toInt (show G_11.1 7 6 = (G.1 7 6) from ((hq_12.i9 7 6 rfl rfl).trans ((hq_3.i9 7 6 rfl rfl).trans (rfl)))))
        have b_32 : 0 ≤ (G.1 7 7).toInt ∧ (G.1 7 7).toInt ≤ 400 := bd_7_7 hB_G
        have g_33 : (G_11.1 7 7).toInt = (G.1 7 7).toInt := (congrArg Int32.toInt (show G_11.1 7 7 = (G.1 7 7) from ((hq_12.i9 7 7 rfl rfl).trans (hq_3.i9 7 7 rfl rfl))))
        refine S_calli (va_runV (As := [.ref (a 7), .int p0]) (rest := [.ref (a 29)]) ⟨hx, hb, hml, hown, hts⟩ (k_oBest l D k A a z G_11 p0 ⟨(by first | (clear ha_p1 hci b_1 hn_9 f_8 c_10 hn_20 f_19 c_21 ty_22 c_23 b_27 g_28 b_29 g_30 g_31 b_32 g_33; omega) | omega), (by first | (clear ha_p1 hci b_1 hn_9 f_8 c_10 hn_20 f_19 c_21 ty_22 c_23 b_27 g_28 b_29 g_30 g_31 b_32 g_33; omega) | omega)⟩ ((by first | exact ⟨((by first | (clear ha_p0 ha_p1 hn_9 hn_20 f_19 c_21 ty_22 c_23; omega) | omega)), ⟨((by first | (clear ha_p0 ha_p1 hn_9 f_8 hn_20 f_19 c_21 ty_22 c_23; omega) | omega)), ((by first | (clear ha_p0 ha_p1 hn_9 hn_20 f_19 c_21 ty_22 c_23; omega) | omega))⟩⟩ | omega))) (cwV 2 hts (gd_V hgd m1126 m1128 m39 m126 m1129) rfl rfl rfl hd_X5_bestStep ⟨Nat.le_of_ble_eq_true rfl, Nat.le_of_ble_eq_true rfl⟩) (pre_W hW hB_G_11 hK hZ hS kd_29 rfl) rfl rfl hl.1 rfl (lv_room (Nat.le_of_ble_eq_true rfl)) dX5_bravest_247 ⟨Nat.le_of_ble_eq_true rfl, Nat.le_of_ble_eq_true rfl⟩) hS (fun r_34 G_35 H locs hpo hW hS => ?_)
        have hX_38 : P_oBest p0 G_11 r_34 G_35 := hpo
        obtain ⟨hB_G_35, hq_36, f_39, -⟩ := hpo
        have hF := hF.call9 hq_36 rfl rfl
        refine lv_goto (tgt := 257) hx hb dX5_bravest_250 rfl ?_
        refine S_putI (ty := .int) (C := RX5) (T := TX5) (N := 7) hx hb hg iX5 tyX5 tyX5_ok nmX5 hown hK hW hS kd_29 rfl 6 (lt_b rfl) (hg (Cond.fieldLink RX5 82 "SlabWalk$Odds" "boldest" "I") m470) (fun _ h9 => h9) rfl (by decide +kernel) rfl rfl rfl dX5_bravest_257 (fun G_40 H locs eG_40 hW hS => ?_)
        have hB_G_40 : Bd G_40 := hB_G_35.put (lo := (-2147483648)) (hi := 2147483647) eG_40 rfl rfl rfl (tI_rng _).1 (tI_rng _).2 (hB_G_35.2.put eG_40 rfl)
        have hF := hF.put eG_40 (Or.inr (by decide))
        refine lv_aload_n hx hb dX5_bravest_260 rfl (lv_at hl 2 rfl) ?_
        refine S_getR (n := 56) (C := RX5) (T := TX5) (N := 7) hx hb hg iX5 hown hK hW kd_29 rfl 4 (lt_b rfl) (hg (Cond.fieldLink RX5 24 "SlabWalk$Odds" "odds" "[J") m468) (fun _ h9 => h9) rfl dX5_bravest_261 ?_
        refine lv_iload_n hx hb dX5_bravest_264 rfl (lv_at hl 5 rfl) ?_
        refine S_lald hx hb hK hW kd_56 (vin ((by first | (clear ha_p1 hci b_1 hn_9 f_8 c_10 hn_20 f_19 c_21 ty_22 c_23 b_27 g_28 b_29 g_30 g_31 b_32 g_33 f_39; omega) | omega)) ((by first | (clear ha_p1 hci b_1 hn_9 f_8 c_10 hn_20 f_19 c_21 ty_22 c_23 b_27 g_28 b_29 g_30 g_31 b_32 g_33 f_39; omega) | omega))) dX5_bravest_265 (fun y_41 ey_41 => ?_)
        exact W.lret (v := y_41) hx hb hr (fun t ht _ => ⟨⟨y_41, G_40, rfl, (P_oBrave_2_mk ⟨hB_G_40, hF, ⟨x_6, G_2, hX_7, f_8, hB_G_2, hq_3, ⟨c_10, ⟨x_15, x_16, G_11, hX_17, f_19, hB_G_11, hq_12, ⟨c_21, ⟨y_22, ey_22, (Or.inr ⟨c_23, ⟨r_34, G_35, hX_38, ⟨y_41, ey_41.trans (congrFun (rl_put eG_40) _), ⟨rfl, (Fr.put (rs := []) (fs := [(29, 6)]) Fr.rf eG_40 (Or.inr (by decide))), (gp_eq eG_40)⟩⟩⟩⟩)⟩⟩⟩⟩⟩⟩), wd_t ht hW⟩, hS.F ht⟩) hS.2.2 dX5_bravest_266
    · have c_21 : x_15.toInt < p1.toInt := xI_nle rfl rfl c_21
      refine lv_aload_n hx hb dX5_bravest_53 rfl (lv_at hl 3 rfl) ?_
      refine S_getI (v := (G.1 7 6)) (C := RX0) (T := TX0) (N := 8) hx hb hg iX0 hown hK hW kd_7 rfl 6 (lt_b rfl) (hg (Cond.fieldLink RX5 30 "SlabWalk$Course" "last" "I") m389) (fun _ h9 => h9) rfl ((hq_12.i9 7 6 rfl rfl).trans ((hq_3.i9 7 6 rfl rfl).trans (rfl))) dX5_bravest_54 ?_
      refine ic_1 hx hb dX5_bravest_57 ?_
      refine lv_iadd hx hb dX5_bravest_58 ?_
      refine lv_topi (fun y_42 ey_42 => ?_)
      have ty_42 : y_42.toInt = (G.1 7 6).toInt + 1 := xI_add rfl rfl ey_42 ((by first | (clear ha_p0 ha_p1 hn_9 hn_20 f_19 c_21; omega) | omega)) ((by first | (clear ha_p0 ha_p1 hn_9 hn_20 f_19 c_21; omega) | omega))
      refine lv_istore (lv' := [(8, .int y_42), (7, .int x_15), (5, .long x_16), (0, .ref (a 29)), (1, .ref (a 7)), (2, .ref (a 26)), (3, .int p0), (4, .int p1)]) hx hb dX5_bravest_59 hl (lt_b rfl) rfl (fun ls hl => ?_)
      refine loop_N (Inv := fun n H locs ls => ∃ (G_43 : GS) (x_47 : Int32), (n : Int) = 403 - x_47.toInt ∧ (0 ≤ x_47.toInt ∧ x_47.toInt ≤ 403) ∧ Rc (St_k_oBrave_2_3 x_16 G) (y_42, G_11) (x_47, G_43) ∧ Wd D k A a G_43 H ∧ Bd G_43 ∧ Fr [56, 57] [(29, 6)] G G_43 ∧ Fr [56] [] G_11 G_43 ∧ va_S A s.heap H locs ∧ lv_has ls 9 [(8, .int x_47), (7, .int x_15), (5, .long x_16), (0, .ref (a 29)), (1, .ref (a 7)), (2, .ref (a 26)), (3, .int p0), (4, .int p1)]) (fun n_46 H locs ls ih_45 hI => ?_) (403 - y_42.toInt : Int).toNat ⟨G_11, y_42, (Int.toNat_of_nonneg ((by first | (clear ha_p0 ha_p1 hn_9 hn_20 f_19 c_21; omega) | omega))), ⟨(by first | (clear ha_p0 ha_p1 hn_9 hn_20 f_19 c_21; omega) | omega), (by first | (clear ha_p0 ha_p1 hn_9 hn_20 f_19 c_21; omega) | omega)⟩, Rc.rf, hW, hB_G_11, hF, Fr.rf, hS, lv_sub hl [0, 1, 2, 3, 4, 5, 6, 7] rfl⟩
      obtain ⟨G_43, x_47, hn_50, f_49, hX_48, hW, hB_G_43, hF, hq_44, hS, hl⟩ := hI
      refine lv_iload hx hb dX5_bravest_61 (lv_at hl 0 rfl) ?_
      refine lv_aload_n hx hb dX5_bravest_63 rfl (lv_at hl 4 rfl) ?_
      refine S_getI (v := (G.1 7 6)) (C := RX0) (T := TX0) (N := 8) hx hb hg iX0 hown hK hW kd_7 rfl 6 (lt_b rfl) (hg (Cond.fieldLink RX5 30 "SlabWalk$Course" "last" "I") m389) (fun _ h9 => h9) rfl ((hq_44.i9 7 6 rfl rfl).trans ((hq_12.i9 7 6 rfl rfl).trans ((hq_3.i9 7 6 rfl rfl).trans (rfl)))) dX5_bravest_64 ?_
      refine ic_3 hx hb dX5_bravest_67 ?_
      refine lv_iadd hx hb dX5_bravest_68 ?_
      refine lv_topi (fun y_51 ey_51 => ?_)
      have ty_51 : y_51.toInt = (G.1 7 6).toInt + 3 := xI_add rfl rfl ey_51 ((by first | (clear ha_p0 ha_p1 hn_9 hn_20 f_19 c_21 hn_50 f_49; omega) | omega)) ((by first | (clear ha_p0 ha_p1 hn_9 hn_20 f_19 c_21 hn_50 f_49; omega) | omega))
      refine lv_icmp_gt (tgt := 87) hx hb dX5_bravest_69 rfl (fun c_52 => ?_) (fun c_52 => ?_)
      · have c_52 : y_51.toInt < x_47.toInt := xI_lt rfl rfl c_52
        refine lv_lload hx hb dX5_bravest_87 (lv_at hl 2 rfl) ?_
        refine lv_aload_n hx hb dX5_bravest_89 rfl (lv_at hl 5 rfl) ?_
        refine ic_0 hx hb dX5_bravest_90 ?_
        refine S_iald hx hb hK hW kd_26 (vin (by decide) (by decide)) dX5_bravest_91 (fun y_53 ey_53 => ?_)
        have ty_53 : 0 ≤ y_53.toInt ∧ y_53.toInt ≤ 9 := bv_26 hB_G_43 ey_53
        refine lv_aload_n hx hb dX5_bravest_92 rfl (lv_at hl 5 rfl) ?_
        refine ic_1 hx hb dX5_bravest_93 ?_
        refine S_iald hx hb hK hW kd_26 (vin (by decide) (by decide)) dX5_bravest_94 (fun y_54 ey_54 => ?_)
        have ty_54 : 0 ≤ y_54.toInt ∧ y_54.toInt ≤ 9 := bv_26 hB_G_43 ey_54
        refine lv_iadd hx hb dX5_bravest_95 ?_
        refine lv_topi (fun y_55 ey_55 => ?_)
        have ty_55 : y_55.toInt = y_53.toInt + y_54.toInt := xI_add rfl rfl ey_55 ((by first | (clear ha_p0 ha_p1 hci b_1 hn_9 f_8 c_10 hn_20 f_19 c_21 ty_42 hn_50 f_49 ty_51 c_52; omega) | omega)) ((by first | (clear ha_p0 ha_p1 hci b_1 hn_9 f_8 c_10 hn_20 f_19 c_21 ty_42 hn_50 f_49 ty_51 c_52; omega) | omega))
        refine lv_aload_n hx hb dX5_bravest_96 rfl (lv_at hl 5 rfl) ?_
        refine ic_2 hx hb dX5_bravest_97 ?_
        refine S_iald hx hb hK hW kd_26 (vin (by decide) (by decide)) dX5_bravest_98 (fun y_56 ey_56 => ?_)
        have ty_56 : 0 ≤ y_56.toInt ∧ y_56.toInt ≤ 9 := bv_26 hB_G_43 ey_56
        refine lv_iadd hx hb dX5_bravest_99 ?_
        refine lv_topi (fun y_57 ey_57 => ?_)
        have ty_57 : y_57.toInt = y_55.toInt + y_56.toInt := xI_add rfl rfl ey_57 ((by first | (clear ha_p0 ha_p1 hci b_1 hn_9 f_8 c_10 hn_20 f_19 c_21 ty_42 hn_50 f_49 ty_51 c_52; omega) | omega)) ((by first | (clear ha_p0 ha_p1 hci b_1 hn_9 f_8 c_10 hn_20 f_19 c_21 ty_42 hn_50 f_49 ty_51 c_52; omega) | omega))
        refine lv_i2l hx hb dX5_bravest_100 rfl ?_
        refine lv_topl (fun y_58 ey_58 => ?_)
        refine lv_lmul hx hb dX5_bravest_101 ?_
        refine lv_topl (fun y_59 ey_59 => ?_)
        refine lv_lstore (lv' := [(5, .long y_59), (8, .int x_47), (7, .int x_15), (0, .ref (a 29)), (1, .ref (a 7)), (2, .ref (a 26)), (3, .int p0), (4, .int p1)]) hx hb dX5_bravest_102 hl (lt_b rfl) rfl (fun ls hl => ?_)
        refine lv_iload_n hx hb dX5_bravest_104 rfl (lv_at hl 6 rfl) ?_
        refine ic_1 hx hb dX5_bravest_105 ?_
        refine lv_iadd hx hb dX5_bravest_106 ?_
        refine lv_topi (fun y_60 ey_60 => ?_)
        have ty_60 : y_60.toInt = p0.toInt + 1 := xI_add rfl rfl ey_60 ((by first | (clear ha_p1 hci b_1 hn_9 f_8 c_10 hn_20 f_19 c_21 ty_42 hn_50 f_49 ty_51 c_52 ty_53 ty_54 ty_55 ty_56 ty_57; omega) | omega)) ((by first | (clear ha_p1 hci b_1 hn_9 f_8 c_10 hn_20 f_19 c_21 ty_42 hn_50 f_49 ty_51 c_52 ty_53 ty_54 ty_55 ty_56 ty_57; omega) | omega))
        refine lv_istore (lv' := [(8, .int y_60), (5, .long y_59), (7, .int x_15), (0, .ref (a 29)), (1, .ref (a 7)), (2, .ref (a 26)), (3, .int p0), (4, .int p1)]) hx hb dX5_bravest_107 hl (lt_b rfl) rfl (fun ls hl => ?_)
        refine loop_N (Inv := fun n H locs ls => ∃ (G_61 : GS) (x_65 : Int32), (n : Int) = 402 - x_65.toInt ∧ (1 ≤ x_65.toInt ∧ x_65.toInt ≤ 402) ∧ Rc (St_k_oBrave_2_4 G) (y_60, G_43) (x_65, G_61) ∧ Wd D k A a G_61 H ∧ Bd G_61 ∧ Fr [56, 57] [(29, 6)] G G_61 ∧ Fr [57] [] G_43 G_61 ∧ va_S A s.heap H locs ∧ lv_has ls 9 [(8, .int x_65), (5, .long y_59), (7, .int x_15), (0, .ref (a 29)), (1, .ref (a 7)), (2, .ref (a 26)), (3, .int p0), (4, .int p1)]) (fun n_64 H locs ls ih_63 hI => ?_) (402 - y_60.toInt : Int).toNat ⟨G_43, y_60, (Int.toNat_of_nonneg ((by first | (clear ha_p1 hci b_1 hn_9 f_8 c_10 hn_20 f_19 c_21 ty_42 hn_50 f_49 ty_51 c_52 ty_53 ty_54 ty_55 ty_56 ty_57; omega) | omega))), ⟨(by first | (clear ha_p1 hci b_1 hn_9 f_8 c_10 hn_20 f_19 c_21 ty_42 hn_50 f_49 ty_51 c_52 ty_53 ty_54 ty_55 ty_56 ty_57; omega) | omega), (by first | (clear ha_p1 hci b_1 hn_9 f_8 c_10 hn_20 f_19 c_21 ty_42 hn_50 f_49 ty_51 c_52 ty_53 ty_54 ty_55 ty_56 ty_57; omega) | omega)⟩, Rc.rf, hW, hB_G_43, hF, Fr.rf, hS, lv_sub hl [0, 1, 2, 3, 4, 5, 6, 7] rfl⟩
        obtain ⟨G_61, x_65, hn_68, f_67, hX_66, hW, hB_G_61, hF, hq_62, hS, hl⟩ := hI
        refine lv_iload hx hb dX5_bravest_109 (lv_at hl 0 rfl) ?_
        refine lv_aload_n hx hb dX5_bravest_111 rfl (lv_at hl 4 rfl) ?_
        refine S_getI (v := (G.1 7 6)) (C := RX0) (T := TX0) (N := 8) hx hb hg iX0 hown hK hW kd_7 rfl 6 (lt_b rfl) (hg (Cond.fieldLink RX5 30 "SlabWalk$Course" "last" "I") m389) (fun _ h9 => h9) rfl ((hq_62.i9 7 6 rfl rfl).trans ((hq_44.i9 7 6 rfl rfl).trans ((hq_12.i9 7 6 rfl rfl).trans ((hq_3.i9 7 6 rfl rfl).trans (rfl))))) dX5_bravest_112 ?_
        refine ic_2 hx hb dX5_bravest_115 ?_
        refine lv_iadd hx hb dX5_bravest_116 ?_
        refine lv_topi (fun y_69 ey_69 => ?_)
        have ty_69 : y_69.toInt = (G.1 7 6).toInt + 2 := xI_add rfl rfl ey_69 ((by first | (clear ha_p0 ha_p1 hn_9 hn_20 f_19 c_21 hn_50 ty_53 ty_54 ty_55 ty_56 ty_57 ty_60 hn_68 f_67; omega) | omega)) ((by first | (clear ha_p0 ha_p1 hn_9 hn_20 f_19 c_21 hn_50 ty_53 ty_54 ty_55 ty_56 ty_57 ty_60 hn_68 f_67; omega) | omega))
        refine lv_icmp_gt (tgt := 175) hx hb dX5_bravest_117 rfl (fun c_70 => ?_) (fun c_70 => ?_)
        · have c_70 : y_69.toInt < x_65.toInt := xI_lt rfl rfl c_70
          refine lv_iload_n hx hb dX5_bravest_175 rfl (lv_at hl 6 rfl) ?_
          refine lv_istore (lv' := [(8, .int p0), (5, .long y_59), (7, .int x_15), (0, .ref (a 29)), (1, .ref (a 7)), (2, .ref (a 26)), (3, .int p0), (4, .int p1)]) hx hb dX5_bravest_176 hl (lt_b rfl) rfl (fun ls hl => ?_)
          refine loop_N (Inv := fun n H locs ls => ∃ (G_71 : GS) (x_75 : Int32), (n : Int) = 400 - x_75.toInt ∧ (0 ≤ x_75.toInt ∧ x_75.toInt ≤ 400) ∧ Rc (St_k_oBrave_2_5 G) (p0, G_61) (x_75, G_71) ∧ Wd D k A a G_71 H ∧ Bd G_71 ∧ Fr [56, 57] [(29, 6)] G G_71 ∧ Fr [56] [] G_61 G_71 ∧ va_S A s.heap H locs ∧ lv_has ls 9 [(8, .int x_75), (5, .long y_59), (7, .int x_15), (0, .ref (a 29)), (1, .ref (a 7)), (2, .ref (a 26)), (3, .int p0), (4, .int p1)]) (fun n_74 H locs ls ih_73 hI => ?_) (400 - p0.toInt : Int).toNat ⟨G_61, p0, (Int.toNat_of_nonneg ((by first | (clear ha_p1 hci b_1 hn_9 f_8 c_10 hn_20 f_19 c_21 ty_42 hn_50 f_49 ty_51 c_52 ty_53 ty_54 ty_55 ty_56 ty_57 hn_68 f_67 ty_69 c_70; omega) | omega))), ⟨(by first | (clear ha_p1 hci b_1 hn_9 f_8 c_10 hn_20 f_19 c_21 ty_42 hn_50 f_49 ty_51 c_52 ty_53 ty_54 ty_55 ty_56 ty_57 hn_68 f_67 ty_69 c_70; omega) | omega), (by first | (clear ha_p1 hci b_1 hn_9 f_8 c_10 hn_20 f_19 c_21 ty_42 hn_50 f_49 ty_51 c_52 ty_53 ty_54 ty_55 ty_56 ty_57 hn_68 f_67 ty_69 c_70; omega) | omega)⟩, Rc.rf, hW, hB_G_61, hF, Fr.rf, hS, lv_sub hl [0, 1, 2, 3, 4, 5, 6, 7] rfl⟩
          obtain ⟨G_71, x_75, hn_78, f_77, hX_76, hW, hB_G_71, hF, hq_72, hS, hl⟩ := hI
          refine lv_iload hx hb dX5_bravest_178 (lv_at hl 0 rfl) ?_
          refine lv_aload_n hx hb dX5_bravest_180 rfl (lv_at hl 4 rfl) ?_
          refine S_getI (v := (G.1 7 6)) (C := RX0) (T := TX0) (N := 8) hx hb hg iX0 hown hK hW kd_7 rfl 6 (lt_b rfl) (hg (Cond.fieldLink RX5 30 "SlabWalk$Course" "last" "I") m389) (fun _ h9 => h9) rfl ((hq_72.i9 7 6 rfl rfl).trans ((hq_62.i9 7 6 rfl rfl).trans ((hq_44.i9 7 6 rfl rfl).trans ((hq_12.i9 7 6 rfl rfl).trans ((hq_3.i9 7 6 rfl rfl).trans (rfl)))))) dX5_bravest_181 ?_
          refine lv_icmp_gt (tgt := 228) hx hb dX5_bravest_184 rfl (fun c_79 => ?_) (fun c_79 => ?_)
          · have c_79 : (G.1 7 6).toInt < x_75.toInt := xI_lt rfl rfl c_79
            obtain ⟨y_80, ey_80⟩ : ∃ q, q = x_15 + 1 := ⟨_, rfl⟩
            have ty_80 : y_80.toInt = x_15.toInt + 1 := xI_add rfl rfl ey_80 ((by first | (clear ha_p0 hci b_1 hn_9 f_8 c_10 hn_20 ty_42 hn_50 f_49 ty_51 c_52 ty_53 ty_54 ty_55 ty_56 ty_57 ty_60 hn_68 f_67 ty_69 c_70 hn_78 f_77 c_79; omega) | omega)) ((by first | (clear ha_p0 hci b_1 hn_9 f_8 c_10 hn_20 ty_42 hn_50 f_49 ty_51 c_52 ty_53 ty_54 ty_55 ty_56 ty_57 ty_60 hn_68 f_67 ty_69 c_70 hn_78 f_77 c_79; omega) | omega))
            refine lv_iinc (v := y_80) (lv' := [(7, .int y_80), (8, .int x_75), (5, .long y_59), (0, .ref (a 29)), (1, .ref (a 7)), (2, .ref (a 26)), (3, .int p0), (4, .int p1)]) hx hb dX5_bravest_228 hl (k := 2) rfl (by rw [ey_80]; rfl) (lt_b rfl) rfl (fun ls hl => ?_)
            refine lv_goto (tgt := 46) hx hb dX5_bravest_231 rfl ?_
            exact ih_13 (8 - y_80.toInt : Int).toNat ((by first | (clear ha_p0 hci b_1 hn_9 f_8 c_10 ty_42 hn_50 f_49 ty_51 c_52 ty_53 ty_54 ty_55 ty_56 ty_57 ty_60 hn_68 f_67 ty_69 c_70 hn_78 f_77 c_79; omega) | omega)) _ _ _ ⟨G_71, y_80, y_59, (Int.toNat_of_nonneg ((by first | (clear ha_p0 hci b_1 hn_9 f_8 c_10 hn_20 ty_42 hn_50 f_49 ty_51 c_52 ty_53 ty_54 ty_55 ty_56 ty_57 ty_60 hn_68 f_67 ty_69 c_70 hn_78 f_77 c_79; omega) | omega))), ⟨(by first | (clear ha_p0 hci b_1 hn_9 f_8 c_10 hn_20 ty_42 hn_50 f_49 ty_51 c_52 ty_53 ty_54 ty_55 ty_56 ty_57 ty_60 hn_68 f_67 ty_69 c_70 hn_78 f_77 c_79; omega) | omega), (by first | (clear ha_p0 hci b_1 hn_9 f_8 c_10 hn_20 ty_42 hn_50 f_49 ty_51 c_52 ty_53 ty_54 ty_55 ty_56 ty_57 ty_60 hn_68 f_67 ty_69 c_70 hn_78 f_77 c_79; omega) | omega)⟩, (hX_17.st (St_k_oBrave_2_2_mk ⟨x_15, x_16, G_11, y_80, y_59, G_71, rfl, rfl, f_19, hB_G_11, ⟨c_21, ⟨y_42, ty_42, ⟨x_47, G_43, hX_48, f_49, hB_G_43, hq_44, ⟨y_51, ty_51, ⟨c_52, ⟨y_53, ey_53, ⟨y_54, ey_54, ⟨y_55, ty_55, ⟨y_56, ey_56, ⟨y_57, ty_57, ⟨y_58, ey_58, ⟨y_59, ey_59, ⟨y_60, ty_60, ⟨x_65, G_61, hX_66, f_67, hB_G_61, hq_62, ⟨y_69, ty_69, ⟨c_70, ⟨x_75, G_71, hX_76, f_77, hB_G_71, hq_72, ⟨c_79, ⟨y_80, ty_80, ⟨rfl, rfl, rfl⟩⟩⟩⟩⟩⟩⟩⟩⟩⟩⟩⟩⟩⟩⟩⟩⟩⟩⟩⟩⟩)), hW, hB_G_71, hF, (Fr.call9 (rs := [56, 57]) (fs := []) (Fr.call9 (rs := [56, 57]) (fs := []) (Fr.call9 (rs := [56, 57]) (fs := []) (Fr.call9 (rs := [56, 57]) (fs := []) Fr.rf hq_12 rfl rfl) hq_44 rfl rfl) hq_62 rfl rfl) hq_72 rfl rfl), hS, lv_sub hl [0, 2, 3, 4, 5, 6, 7] rfl⟩
          · have c_79 : x_75.toInt ≤ (G.1 7 6).toInt := xI_nlt rfl rfl c_79
            refine lv_aload_n hx hb dX5_bravest_187 rfl (lv_at hl 3 rfl) ?_
            refine S_getR (n := 56) (C := RX5) (T := TX5) (N := 7) hx hb hg iX5 hown hK hW kd_29 rfl 4 (lt_b rfl) (hg (Cond.fieldLink RX5 24 "SlabWalk$Odds" "odds" "[J") m468) (fun _ h9 => h9) rfl dX5_bravest_188 ?_
            refine lv_iload hx hb dX5_bravest_191 (lv_at hl 0 rfl) ?_
            refine lv_aload_n hx hb dX5_bravest_193 rfl (lv_at hl 4 rfl) ?_
            refine S_getR (n := 40) (C := RX0) (T := TX0) (N := 8) hx hb hg iX0 hown hK hW kd_7 rfl 0 (lt_b rfl) (hg (Cond.fieldLink RX5 36 "SlabWalk$Course" "lawful" "[Z") m372) (fun _ h9 => h9) rfl dX5_bravest_194 ?_
            refine lv_iload hx hb dX5_bravest_197 (lv_at hl 0 rfl) ?_
            refine S_zald hx hb hK hW kd_40 (vin ((by first | (clear ha_p0 ha_p1 hn_9 f_8 hn_20 f_19 c_21 hn_50 f_49 ty_53 ty_54 ty_55 ty_56 ty_57 ty_60 hn_68 f_67 hn_78; omega) | omega)) ((by first | (clear ha_p0 ha_p1 hn_9 f_8 hn_20 f_19 c_21 hn_50 f_49 ty_53 ty_54 ty_55 ty_56 ty_57 ty_60 hn_68 f_67 hn_78; omega) | omega))) dX5_bravest_199 (fun y_81 ey_81 => ?_)
            have ty_81 : 0 ≤ y_81.toInt ∧ y_81.toInt ≤ 1 := bv_40 hB_G_71 ey_81
            refine lv_if_eq (tgt := 220) hx hb dX5_bravest_200 rfl (fun c_82 => ?_) (fun c_82 => ?_)
            · have c_82 : y_81.toInt = 0 := xI_eq rfl rfl c_82
              refine lv_lconst (v := 0) hx hb dX5_bravest_220 (by decide) ?_
              refine S_last hx hb hK hW hS kd_56 (vin ((by first | (clear ha_p0 ha_p1 hn_9 f_8 hn_20 f_19 c_21 hn_50 f_49 ty_53 ty_54 ty_55 ty_56 ty_57 ty_60 hn_68 f_67 hn_78 ty_81 c_82; omega) | omega)) ((by first | (clear ha_p0 ha_p1 hn_9 f_8 hn_20 f_19 c_21 hn_50 f_49 ty_53 ty_54 ty_55 ty_56 ty_57 ty_60 hn_68 f_67 hn_78 ty_81 c_82; omega) | omega))) dX5_bravest_221 (fun G_83 H locs eG_83 hW hS => ?_)
              have hB_G_83 : Bd G_83 := hB_G_71.putl eG_83
              have hF := hF.putl eG_83 (Or.inl (by decide))
              obtain ⟨y_84, ey_84⟩ : ∃ q, q = x_75 + 1 := ⟨_, rfl⟩
              have ty_84 : y_84.toInt = x_75.toInt + 1 := xI_add rfl rfl ey_84 ((by first | (clear ha_p0 ha_p1 hn_9 f_8 hn_20 f_19 c_21 hn_50 f_49 ty_53 ty_54 ty_55 ty_56 ty_57 ty_60 hn_68 f_67 hn_78 ty_81 c_82; omega) | omega)) ((by first | (clear ha_p0 ha_p1 hn_9 f_8 hn_20 f_19 c_21 hn_50 f_49 ty_53 ty_54 ty_55 ty_56 ty_57 ty_60 hn_68 f_67 hn_78 ty_81 c_82; omega) | omega))
              refine lv_iinc (v := y_84) (lv' := [(8, .int y_84), (5, .long y_59), (7, .int x_15), (0, .ref (a 29)), (1, .ref (a 7)), (2, .ref (a 26)), (3, .int p0), (4, .int p1)]) hx hb dX5_bravest_222 hl (k := 0) rfl (by rw [ey_84]; rfl) (lt_b rfl) rfl (fun ls hl => ?_)
              refine lv_goto (tgt := 178) hx hb dX5_bravest_225 rfl ?_
              exact ih_73 (400 - y_84.toInt : Int).toNat ((by first | (clear ha_p0 ha_p1 f_8 hn_20 f_19 c_21 f_49 ty_53 ty_54 ty_55 ty_56 ty_57 ty_60 f_67 ty_81 c_82; omega) | omega)) _ _ _ ⟨G_83, y_84, (Int.toNat_of_nonneg ((by first | (clear ha_p0 ha_p1 hn_9 f_8 hn_20 f_19 c_21 hn_50 f_49 ty_53 ty_54 ty_55 ty_56 ty_57 ty_60 hn_68 f_67 hn_78 ty_81 c_82; omega) | omega))), ⟨(by first | (clear ha_p0 ha_p1 hn_9 f_8 hn_20 f_19 c_21 hn_50 f_49 ty_53 ty_54 ty_55 ty_56 ty_57 ty_60 hn_68 f_67 hn_78 ty_81 c_82; omega) | omega), (by first | (clear ha_p0 ha_p1 hn_9 f_8 hn_20 f_19 c_21 hn_50 f_49 ty_53 ty_54 ty_55 ty_56 ty_57 ty_60 hn_68 f_67 hn_78 ty_81 c_82; omega) | omega)⟩, (hX_76.st (St_k_oBrave_2_5_mk ⟨x_75, G_71, y_84, G_83, rfl, rfl, f_77, hB_G_71, ⟨c_79, ⟨y_81, ey_81, (Or.inl ⟨c_82, ⟨y_84, ty_84, ⟨rfl, (Fr.putl (rs := [56]) (fs := []) Fr.rf eG_83 (Or.inl (by decide))), rl_ast eG_83⟩⟩⟩)⟩⟩⟩)), hW, hB_G_83, hF, (Fr.putl (rs := [56]) (fs := []) (Fr.call9 (rs := [56]) (fs := []) Fr.rf hq_72 rfl rfl) eG_83 (Or.inl (by decide))), hS, lv_sub hl [0, 1, 2, 3, 4, 5, 6, 7] rfl⟩
            · have c_82 : y_81.toInt ≠ 0 := xI_ne rfl rfl c_82
              refine lv_aload_n hx hb dX5_bravest_203 rfl (lv_at hl 3 rfl) ?_
              refine lv_aload_n hx hb dX5_bravest_204 rfl (lv_at hl 4 rfl) ?_
              refine lv_iload hx hb dX5_bravest_205 (lv_at hl 0 rfl) ?_
              refine lv_aload_n hx hb dX5_bravest_207 rfl (lv_at hl 3 rfl) ?_
              refine lv_aload_n hx hb dX5_bravest_208 rfl (lv_at hl 4 rfl) ?_
              refine lv_iload hx hb dX5_bravest_209 (lv_at hl 0 rfl) ?_
              have b_85 : 0 ≤ (G.1 7 3).toInt ∧ (G.1 7 3).toInt ≤ 60 := bd_7_3 hB_G
              have g_86 : (G_71.1 7 3).toInt = (G.1 7 3).toInt := (congrArg Int32.toInt (show G_71.1 7 3 = (G.1 7 3) from ((hq_72.i9 7 3 rfl rfl).trans ((hq_62.i9 7 3 rfl rfl).trans ((hq_44.i9 7 3 rfl rfl).trans ((hq_12.i9 7 3 rfl rfl).trans (hq_3.i9 7 3 rfl rfl)))))))
              have b_87 : 0 ≤ (G.1 7 4).toInt ∧ (G.1 7 4).toInt ≤ 60 := bd_7_4 hB_G
              have g_88 : (G_71.1 7 4).toInt = (G.1 7 4).toInt := (congrArg Int32.toInt (show G_71.1 7 4 = (G.1 7 4) from ((hq_72.i9 7 4 rfl rfl).trans ((hq_62.i9 7 4 rfl rfl).trans ((hq_44.i9 7 4 rfl rfl).trans ((hq_12.i9 7 4 rfl rfl).trans (hq_3.i9 7 4 rfl rfl)))))))
              have g_89 : (G_71.1 7 6).toInt = (G.1 7 6).toInt := (congrArg Int32.toInt (show G_71.1 7 6 = (G.1 7 6) from ((hq_72.i9 7 6 rfl rfl).trans ((hq_62.i9 7 6 rfl rfl).trans ((hq_44.i9 7 6 rfl rfl).trans ((hq_12.i9 7 6 rfl rfl).trans ((hq_3.i9 7 6 rfl rfl).trans (rfl))))))))
              have b_90 : 0 ≤ (G.1 7 7).toInt ∧ (G.1 7 7).toInt ≤ 400 := bd_7_7 hB_G
              have g_91 : (G_71.1 7 7).toInt = (G.1 7 7).toInt := (congrArg Int32.toInt (show G_71.1 7 7 = (G.1 7 7) from ((hq_72.i9 7 7 rfl rfl).trans ((hq_62.i9 7 7 rfl rfl).trans ((hq_44.i9 7 7 rfl rfl).trans ((hq_12.i9 7 7 rfl rfl).trans (hq_3.i9 7 7 rfl rfl)))))))
              refine S_calli (va_runV (As := [.ref (a 7), .int x_75]) (rest := [.int x_75, .ref (a 7), .ref (a 29), .int x_75, .ref (a 56)]) ⟨hx, hb, hml, hown, hts⟩ (k_oBest l D k A a z G_71 x_75 ⟨(by first | (clear ha_p0 ha_p1 hn_9 f_8 hn_20 f_19 c_21 hn_50 f_49 ty_53 ty_54 ty_55 ty_56 ty_57 ty_60 hn_68 f_67 hn_78 ty_81 c_82 b_85 b_87 b_90; omega) | omega), (by first | (clear ha_p0 ha_p1 hn_9 f_8 hn_20 f_19 c_21 hn_50 f_49 ty_53 ty_54 ty_55 ty_56 ty_57 ty_60 hn_68 f_67 hn_78 ty_81 c_82 b_85 b_87 b_90; omega) | omega)⟩ ((by first | exact ⟨((by first | (clear ha_p0 ha_p1 hn_9 hn_20 f_19 c_21 hn_50 ty_53 ty_54 ty_55 ty_56 ty_57 ty_60 hn_68 hn_78 ty_81 c_82; omega) | omega)), ⟨((by first | (clear ha_p0 ha_p1 hn_9 f_8 hn_20 f_19 c_21 hn_50 f_49 ty_53 ty_54 ty_55 ty_56 ty_57 ty_60 hn_68 f_67 hn_78 f_77 ty_81 c_82; omega) | omega)), ((by first | (clear ha_p0 ha_p1 hn_9 hn_20 f_19 c_21 hn_50 ty_53 ty_54 ty_55 ty_56 ty_57 ty_60 hn_68 hn_78 ty_81 c_82; omega) | omega))⟩⟩ | omega))) (cwV 2 hts (gd_V hgd m1126 m1128 m39 m126 m1129) rfl rfl rfl hd_X5_bestStep ⟨Nat.le_of_ble_eq_true rfl, Nat.le_of_ble_eq_true rfl⟩) (pre_W hW hB_G_71 hK hZ hS kd_29 rfl) rfl rfl hl.1 rfl (lv_room (Nat.le_of_ble_eq_true rfl)) dX5_bravest_211 ⟨Nat.le_of_ble_eq_true rfl, Nat.le_of_ble_eq_true rfl⟩) hS (fun r_92 G_93 H locs hpo hW hS => ?_)
              have hX_96 : P_oBest x_75 G_71 r_92 G_93 := hpo
              obtain ⟨hB_G_93, hq_94, f_97, -⟩ := hpo
              have hF := hF.call9 hq_94 rfl rfl
              have g_98 : (G_93.1 7 3).toInt = (G.1 7 3).toInt := (congrArg Int32.toInt (show G_93.1 7 3 = (G.1 7 3) from ((hq_94.i9 7 3 rfl rfl).trans ((hq_72.i9 7 3 rfl rfl).trans ((hq_62.i9 7 3 rfl rfl).trans ((hq_44.i9 7 3 rfl rfl).trans ((hq_12.i9 7 3 rfl rfl).trans ((hq_3.i9 7 3 rfl rfl).trans (rfl)))))))))
              have g_99 : (G_93.1 7 4).toInt = (G.1 7 4).toInt := (congrArg Int32.toInt (show G_93.1 7 4 = (G.1 7 4) from ((hq_94.i9 7 4 rfl rfl).trans ((hq_72.i9 7 4 rfl rfl).trans ((hq_62.i9 7 4 rfl rfl).trans ((hq_44.i9 7 4 rfl rfl).trans ((hq_12.i9 7 4 rfl rfl).trans ((hq_3.i9 7 4 rfl rfl).trans (rfl)))))))))
              have g_100 : (G_93.1 7 6).toInt = (G.1 7 6).toInt := (congrArg Int32.toInt (show G_93.1 7 6 = (G.1 7 6) from ((hq_94.i9 7 6 rfl rfl).trans ((hq_72.i9 7 6 rfl rfl).trans ((hq_62.i9 7 6 rfl rfl).trans ((hq_44.i9 7 6 rfl rfl).trans ((hq_12.i9 7 6 rfl rfl).trans ((hq_3.i9 7 6 rfl rfl).trans (rfl)))))))))
              have g_101 : (G_93.1 7 7).toInt = (G.1 7 7).toInt := (congrArg Int32.toInt (show G_93.1 7 7 = (G.1 7 7) from ((hq_94.i9 7 7 rfl rfl).trans ((hq_72.i9 7 7 rfl rfl).trans ((hq_62.i9 7 7 rfl rfl).trans ((hq_44.i9 7 7 rfl rfl).trans ((hq_12.i9 7 7 rfl rfl).trans ((hq_3.i9 7 7 rfl rfl).trans (rfl)))))))))
              refine S_calll (va_runV (As := [.ref (a 7), .int x_75, .int r_92]) (rest := [.int x_75, .ref (a 56)]) ⟨hx, hb, hml, hown, hts⟩ (k_oAim l D k A a z G_93 x_75 r_92 ⟨(by first | (clear ha_p0 ha_p1 hn_9 f_8 hn_20 f_19 c_21 hn_50 f_49 ty_53 ty_54 ty_55 ty_56 ty_57 ty_60 hn_68 f_67 hn_78 ty_81 c_82 b_85 b_87 b_90 f_97; omega) | omega), (by first | (clear ha_p0 ha_p1 hn_9 f_8 hn_20 f_19 c_21 hn_50 f_49 ty_53 ty_54 ty_55 ty_56 ty_57 ty_60 hn_68 f_67 hn_78 ty_81 c_82 b_85 b_87 b_90 f_97; omega) | omega)⟩ ⟨(by first | (clear ha_p0 ha_p1 hci b_1 hn_9 f_8 c_10 hn_20 f_19 c_21 ty_42 hn_50 f_49 ty_51 c_52 ty_53 ty_54 ty_55 ty_56 ty_57 ty_60 hn_68 f_67 ty_69 c_70 hn_78 f_77 c_79 ty_81 c_82 b_85 g_86 b_87 g_88 g_89 b_90 g_91 g_98 g_99 g_100 g_101; omega) | omega), (by first | (clear ha_p0 ha_p1 hci b_1 hn_9 f_8 c_10 hn_20 f_19 c_21 ty_42 hn_50 f_49 ty_51 c_52 ty_53 ty_54 ty_55 ty_56 ty_57 ty_60 hn_68 f_67 ty_69 c_70 hn_78 f_77 c_79 ty_81 c_82 b_85 g_86 b_87 g_88 g_89 b_90 g_91 g_98 g_99 g_100 g_101; omega) | omega)⟩ ((by first | exact ⟨((by first | (clear ha_p0 ha_p1 hn_9 hn_20 f_19 c_21 hn_50 ty_53 ty_54 ty_55 ty_56 ty_57 ty_60 hn_68 hn_78 ty_81 c_82 f_97; omega) | omega)), ⟨((by first | (clear ha_p0 ha_p1 hn_9 f_8 hn_20 f_19 c_21 hn_50 f_49 ty_53 ty_54 ty_55 ty_56 ty_57 ty_60 hn_68 f_67 hn_78 f_77 ty_81 c_82 f_97; omega) | omega)), ((by first | (clear ha_p0 ha_p1 hn_9 hn_20 f_19 c_21 hn_50 ty_53 ty_54 ty_55 ty_56 ty_57 ty_60 hn_68 hn_78 ty_81 c_82 f_97; omega) | omega))⟩⟩ | omega))) (cwV 3 hts (gd_V hgd m1130 m1132 m40 m126 m1133) rfl rfl rfl hd_X5_aimFrom ⟨Nat.le_of_ble_eq_true rfl, Nat.le_of_ble_eq_true rfl⟩) (pre_W hW hB_G_93 hK hZ hS kd_29 rfl) rfl rfl hl.1 rfl (lv_room (Nat.le_of_ble_eq_true rfl)) dX5_bravest_214 ⟨Nat.le_of_ble_eq_true rfl, Nat.le_of_ble_eq_true rfl⟩) hS (fun r_102 G_103 H locs hpo hW hS => ?_)
              have hX_106 : P_oAim x_75 r_92 G_93 r_102 G_103 := hpo
              obtain ⟨hB_G_103, hq_104, -⟩ := hpo
              have hF := hF.call9 hq_104 rfl rfl
              refine lv_goto (tgt := 221) hx hb dX5_bravest_217 rfl ?_
              refine S_last hx hb hK hW hS kd_56 (vin ((by first | (clear ha_p0 ha_p1 hn_9 f_8 hn_20 f_19 c_21 hn_50 f_49 ty_53 ty_54 ty_55 ty_56 ty_57 ty_60 hn_68 f_67 hn_78 ty_81 c_82 b_85 b_87 b_90 f_97; omega) | omega)) ((by first | (clear ha_p0 ha_p1 hn_9 f_8 hn_20 f_19 c_21 hn_50 f_49 ty_53 ty_54 ty_55 ty_56 ty_57 ty_60 hn_68 f_67 hn_78 ty_81 c_82 b_85 b_87 b_90 f_97; omega) | omega))) dX5_bravest_221 (fun G_107 H locs eG_107 hW hS => ?_)
              have hB_G_107 : Bd G_107 := hB_G_103.putl eG_107
              have hF := hF.putl eG_107 (Or.inl (by decide))
              obtain ⟨y_108, ey_108⟩ : ∃ q, q = x_75 + 1 := ⟨_, rfl⟩
              have ty_108 : y_108.toInt = x_75.toInt + 1 := xI_add rfl rfl ey_108 ((by first | (clear ha_p0 ha_p1 hn_9 f_8 hn_20 f_19 c_21 hn_50 f_49 ty_53 ty_54 ty_55 ty_56 ty_57 ty_60 hn_68 f_67 hn_78 ty_81 c_82 b_85 b_87 b_90 f_97; omega) | omega)) ((by first | (clear ha_p0 ha_p1 hn_9 f_8 hn_20 f_19 c_21 hn_50 f_49 ty_53 ty_54 ty_55 ty_56 ty_57 ty_60 hn_68 f_67 hn_78 ty_81 c_82 b_85 b_87 b_90 f_97; omega) | omega))
              refine lv_iinc (v := y_108) (lv' := [(8, .int y_108), (5, .long y_59), (7, .int x_15), (0, .ref (a 29)), (1, .ref (a 7)), (2, .ref (a 26)), (3, .int p0), (4, .int p1)]) hx hb dX5_bravest_222 hl (k := 0) rfl (by rw [ey_108]; rfl) (lt_b rfl) rfl (fun ls hl => ?_)
              refine lv_goto (tgt := 178) hx hb dX5_bravest_225 rfl ?_
              exact ih_73 (400 - y_108.toInt : Int).toNat ((by first | (clear ha_p0 ha_p1 f_8 hn_20 f_19 c_21 f_49 ty_53 ty_54 ty_55 ty_56 ty_57 ty_60 f_67 ty_81 c_82 b_85 b_87 b_90 f_97; omega) | omega)) _ _ _ ⟨G_107, y_108, (Int.toNat_of_nonneg ((by first | (clear ha_p0 ha_p1 hn_9 f_8 hn_20 f_19 c_21 hn_50 f_49 ty_53 ty_54 ty_55 ty_56 ty_57 ty_60 hn_68 f_67 hn_78 ty_81 c_82 b_85 b_87 b_90 f_97; omega) | omega))), ⟨(by first | (clear ha_p0 ha_p1 hn_9 f_8 hn_20 f_19 c_21 hn_50 f_49 ty_53 ty_54 ty_55 ty_56 ty_57 ty_60 hn_68 f_67 hn_78 ty_81 c_82 b_85 b_87 b_90 f_97; omega) | omega), (by first | (clear ha_p0 ha_p1 hn_9 f_8 hn_20 f_19 c_21 hn_50 f_49 ty_53 ty_54 ty_55 ty_56 ty_57 ty_60 hn_68 f_67 hn_78 ty_81 c_82 b_85 b_87 b_90 f_97; omega) | omega)⟩, (hX_76.st (St_k_oBrave_2_5_mk ⟨x_75, G_71, y_108, G_107, rfl, rfl, f_77, hB_G_71, ⟨c_79, ⟨y_81, ey_81, (Or.inr ⟨c_82, ⟨r_92, G_93, hX_96, ⟨r_102, G_103, hX_106, ⟨y_108, ty_108, ⟨rfl, (Fr.putl (rs := [56]) (fs := []) Fr.rf eG_107 (Or.inl (by decide))), rl_ast eG_107⟩⟩⟩⟩⟩)⟩⟩⟩)), hW, hB_G_107, hF, (Fr.putl (rs := [56]) (fs := []) (Fr.call9 (rs := [56]) (fs := []) (Fr.call9 (rs := [56]) (fs := []) (Fr.call9 (rs := [56]) (fs := []) Fr.rf hq_72 rfl rfl) hq_94 rfl rfl) hq_104 rfl rfl) eG_107 (Or.inl (by decide))), hS, lv_sub hl [0, 1, 2, 3, 4, 5, 6, 7] rfl⟩
        · have c_70 : x_65.toInt ≤ y_69.toInt := xI_nlt rfl rfl c_70
          refine lv_aload_n hx hb dX5_bravest_120 rfl (lv_at hl 3 rfl) ?_
          refine S_getR (n := 57) (C := RX5) (T := TX5) (N := 7) hx hb hg iX5 hown hK hW kd_29 rfl 5 (lt_b rfl) (hg (Cond.fieldLink RX5 27 "SlabWalk$Odds" "aims" "[J") m469) (fun _ h9 => h9) rfl dX5_bravest_121 ?_
          refine lv_iload hx hb dX5_bravest_124 (lv_at hl 0 rfl) ?_
          refine lv_aload_n hx hb dX5_bravest_126 rfl (lv_at hl 5 rfl) ?_
          refine ic_0 hx hb dX5_bravest_127 ?_
          refine S_iald hx hb hK hW kd_26 (vin (by decide) (by decide)) dX5_bravest_128 (fun y_109 ey_109 => ?_)
          have ty_109 : 0 ≤ y_109.toInt ∧ y_109.toInt ≤ 9 := bv_26 hB_G_61 ey_109
          refine lv_i2l hx hb dX5_bravest_129 rfl ?_
          refine lv_topl (fun y_110 ey_110 => ?_)
          refine lv_aload_n hx hb dX5_bravest_130 rfl (lv_at hl 3 rfl) ?_
          refine S_getR (n := 56) (C := RX5) (T := TX5) (N := 7) hx hb hg iX5 hown hK hW kd_29 rfl 4 (lt_b rfl) (hg (Cond.fieldLink RX5 24 "SlabWalk$Odds" "odds" "[J") m468) (fun _ h9 => h9) rfl dX5_bravest_131 ?_
          refine lv_iload hx hb dX5_bravest_134 (lv_at hl 0 rfl) ?_
          refine ic_1 hx hb dX5_bravest_136 ?_
          refine lv_isub hx hb dX5_bravest_137 ?_
          refine lv_topi (fun y_111 ey_111 => ?_)
          have ty_111 : y_111.toInt = x_65.toInt - 1 := xI_sub rfl rfl ey_111 ((by first | (clear ha_p0 ha_p1 hn_9 f_8 hn_20 f_19 c_21 hn_50 f_49 ty_53 ty_54 ty_55 ty_56 ty_57 ty_60 hn_68 ty_109; omega) | omega)) ((by first | (clear ha_p0 ha_p1 hn_9 f_8 hn_20 f_19 c_21 hn_50 f_49 ty_53 ty_54 ty_55 ty_56 ty_57 ty_60 hn_68 ty_109; omega) | omega))
          refine S_lald hx hb hK hW kd_56 (vin ((by first | (clear ha_p0 ha_p1 hn_9 f_8 hn_20 f_19 c_21 hn_50 f_49 ty_53 ty_54 ty_55 ty_56 ty_57 ty_60 hn_68 ty_109; omega) | omega)) ((by first | (clear ha_p0 ha_p1 hn_9 f_8 hn_20 f_19 c_21 hn_50 f_49 ty_53 ty_54 ty_55 ty_56 ty_57 ty_60 hn_68 ty_109; omega) | omega))) dX5_bravest_138 (fun y_112 ey_112 => ?_)
          refine lv_lmul hx hb dX5_bravest_139 ?_
          refine lv_topl (fun y_113 ey_113 => ?_)
          refine lv_aload_n hx hb dX5_bravest_140 rfl (lv_at hl 5 rfl) ?_
          refine ic_1 hx hb dX5_bravest_141 ?_
          refine S_iald hx hb hK hW kd_26 (vin (by decide) (by decide)) dX5_bravest_142 (fun y_114 ey_114 => ?_)
          have ty_114 : 0 ≤ y_114.toInt ∧ y_114.toInt ≤ 9 := bv_26 hB_G_61 ey_114
          refine lv_i2l hx hb dX5_bravest_143 rfl ?_
          refine lv_topl (fun y_115 ey_115 => ?_)
          refine lv_aload_n hx hb dX5_bravest_144 rfl (lv_at hl 3 rfl) ?_
          refine S_getR (n := 56) (C := RX5) (T := TX5) (N := 7) hx hb hg iX5 hown hK hW kd_29 rfl 4 (lt_b rfl) (hg (Cond.fieldLink RX5 24 "SlabWalk$Odds" "odds" "[J") m468) (fun _ h9 => h9) rfl dX5_bravest_145 ?_
          refine lv_iload hx hb dX5_bravest_148 (lv_at hl 0 rfl) ?_
          refine S_lald hx hb hK hW kd_56 (vin ((by first | (clear ha_p0 ha_p1 hn_9 f_8 hn_20 f_19 c_21 hn_50 f_49 ty_53 ty_54 ty_55 ty_56 ty_57 ty_60 hn_68 ty_109 ty_114; omega) | omega)) ((by first | (clear ha_p0 ha_p1 hn_9 f_8 hn_20 f_19 c_21 hn_50 f_49 ty_53 ty_54 ty_55 ty_56 ty_57 ty_60 hn_68 ty_109 ty_114; omega) | omega))) dX5_bravest_150 (fun y_116 ey_116 => ?_)
          refine lv_lmul hx hb dX5_bravest_151 ?_
          refine lv_topl (fun y_117 ey_117 => ?_)
          refine lv_ladd hx hb dX5_bravest_152 ?_
          refine lv_topl (fun y_118 ey_118 => ?_)
          refine lv_aload_n hx hb dX5_bravest_153 rfl (lv_at hl 5 rfl) ?_
          refine ic_2 hx hb dX5_bravest_154 ?_
          refine S_iald hx hb hK hW kd_26 (vin (by decide) (by decide)) dX5_bravest_155 (fun y_119 ey_119 => ?_)
          have ty_119 : 0 ≤ y_119.toInt ∧ y_119.toInt ≤ 9 := bv_26 hB_G_61 ey_119
          refine lv_i2l hx hb dX5_bravest_156 rfl ?_
          refine lv_topl (fun y_120 ey_120 => ?_)
          refine lv_aload_n hx hb dX5_bravest_157 rfl (lv_at hl 3 rfl) ?_
          refine S_getR (n := 56) (C := RX5) (T := TX5) (N := 7) hx hb hg iX5 hown hK hW kd_29 rfl 4 (lt_b rfl) (hg (Cond.fieldLink RX5 24 "SlabWalk$Odds" "odds" "[J") m468) (fun _ h9 => h9) rfl dX5_bravest_158 ?_
          refine lv_iload hx hb dX5_bravest_161 (lv_at hl 0 rfl) ?_
          refine ic_1 hx hb dX5_bravest_163 ?_
          refine lv_iadd hx hb dX5_bravest_164 ?_
          refine lv_topi (fun y_121 ey_121 => ?_)
          have ty_121 : y_121.toInt = x_65.toInt + 1 := xI_add rfl rfl ey_121 ((by first | (clear ha_p0 ha_p1 hn_9 f_8 hn_20 f_19 c_21 hn_50 f_49 ty_53 ty_54 ty_55 ty_56 ty_57 ty_60 hn_68 ty_109 ty_114 ty_119; omega) | omega)) ((by first | (clear ha_p0 ha_p1 hn_9 f_8 hn_20 f_19 c_21 hn_50 f_49 ty_53 ty_54 ty_55 ty_56 ty_57 ty_60 hn_68 ty_109 ty_114 ty_119; omega) | omega))
          refine S_lald hx hb hK hW kd_56 (vin ((by first | (clear ha_p0 ha_p1 hn_9 f_8 hn_20 f_19 c_21 hn_50 f_49 ty_53 ty_54 ty_55 ty_56 ty_57 ty_60 hn_68 ty_109 ty_114 ty_119; omega) | omega)) ((by first | (clear ha_p0 ha_p1 hn_9 f_8 hn_20 f_19 c_21 hn_50 f_49 ty_53 ty_54 ty_55 ty_56 ty_57 ty_60 hn_68 ty_109 ty_114 ty_119; omega) | omega))) dX5_bravest_165 (fun y_122 ey_122 => ?_)
          refine lv_lmul hx hb dX5_bravest_166 ?_
          refine lv_topl (fun y_123 ey_123 => ?_)
          refine lv_ladd hx hb dX5_bravest_167 ?_
          refine lv_topl (fun y_124 ey_124 => ?_)
          refine S_last hx hb hK hW hS kd_57 (vin ((by first | (clear ha_p0 ha_p1 hn_9 f_8 hn_20 f_19 c_21 hn_50 f_49 ty_53 ty_54 ty_55 ty_56 ty_57 ty_60 hn_68 ty_109 ty_114 ty_119; omega) | omega)) ((by first | (clear ha_p0 ha_p1 hn_9 f_8 hn_20 f_19 c_21 hn_50 f_49 ty_53 ty_54 ty_55 ty_56 ty_57 ty_60 hn_68 ty_109 ty_114 ty_119; omega) | omega))) dX5_bravest_168 (fun G_125 H locs eG_125 hW hS => ?_)
          have hB_G_125 : Bd G_125 := hB_G_61.putl eG_125
          have hF := hF.putl eG_125 (Or.inl (by decide))
          obtain ⟨y_126, ey_126⟩ : ∃ q, q = x_65 + 1 := ⟨_, rfl⟩
          have ty_126 : y_126.toInt = x_65.toInt + 1 := xI_add rfl rfl ey_126 ((by first | (clear ha_p0 ha_p1 hn_9 f_8 hn_20 f_19 c_21 hn_50 f_49 ty_53 ty_54 ty_55 ty_56 ty_57 ty_60 hn_68 ty_109 ty_114 ty_119; omega) | omega)) ((by first | (clear ha_p0 ha_p1 hn_9 f_8 hn_20 f_19 c_21 hn_50 f_49 ty_53 ty_54 ty_55 ty_56 ty_57 ty_60 hn_68 ty_109 ty_114 ty_119; omega) | omega))
          refine lv_iinc (v := y_126) (lv' := [(8, .int y_126), (5, .long y_59), (7, .int x_15), (0, .ref (a 29)), (1, .ref (a 7)), (2, .ref (a 26)), (3, .int p0), (4, .int p1)]) hx hb dX5_bravest_169 hl (k := 0) rfl (by rw [ey_126]; rfl) (lt_b rfl) rfl (fun ls hl => ?_)
          refine lv_goto (tgt := 109) hx hb dX5_bravest_172 rfl ?_
          exact ih_63 (402 - y_126.toInt : Int).toNat ((by first | (clear ha_p0 ha_p1 f_8 hn_20 f_19 c_21 f_49 ty_53 ty_54 ty_55 ty_56 ty_57 ty_60 ty_109 ty_114 ty_119; omega) | omega)) _ _ _ ⟨G_125, y_126, (Int.toNat_of_nonneg ((by first | (clear ha_p0 ha_p1 hn_9 f_8 hn_20 f_19 c_21 hn_50 f_49 ty_53 ty_54 ty_55 ty_56 ty_57 ty_60 hn_68 ty_109 ty_114 ty_119; omega) | omega))), ⟨(by first | (clear ha_p0 ha_p1 hn_9 f_8 hn_20 f_19 c_21 hn_50 f_49 ty_53 ty_54 ty_55 ty_56 ty_57 ty_60 hn_68 ty_109 ty_114 ty_119; omega) | omega), (by first | (clear ha_p0 ha_p1 hn_9 f_8 hn_20 f_19 c_21 hn_50 f_49 ty_53 ty_54 ty_55 ty_56 ty_57 ty_60 hn_68 ty_109 ty_114 ty_119; omega) | omega)⟩, (hX_66.st (St_k_oBrave_2_4_mk ⟨x_65, G_61, y_126, G_125, rfl, rfl, f_67, hB_G_61, ⟨y_69, ty_69, ⟨c_70, ⟨y_109, ey_109, ⟨y_110, ey_110, ⟨y_111, ty_111, ⟨y_112, ey_112, ⟨y_113, ey_113, ⟨y_114, ey_114, ⟨y_115, ey_115, ⟨y_116, ey_116, ⟨y_117, ey_117, ⟨y_118, ey_118, ⟨y_119, ey_119, ⟨y_120, ey_120, ⟨y_121, ty_121, ⟨y_122, ey_122, ⟨y_123, ey_123, ⟨y_124, ey_124, ⟨y_126, ty_126, ⟨rfl, (Fr.putl (rs := [57]) (fs := []) Fr.rf eG_125 (Or.inl (by decide))), rl_ast eG_125⟩⟩⟩⟩⟩⟩⟩⟩⟩⟩⟩⟩⟩⟩⟩⟩⟩⟩⟩⟩⟩)), hW, hB_G_125, hF, (Fr.putl (rs := [57]) (fs := []) (Fr.call9 (rs := [57]) (fs := []) Fr.rf hq_62 rfl rfl) eG_125 (Or.inl (by decide))), hS, lv_sub hl [0, 1, 2, 3, 4, 5, 6, 7] rfl⟩
      · have c_52 : x_47.toInt ≤ y_51.toInt := xI_nlt rfl rfl c_52
        refine lv_aload_n hx hb dX5_bravest_72 rfl (lv_at hl 3 rfl) ?_
        refine S_getR (n := 56) (C := RX5) (T := TX5) (N := 7) hx hb hg iX5 hown hK hW kd_29 rfl 4 (lt_b rfl) (hg (Cond.fieldLink RX5 24 "SlabWalk$Odds" "odds" "[J") m468) (fun _ h9 => h9) rfl dX5_bravest_73 ?_
        refine lv_iload hx hb dX5_bravest_76 (lv_at hl 0 rfl) ?_
        refine lv_lload hx hb dX5_bravest_78 (lv_at hl 2 rfl) ?_
        refine S_last hx hb hK hW hS kd_56 (vin ((by first | (clear ha_p0 ha_p1 hn_9 f_8 hn_20 f_19 c_21 hn_50; omega) | omega)) ((by first | (clear ha_p0 ha_p1 hn_9 f_8 hn_20 f_19 c_21 hn_50; omega) | omega))) dX5_bravest_80 (fun G_127 H locs eG_127 hW hS => ?_)
        have hB_G_127 : Bd G_127 := hB_G_43.putl eG_127
        have hF := hF.putl eG_127 (Or.inl (by decide))
        obtain ⟨y_128, ey_128⟩ : ∃ q, q = x_47 + 1 := ⟨_, rfl⟩
        have ty_128 : y_128.toInt = x_47.toInt + 1 := xI_add rfl rfl ey_128 ((by first | (clear ha_p0 ha_p1 hn_9 f_8 hn_20 f_19 c_21 hn_50; omega) | omega)) ((by first | (clear ha_p0 ha_p1 hn_9 f_8 hn_20 f_19 c_21 hn_50; omega) | omega))
        refine lv_iinc (v := y_128) (lv' := [(8, .int y_128), (7, .int x_15), (5, .long x_16), (0, .ref (a 29)), (1, .ref (a 7)), (2, .ref (a 26)), (3, .int p0), (4, .int p1)]) hx hb dX5_bravest_81 hl (k := 0) rfl (by rw [ey_128]; rfl) (lt_b rfl) rfl (fun ls hl => ?_)
        refine lv_goto (tgt := 61) hx hb dX5_bravest_84 rfl ?_
        exact ih_45 (403 - y_128.toInt : Int).toNat ((by first | (clear ha_p0 ha_p1 f_8 hn_20 f_19 c_21; omega) | omega)) _ _ _ ⟨G_127, y_128, (Int.toNat_of_nonneg ((by first | (clear ha_p0 ha_p1 hn_9 f_8 hn_20 f_19 c_21 hn_50; omega) | omega))), ⟨(by first | (clear ha_p0 ha_p1 hn_9 f_8 hn_20 f_19 c_21 hn_50; omega) | omega), (by first | (clear ha_p0 ha_p1 hn_9 f_8 hn_20 f_19 c_21 hn_50; omega) | omega)⟩, (hX_48.st (St_k_oBrave_2_3_mk ⟨x_47, G_43, y_128, G_127, rfl, rfl, f_49, hB_G_43, ⟨y_51, ty_51, ⟨c_52, ⟨y_128, ty_128, ⟨rfl, (Fr.putl (rs := [56]) (fs := []) Fr.rf eG_127 (Or.inl (by decide))), rl_ast eG_127⟩⟩⟩⟩⟩)), hW, hB_G_127, hF, (Fr.putl (rs := [56]) (fs := []) (Fr.call9 (rs := [56]) (fs := []) Fr.rf hq_44 rfl rfl) eG_127 (Or.inl (by decide))), hS, lv_sub hl [0, 1, 2, 3, 4, 5, 6, 7] rfl⟩
  · have c_10 : x_6.toInt ≤ (G.1 7 6).toInt := xI_nlt rfl rfl c_10
    refine lv_aload_n hx hb dX5_bravest_15 rfl (lv_at hl 2 rfl) ?_
    refine S_getR (n := 56) (C := RX5) (T := TX5) (N := 7) hx hb hg iX5 hown hK hW kd_29 rfl 4 (lt_b rfl) (hg (Cond.fieldLink RX5 24 "SlabWalk$Odds" "odds" "[J") m468) (fun _ h9 => h9) rfl dX5_bravest_16 ?_
    refine lv_iload hx hb dX5_bravest_19 (lv_at hl 0 rfl) ?_
    refine lv_aload_n hx hb dX5_bravest_21 rfl (lv_at hl 3 rfl) ?_
    refine S_getR (n := 40) (C := RX0) (T := TX0) (N := 8) hx hb hg iX0 hown hK hW kd_7 rfl 0 (lt_b rfl) (hg (Cond.fieldLink RX5 36 "SlabWalk$Course" "lawful" "[Z") m372) (fun _ h9 => h9) rfl dX5_bravest_22 ?_
    refine lv_iload hx hb dX5_bravest_25 (lv_at hl 0 rfl) ?_
    refine S_zald hx hb hK hW kd_40 (vin ((by first | (clear ha_p0 ha_p1 hn_9; omega) | omega)) ((by first | (clear ha_p0 ha_p1 hn_9; omega) | omega))) dX5_bravest_27 (fun y_129 ey_129 => ?_)
    have ty_129 : 0 ≤ y_129.toInt ∧ y_129.toInt ≤ 1 := bv_40 hB_G_2 ey_129
    refine lv_if_eq (tgt := 35) hx hb dX5_bravest_28 rfl (fun c_130 => ?_) (fun c_130 => ?_)
    · have c_130 : y_129.toInt = 0 := xI_eq rfl rfl c_130
      refine lv_lconst (v := 0) hx hb dX5_bravest_35 (by decide) ?_
      refine S_last hx hb hK hW hS kd_56 (vin ((by first | (clear ha_p0 ha_p1 hn_9 ty_129 c_130; omega) | omega)) ((by first | (clear ha_p0 ha_p1 hn_9 ty_129 c_130; omega) | omega))) dX5_bravest_36 (fun G_131 H locs eG_131 hW hS => ?_)
      have hB_G_131 : Bd G_131 := hB_G_2.putl eG_131
      have hF := hF.putl eG_131 (Or.inl (by decide))
      obtain ⟨y_132, ey_132⟩ : ∃ q, q = x_6 + 1 := ⟨_, rfl⟩
      have ty_132 : y_132.toInt = x_6.toInt + 1 := xI_add rfl rfl ey_132 ((by first | (clear ha_p0 ha_p1 hn_9 ty_129 c_130; omega) | omega)) ((by first | (clear ha_p0 ha_p1 hn_9 ty_129 c_130; omega) | omega))
      refine lv_iinc (v := y_132) (lv' := [(7, .int y_132), (5, .long 1), (0, .ref (a 29)), (1, .ref (a 7)), (2, .ref (a 26)), (3, .int p0), (4, .int p1)]) hx hb dX5_bravest_37 hl (k := 0) rfl (by rw [ey_132]; rfl) (lt_b rfl) rfl (fun ls hl => ?_)
      refine lv_goto (tgt := 6) hx hb dX5_bravest_40 rfl ?_
      exact ih_4 (400 - y_132.toInt : Int).toNat ((by first | (clear ha_p0 ha_p1 ty_129 c_130; omega) | omega)) _ _ _ ⟨G_131, y_132, (Int.toNat_of_nonneg ((by first | (clear ha_p0 ha_p1 hn_9 ty_129 c_130; omega) | omega))), ⟨(by first | (clear ha_p0 ha_p1 hn_9 ty_129 c_130; omega) | omega), (by first | (clear ha_p0 ha_p1 hn_9 ty_129 c_130; omega) | omega)⟩, (hX_7.st (St_k_oBrave_2_1_mk ⟨x_6, G_2, y_132, G_131, rfl, rfl, f_8, hB_G_2, ⟨c_10, ⟨y_129, ey_129, (Or.inl ⟨c_130, ⟨y_132, ty_132, ⟨rfl, (Fr.putl (rs := [56]) (fs := []) Fr.rf eG_131 (Or.inl (by decide))), rl_ast eG_131⟩⟩⟩)⟩⟩⟩)), hW, hB_G_131, hF, (Fr.putl (rs := [56]) (fs := []) (Fr.call9 (rs := [56]) (fs := []) Fr.rf hq_3 rfl rfl) eG_131 (Or.inl (by decide))), hS, lv_sub hl [0, 1, 2, 3, 4, 5, 6] rfl⟩
    · have c_130 : y_129.toInt ≠ 0 := xI_ne rfl rfl c_130
      refine lv_lconst (v := 1) hx hb dX5_bravest_31 (by decide) ?_
      refine lv_goto (tgt := 36) hx hb dX5_bravest_32 rfl ?_
      refine S_last hx hb hK hW hS kd_56 (vin ((by first | (clear ha_p0 ha_p1 hn_9 ty_129 c_130; omega) | omega)) ((by first | (clear ha_p0 ha_p1 hn_9 ty_129 c_130; omega) | omega))) dX5_bravest_36 (fun G_133 H locs eG_133 hW hS => ?_)
      have hB_G_133 : Bd G_133 := hB_G_2.putl eG_133
      have hF := hF.putl eG_133 (Or.inl (by decide))
      obtain ⟨y_134, ey_134⟩ : ∃ q, q = x_6 + 1 := ⟨_, rfl⟩
      have ty_134 : y_134.toInt = x_6.toInt + 1 := xI_add rfl rfl ey_134 ((by first | (clear ha_p0 ha_p1 hn_9 ty_129 c_130; omega) | omega)) ((by first | (clear ha_p0 ha_p1 hn_9 ty_129 c_130; omega) | omega))
      refine lv_iinc (v := y_134) (lv' := [(7, .int y_134), (5, .long 1), (0, .ref (a 29)), (1, .ref (a 7)), (2, .ref (a 26)), (3, .int p0), (4, .int p1)]) hx hb dX5_bravest_37 hl (k := 0) rfl (by rw [ey_134]; rfl) (lt_b rfl) rfl (fun ls hl => ?_)
      refine lv_goto (tgt := 6) hx hb dX5_bravest_40 rfl ?_
      exact ih_4 (400 - y_134.toInt : Int).toNat ((by first | (clear ha_p0 ha_p1 ty_129 c_130; omega) | omega)) _ _ _ ⟨G_133, y_134, (Int.toNat_of_nonneg ((by first | (clear ha_p0 ha_p1 hn_9 ty_129 c_130; omega) | omega))), ⟨(by first | (clear ha_p0 ha_p1 hn_9 ty_129 c_130; omega) | omega), (by first | (clear ha_p0 ha_p1 hn_9 ty_129 c_130; omega) | omega)⟩, (hX_7.st (St_k_oBrave_2_1_mk ⟨x_6, G_2, y_134, G_133, rfl, rfl, f_8, hB_G_2, ⟨c_10, ⟨y_129, ey_129, (Or.inr ⟨c_130, ⟨y_134, ty_134, ⟨rfl, (Fr.putl (rs := [56]) (fs := []) Fr.rf eG_133 (Or.inl (by decide))), rl_ast eG_133⟩⟩⟩)⟩⟩⟩)), hW, hB_G_133, hF, (Fr.putl (rs := [56]) (fs := []) (Fr.call9 (rs := [56]) (fs := []) Fr.rf hq_3 rfl rfl) eG_133 (Or.inl (by decide))), hS, lv_sub hl [0, 1, 2, 3, 4, 5, 6] rfl⟩
