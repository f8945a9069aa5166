theorem m2063 : Cond.methodLink RX12 599 yX12_common ∈ gd := gdc_9_1 11 rfl gw_methodLink
theorem m2064 : Cond.static yX12_common ∈ gd := gdc_9_1 12 rfl gw_static
theorem m2065 : Cond.code yX12_common cX12_common 10 (some .long) ∈ gd := gdc_9_1 13 rfl gw_code
def rbX12_chance_0 : List (Nat × List Nat) := [(0, [42]), (1, [27]), (2, [182, 2, 75]), (5, [153, 0, 12]), (8, [28]), (9, [3]), (10, [4]), (11, [184, 1, 193]), (14, [154, 0, 7]), (17, [20, 2, 5]), (20, [173]), (21, [10]), (22, [55, 4]), (24, [10]), (25, [55, 6]), (27, [3]), (28, [54, 8]), (30, [21, 8]), (32, [42]), (33, [180, 1, 187]), (36, [162, 0, 126]), (39, [42]), (40, [21, 8]), (42, [29])]
theorem rcX12_chance_0 : dgo (lb cX12_chance) 0 rbX12_chance_0 = true := by decide +kernel
theorem dX12_chance_0 : decode cX12_chance 0 = .ok (.aload_n 0, 1) := dk_42 (dw rcX12_chance_0 0 rfl)
theorem dX12_chance_1 : decode cX12_chance 1 = .ok (.iload_n 1, 1) := dk_27 (dw rcX12_chance_0 1 rfl)
theorem dX12_chance_2 : decode cX12_chance 2 = .ok (.invokevirtual 587, 3) := dk_182 (dw rcX12_chance_0 2 rfl) rfl
theorem dX12_chance_5 : decode cX12_chance 5 = .ok (.ifCond .eq 12, 3) := dk_153 (dw rcX12_chance_0 3 rfl) rfl
theorem dX12_chance_8 : decode cX12_chance 8 = .ok (.iload_n 2, 1) := dk_28 (dw rcX12_chance_0 4 rfl)
theorem dX12_chance_9 : decode cX12_chance 9 = .ok (.iconst 0, 1) := dk_3 (dw rcX12_chance_0 5 rfl)
theorem dX12_chance_10 : decode cX12_chance 10 = .ok (.iconst 1, 1) := dk_4 (dw rcX12_chance_0 6 rfl)
theorem dX12_chance_11 : decode cX12_chance 11 = .ok (.invokestatic 449, 3) := dk_184 (dw rcX12_chance_0 7 rfl) rfl
theorem dX12_chance_14 : decode cX12_chance 14 = .ok (.ifCond .ne 7, 3) := dk_154 (dw rcX12_chance_0 8 rfl) rfl
theorem dX12_chance_17 : decode cX12_chance 17 = .ok (.ldc2_w 517, 3) := dk_20 (dw rcX12_chance_0 9 rfl) rfl
theorem dX12_chance_20 : decode cX12_chance 20 = .ok (.lreturn, 1) := dk_173 (dw rcX12_chance_0 10 rfl)
theorem dX12_chance_21 : decode cX12_chance 21 = .ok (.lconst 1, 1) := dk_10 (dw rcX12_chance_0 11 rfl)
theorem dX12_chance_22 : decode cX12_chance 22 = .ok (.lstore 4, 2) := dk_55 (dw rcX12_chance_0 12 rfl)
theorem dX12_chance_24 : decode cX12_chance 24 = .ok (.lconst 1, 1) := dk_10 (dw rcX12_chance_0 13 rfl)
theorem dX12_chance_25 : decode cX12_chance 25 = .ok (.lstore 6, 2) := dk_55 (dw rcX12_chance_0 14 rfl)
theorem dX12_chance_27 : decode cX12_chance 27 = .ok (.iconst 0, 1) := dk_3 (dw rcX12_chance_0 15 rfl)
theorem dX12_chance_28 : decode cX12_chance 28 = .ok (.istore 8, 2) := dk_54 (dw rcX12_chance_0 16 rfl)
theorem dX12_chance_30 : decode cX12_chance 30 = .ok (.iload 8, 2) := dk_21 (dw rcX12_chance_0 17 rfl)
theorem dX12_chance_32 : decode cX12_chance 32 = .ok (.aload_n 0, 1) := dk_42 (dw rcX12_chance_0 18 rfl)
theorem dX12_chance_33 : decode cX12_chance 33 = .ok (.getfield 443, 3) := dk_180 (dw rcX12_chance_0 19 rfl) rfl
theorem dX12_chance_36 : decode cX12_chance 36 = .ok (.if_icmp .ge 126, 3) := dk_162 (dw rcX12_chance_0 20 rfl) rfl
theorem dX12_chance_39 : decode cX12_chance 39 = .ok (.aload_n 0, 1) := dk_42 (dw rcX12_chance_0 21 rfl)
theorem dX12_chance_40 : decode cX12_chance 40 = .ok (.iload 8, 2) := dk_21 (dw rcX12_chance_0 22 rfl)
theorem dX12_chance_42 : decode cX12_chance 42 = .ok (.iload_n 3, 1) := dk_29 (dw rcX12_chance_0 23 rfl)
def rbX12_chance_43 : List (Nat × List Nat) := [(43, [182, 2, 84]), (46, [154, 0, 6]), (49, [167, 0, 107]), (52, [42]), (53, [42]), (54, [180, 0, 157]), (57, [21, 8]), (59, [46]), (60, [42]), (61, [180, 0, 160]), (64, [21, 8]), (66, [46]), (67, [4]), (68, [27]), (69, [120]), (70, [182, 1, 237]), (73, [3]), (74, [54, 9]), (76, [3]), (77, [54, 10]), (79, [42]), (80, [180, 0, 163]), (83, [21, 8]), (85, [46])]
theorem rcX12_chance_43 : dgo (lb cX12_chance) 0 rbX12_chance_43 = true := by decide +kernel
theorem dX12_chance_43 : decode cX12_chance 43 = .ok (.invokevirtual 596, 3) := dk_182 (dw rcX12_chance_43 0 rfl) rfl
theorem dX12_chance_46 : decode cX12_chance 46 = .ok (.ifCond .ne 6, 3) := dk_154 (dw rcX12_chance_43 1 rfl) rfl
theorem dX12_chance_49 : decode cX12_chance 49 = .ok (.goto 107, 3) := dk_167 (dw rcX12_chance_43 2 rfl) rfl
theorem dX12_chance_52 : decode cX12_chance 52 = .ok (.aload_n 0, 1) := dk_42 (dw rcX12_chance_43 3 rfl)
theorem dX12_chance_53 : decode cX12_chance 53 = .ok (.aload_n 0, 1) := dk_42 (dw rcX12_chance_43 4 rfl)
theorem dX12_chance_54 : decode cX12_chance 54 = .ok (.getfield 157, 3) := dk_180 (dw rcX12_chance_43 5 rfl) rfl
theorem dX12_chance_57 : decode cX12_chance 57 = .ok (.iload 8, 2) := dk_21 (dw rcX12_chance_43 6 rfl)
theorem dX12_chance_59 : decode cX12_chance 59 = .ok (.iaload, 1) := dk_46 (dw rcX12_chance_43 7 rfl)
theorem dX12_chance_60 : decode cX12_chance 60 = .ok (.aload_n 0, 1) := dk_42 (dw rcX12_chance_43 8 rfl)
theorem dX12_chance_61 : decode cX12_chance 61 = .ok (.getfield 160, 3) := dk_180 (dw rcX12_chance_43 9 rfl) rfl
theorem dX12_chance_64 : decode cX12_chance 64 = .ok (.iload 8, 2) := dk_21 (dw rcX12_chance_43 10 rfl)
theorem dX12_chance_66 : decode cX12_chance 66 = .ok (.iaload, 1) := dk_46 (dw rcX12_chance_43 11 rfl)
theorem dX12_chance_67 : decode cX12_chance 67 = .ok (.iconst 1, 1) := dk_4 (dw rcX12_chance_43 12 rfl)
theorem dX12_chance_68 : decode cX12_chance 68 = .ok (.iload_n 1, 1) := dk_27 (dw rcX12_chance_43 13 rfl)
theorem dX12_chance_69 : decode cX12_chance 69 = .ok (.ishl, 1) := dk_120 (dw rcX12_chance_43 14 rfl)
theorem dX12_chance_70 : decode cX12_chance 70 = .ok (.invokevirtual 493, 3) := dk_182 (dw rcX12_chance_43 15 rfl) rfl
theorem dX12_chance_73 : decode cX12_chance 73 = .ok (.iconst 0, 1) := dk_3 (dw rcX12_chance_43 16 rfl)
theorem dX12_chance_74 : decode cX12_chance 74 = .ok (.istore 9, 2) := dk_54 (dw rcX12_chance_43 17 rfl)
theorem dX12_chance_76 : decode cX12_chance 76 = .ok (.iconst 0, 1) := dk_3 (dw rcX12_chance_43 18 rfl)
theorem dX12_chance_77 : decode cX12_chance 77 = .ok (.istore 10, 2) := dk_54 (dw rcX12_chance_43 19 rfl)
theorem dX12_chance_79 : decode cX12_chance 79 = .ok (.aload_n 0, 1) := dk_42 (dw rcX12_chance_43 20 rfl)
theorem dX12_chance_80 : decode cX12_chance 80 = .ok (.getfield 163, 3) := dk_180 (dw rcX12_chance_43 21 rfl) rfl
theorem dX12_chance_83 : decode cX12_chance 83 = .ok (.iload 8, 2) := dk_21 (dw rcX12_chance_43 22 rfl)
theorem dX12_chance_85 : decode cX12_chance 85 = .ok (.iaload, 1) := dk_46 (dw rcX12_chance_43 23 rfl)
def rbX12_chance_86 : List (Nat × List Nat) := [(86, [6]), (87, [100]), (88, [54, 11]), (90, [21, 11]), (92, [42]), (93, [180, 0, 163]), (96, [21, 8]), (98, [46]), (99, [6]), (100, [96]), (101, [163, 0, 39]), (104, [42]), (105, [21, 11]), (107, [182, 1, 228]), (110, [154, 0, 6]), (113, [167, 0, 21]), (116, [132, 10, 1]), (119, [21, 9]), (121, [42]), (122, [180, 0, 115]), (125, [21, 11]), (127, [51]), (128, [184, 1, 92]), (131, [96])]
theorem rcX12_chance_86 : dgo (lb cX12_chance) 0 rbX12_chance_86 = true := by decide +kernel
theorem dX12_chance_86 : decode cX12_chance 86 = .ok (.iconst 3, 1) := dk_6 (dw rcX12_chance_86 0 rfl)
theorem dX12_chance_87 : decode cX12_chance 87 = .ok (.isub, 1) := dk_100 (dw rcX12_chance_86 1 rfl)
theorem dX12_chance_88 : decode cX12_chance 88 = .ok (.istore 11, 2) := dk_54 (dw rcX12_chance_86 2 rfl)
theorem dX12_chance_90 : decode cX12_chance 90 = .ok (.iload 11, 2) := dk_21 (dw rcX12_chance_86 3 rfl)
theorem dX12_chance_92 : decode cX12_chance 92 = .ok (.aload_n 0, 1) := dk_42 (dw rcX12_chance_86 4 rfl)
theorem dX12_chance_93 : decode cX12_chance 93 = .ok (.getfield 163, 3) := dk_180 (dw rcX12_chance_86 5 rfl) rfl
theorem dX12_chance_96 : decode cX12_chance 96 = .ok (.iload 8, 2) := dk_21 (dw rcX12_chance_86 6 rfl)
theorem dX12_chance_98 : decode cX12_chance 98 = .ok (.iaload, 1) := dk_46 (dw rcX12_chance_86 7 rfl)
theorem dX12_chance_99 : decode cX12_chance 99 = .ok (.iconst 3, 1) := dk_6 (dw rcX12_chance_86 8 rfl)
theorem dX12_chance_100 : decode cX12_chance 100 = .ok (.iadd, 1) := dk_96 (dw rcX12_chance_86 9 rfl)
theorem dX12_chance_101 : decode cX12_chance 101 = .ok (.if_icmp .gt 39, 3) := dk_163 (dw rcX12_chance_86 10 rfl) rfl
theorem dX12_chance_104 : decode cX12_chance 104 = .ok (.aload_n 0, 1) := dk_42 (dw rcX12_chance_86 11 rfl)
theorem dX12_chance_105 : decode cX12_chance 105 = .ok (.iload 11, 2) := dk_21 (dw rcX12_chance_86 12 rfl)
theorem dX12_chance_107 : decode cX12_chance 107 = .ok (.invokevirtual 484, 3) := dk_182 (dw rcX12_chance_86 13 rfl) rfl
theorem dX12_chance_110 : decode cX12_chance 110 = .ok (.ifCond .ne 6, 3) := dk_154 (dw rcX12_chance_86 14 rfl) rfl
theorem dX12_chance_113 : decode cX12_chance 113 = .ok (.goto 21, 3) := dk_167 (dw rcX12_chance_86 15 rfl) rfl
theorem dX12_chance_116 : decode cX12_chance 116 = .ok (.iinc 10 1, 3) := dk_132 (dw rcX12_chance_86 16 rfl) rfl
theorem dX12_chance_119 : decode cX12_chance 119 = .ok (.iload 9, 2) := dk_21 (dw rcX12_chance_86 17 rfl)
theorem dX12_chance_121 : decode cX12_chance 121 = .ok (.aload_n 0, 1) := dk_42 (dw rcX12_chance_86 18 rfl)
theorem dX12_chance_122 : decode cX12_chance 122 = .ok (.getfield 115, 3) := dk_180 (dw rcX12_chance_86 19 rfl) rfl
theorem dX12_chance_125 : decode cX12_chance 125 = .ok (.iload 11, 2) := dk_21 (dw rcX12_chance_86 20 rfl)
theorem dX12_chance_127 : decode cX12_chance 127 = .ok (.baload, 1) := dk_51 (dw rcX12_chance_86 21 rfl)
theorem dX12_chance_128 : decode cX12_chance 128 = .ok (.invokestatic 348, 3) := dk_184 (dw rcX12_chance_86 22 rfl) rfl
theorem dX12_chance_131 : decode cX12_chance 131 = .ok (.iadd, 1) := dk_96 (dw rcX12_chance_86 23 rfl)
def rbX12_chance_132 : List (Nat × List Nat) := [(132, [54, 9]), (134, [132, 11, 1]), (137, [167, 255, 209]), (140, [22, 4]), (142, [21, 9]), (144, [133]), (145, [105]), (146, [55, 4]), (148, [22, 6]), (150, [21, 10]), (152, [133]), (153, [105]), (154, [55, 6]), (156, [132, 8, 1]), (159, [167, 255, 127]), (162, [22, 4]), (164, [22, 6]), (166, [184, 2, 87]), (169, [55, 8]), (171, [28]), (172, [154, 0, 11]), (175, [22, 4]), (177, [22, 8]), (179, [109])]
theorem rcX12_chance_132 : dgo (lb cX12_chance) 0 rbX12_chance_132 = true := by decide +kernel
theorem dX12_chance_132 : decode cX12_chance 132 = .ok (.istore 9, 2) := dk_54 (dw rcX12_chance_132 0 rfl)
theorem dX12_chance_134 : decode cX12_chance 134 = .ok (.iinc 11 1, 3) := dk_132 (dw rcX12_chance_132 1 rfl) rfl
theorem dX12_chance_137 : decode cX12_chance 137 = .ok (.goto (-47), 3) := dk_167 (dw rcX12_chance_132 2 rfl) rfl
theorem dX12_chance_140 : decode cX12_chance 140 = .ok (.lload 4, 2) := dk_22 (dw rcX12_chance_132 3 rfl)
theorem dX12_chance_142 : decode cX12_chance 142 = .ok (.iload 9, 2) := dk_21 (dw rcX12_chance_132 4 rfl)
theorem dX12_chance_144 : decode cX12_chance 144 = .ok (.i2l, 1) := dk_133 (dw rcX12_chance_132 5 rfl)
theorem dX12_chance_145 : decode cX12_chance 145 = .ok (.lmul, 1) := dk_105 (dw rcX12_chance_132 6 rfl)
theorem dX12_chance_146 : decode cX12_chance 146 = .ok (.lstore 4, 2) := dk_55 (dw rcX12_chance_132 7 rfl)
theorem dX12_chance_148 : decode cX12_chance 148 = .ok (.lload 6, 2) := dk_22 (dw rcX12_chance_132 8 rfl)
theorem dX12_chance_150 : decode cX12_chance 150 = .ok (.iload 10, 2) := dk_21 (dw rcX12_chance_132 9 rfl)
theorem dX12_chance_152 : decode cX12_chance 152 = .ok (.i2l, 1) := dk_133 (dw rcX12_chance_132 10 rfl)
theorem dX12_chance_153 : decode cX12_chance 153 = .ok (.lmul, 1) := dk_105 (dw rcX12_chance_132 11 rfl)
theorem dX12_chance_154 : decode cX12_chance 154 = .ok (.lstore 6, 2) := dk_55 (dw rcX12_chance_132 12 rfl)
theorem dX12_chance_156 : decode cX12_chance 156 = .ok (.iinc 8 1, 3) := dk_132 (dw rcX12_chance_132 13 rfl) rfl
theorem dX12_chance_159 : decode cX12_chance 159 = .ok (.goto (-129), 3) := dk_167 (dw rcX12_chance_132 14 rfl) rfl
theorem dX12_chance_162 : decode cX12_chance 162 = .ok (.lload 4, 2) := dk_22 (dw rcX12_chance_132 15 rfl)
theorem dX12_chance_164 : decode cX12_chance 164 = .ok (.lload 6, 2) := dk_22 (dw rcX12_chance_132 16 rfl)
theorem dX12_chance_166 : decode cX12_chance 166 = .ok (.invokestatic 599, 3) := dk_184 (dw rcX12_chance_132 17 rfl) rfl
theorem dX12_chance_169 : decode cX12_chance 169 = .ok (.lstore 8, 2) := dk_55 (dw rcX12_chance_132 18 rfl)
theorem dX12_chance_171 : decode cX12_chance 171 = .ok (.iload_n 2, 1) := dk_28 (dw rcX12_chance_132 19 rfl)
theorem dX12_chance_172 : decode cX12_chance 172 = .ok (.ifCond .ne 11, 3) := dk_154 (dw rcX12_chance_132 20 rfl) rfl
theorem dX12_chance_175 : decode cX12_chance 175 = .ok (.lload 4, 2) := dk_22 (dw rcX12_chance_132 21 rfl)
theorem dX12_chance_177 : decode cX12_chance 177 = .ok (.lload 8, 2) := dk_22 (dw rcX12_chance_132 22 rfl)
theorem dX12_chance_179 : decode cX12_chance 179 = .ok (.ldiv, 1) := dk_109 (dw rcX12_chance_132 23 rfl)
def rbX12_chance_180 : List (Nat × List Nat) := [(180, [167, 0, 8]), (183, [22, 6]), (185, [22, 8]), (187, [109]), (188, [173])]
theorem rcX12_chance_180 : dgo (lb cX12_chance) 0 rbX12_chance_180 = true := by decide +kernel
theorem dX12_chance_180 : decode cX12_chance 180 = .ok (.goto 8, 3) := dk_167 (dw rcX12_chance_180 0 rfl) rfl
theorem dX12_chance_183 : decode cX12_chance 183 = .ok (.lload 6, 2) := dk_22 (dw rcX12_chance_180 1 rfl)
theorem dX12_chance_185 : decode cX12_chance 185 = .ok (.lload 8, 2) := dk_22 (dw rcX12_chance_180 2 rfl)
theorem dX12_chance_187 : decode cX12_chance 187 = .ok (.ldiv, 1) := dk_109 (dw rcX12_chance_180 3 rfl)
theorem dX12_chance_188 : decode cX12_chance 188 = .ok (.lreturn, 1) := dk_173 (dw rcX12_chance_180 4 rfl)
def rbX12_common_0 : List (Nat × List Nat) := [(0, [30]), (1, [55, 4]), (3, [32]), (4, [55, 6]), (6, [22, 6]), (8, [9]), (9, [148]), (10, [158, 0, 21]), (13, [22, 4]), (15, [22, 6]), (17, [113]), (18, [55, 8]), (20, [22, 6]), (22, [55, 4]), (24, [22, 8]), (26, [55, 6]), (28, [167, 255, 234]), (31, [22, 4]), (33, [173])]
theorem rcX12_common_0 : dgo (lb cX12_common) 0 rbX12_common_0 = true := by decide +kernel
theorem dX12_common_0 : decode cX12_common 0 = .ok (.lload_n 0, 1) := dk_30 (dw rcX12_common_0 0 rfl)
theorem dX12_common_1 : decode cX12_common 1 = .ok (.lstore 4, 2) := dk_55 (dw rcX12_common_0 1 rfl)
theorem dX12_common_3 : decode cX12_common 3 = .ok (.lload_n 2, 1) := dk_32 (dw rcX12_common_0 2 rfl)
theorem dX12_common_4 : decode cX12_common 4 = .ok (.lstore 6, 2) := dk_55 (dw rcX12_common_0 3 rfl)
theorem dX12_common_6 : decode cX12_common 6 = .ok (.lload 6, 2) := dk_22 (dw rcX12_common_0 4 rfl)
theorem dX12_common_8 : decode cX12_common 8 = .ok (.lconst 0, 1) := dk_9 (dw rcX12_common_0 5 rfl)
theorem dX12_common_9 : decode cX12_common 9 = .ok (.lcmp, 1) := dk_148 (dw rcX12_common_0 6 rfl)
theorem dX12_common_10 : decode cX12_common 10 = .ok (.ifCond .le 21, 3) := dk_158 (dw rcX12_common_0 7 rfl) rfl
theorem dX12_common_13 : decode cX12_common 13 = .ok (.lload 4, 2) := dk_22 (dw rcX12_common_0 8 rfl)
theorem dX12_common_15 : decode cX12_common 15 = .ok (.lload 6, 2) := dk_22 (dw rcX12_common_0 9 rfl)
theorem dX12_common_17 : decode cX12_common 17 = .ok (.lrem, 1) := dk_113 (dw rcX12_common_0 10 rfl)
theorem dX12_common_18 : decode cX12_common 18 = .ok (.lstore 8, 2) := dk_55 (dw rcX12_common_0 11 rfl)
theorem dX12_common_20 : decode cX12_common 20 = .ok (.lload 6, 2) := dk_22 (dw rcX12_common_0 12 rfl)
theorem dX12_common_22 : decode cX12_common 22 = .ok (.lstore 4, 2) := dk_55 (dw rcX12_common_0 13 rfl)
theorem dX12_common_24 : decode cX12_common 24 = .ok (.lload 8, 2) := dk_22 (dw rcX12_common_0 14 rfl)
theorem dX12_common_26 : decode cX12_common 26 = .ok (.lstore 6, 2) := dk_55 (dw rcX12_common_0 15 rfl)
theorem dX12_common_28 : decode cX12_common 28 = .ok (.goto (-22), 3) := dk_167 (dw rcX12_common_0 16 rfl) rfl
theorem dX12_common_31 : decode cX12_common 31 = .ok (.lload 4, 2) := dk_22 (dw rcX12_common_0 17 rfl)
theorem dX12_common_33 : decode cX12_common 33 = .ok (.lreturn, 1) := dk_173 (dw rcX12_common_0 18 rfl)
def rbX12_sight_0 : List (Nat × List Nat) := [(0, [42]), (1, [27]), (2, [182, 1, 231]), (5, [153, 0, 41]), (8, [42]), (9, [28]), (10, [182, 1, 197]), (13, [153, 0, 33]), (16, [29]), (17, [155, 0, 29]), (20, [29]), (21, [42]), (22, [180, 0, 87]), (25, [28]), (26, [46]), (27, [42]), (28, [180, 0, 90]), (31, [27]), (32, [46]), (33, [100]), (34, [163, 0, 12]), (37, [42]), (38, [180, 1, 187]), (41, [16, 20])]
theorem rcX12_sight_0 : dgo (lb cX12_sight) 0 rbX12_sight_0 = true := by decide +kernel
theorem dX12_sight_0 : decode cX12_sight 0 = .ok (.aload_n 0, 1) := dk_42 (dw rcX12_sight_0 0 rfl)
theorem dX12_sight_1 : decode cX12_sight 1 = .ok (.iload_n 1, 1) := dk_27 (dw rcX12_sight_0 1 rfl)
theorem dX12_sight_2 : decode cX12_sight 2 = .ok (.invokevirtual 487, 3) := dk_182 (dw rcX12_sight_0 2 rfl) rfl
theorem dX12_sight_5 : decode cX12_sight 5 = .ok (.ifCond .eq 41, 3) := dk_153 (dw rcX12_sight_0 3 rfl) rfl
theorem dX12_sight_8 : decode cX12_sight 8 = .ok (.aload_n 0, 1) := dk_42 (dw rcX12_sight_0 4 rfl)
theorem dX12_sight_9 : decode cX12_sight 9 = .ok (.iload_n 2, 1) := dk_28 (dw rcX12_sight_0 5 rfl)
theorem dX12_sight_10 : decode cX12_sight 10 = .ok (.invokevirtual 453, 3) := dk_182 (dw rcX12_sight_0 6 rfl) rfl
theorem dX12_sight_13 : decode cX12_sight 13 = .ok (.ifCond .eq 33, 3) := dk_153 (dw rcX12_sight_0 7 rfl) rfl
theorem dX12_sight_16 : decode cX12_sight 16 = .ok (.iload_n 3, 1) := dk_29 (dw rcX12_sight_0 8 rfl)
theorem dX12_sight_17 : decode cX12_sight 17 = .ok (.ifCond .lt 29, 3) := dk_155 (dw rcX12_sight_0 9 rfl) rfl
theorem dX12_sight_20 : decode cX12_sight 20 = .ok (.iload_n 3, 1) := dk_29 (dw rcX12_sight_0 10 rfl)
theorem dX12_sight_21 : decode cX12_sight 21 = .ok (.aload_n 0, 1) := dk_42 (dw rcX12_sight_0 11 rfl)
theorem dX12_sight_22 : decode cX12_sight 22 = .ok (.getfield 87, 3) := dk_180 (dw rcX12_sight_0 12 rfl) rfl
theorem dX12_sight_25 : decode cX12_sight 25 = .ok (.iload_n 2, 1) := dk_28 (dw rcX12_sight_0 13 rfl)
theorem dX12_sight_26 : decode cX12_sight 26 = .ok (.iaload, 1) := dk_46 (dw rcX12_sight_0 14 rfl)
theorem dX12_sight_27 : decode cX12_sight 27 = .ok (.aload_n 0, 1) := dk_42 (dw rcX12_sight_0 15 rfl)
theorem dX12_sight_28 : decode cX12_sight 28 = .ok (.getfield 90, 3) := dk_180 (dw rcX12_sight_0 16 rfl) rfl
theorem dX12_sight_31 : decode cX12_sight 31 = .ok (.iload_n 1, 1) := dk_27 (dw rcX12_sight_0 17 rfl)
theorem dX12_sight_32 : decode cX12_sight 32 = .ok (.iaload, 1) := dk_46 (dw rcX12_sight_0 18 rfl)
theorem dX12_sight_33 : decode cX12_sight 33 = .ok (.isub, 1) := dk_100 (dw rcX12_sight_0 19 rfl)
theorem dX12_sight_34 : decode cX12_sight 34 = .ok (.if_icmp .gt 12, 3) := dk_163 (dw rcX12_sight_0 20 rfl) rfl
theorem dX12_sight_37 : decode cX12_sight 37 = .ok (.aload_n 0, 1) := dk_42 (dw rcX12_sight_0 21 rfl)
theorem dX12_sight_38 : decode cX12_sight 38 = .ok (.getfield 443, 3) := dk_180 (dw rcX12_sight_0 22 rfl) rfl
theorem dX12_sight_41 : decode cX12_sight 41 = .ok (.bipush 20, 2) := dk_16 (dw rcX12_sight_0 23 rfl) rfl
def rbX12_sight_43 : List (Nat × List Nat) := [(43, [160, 0, 5]), (46, [2]), (47, [172]), (48, [42]), (49, [180, 0, 157]), (52, [42]), (53, [180, 1, 187]), (56, [27]), (57, [79]), (58, [42]), (59, [180, 0, 160]), (62, [42]), (63, [180, 1, 187]), (66, [28]), (67, [79]), (68, [42]), (69, [180, 0, 163]), (72, [42]), (73, [180, 1, 187]), (76, [29]), (77, [79]), (78, [42]), (79, [180, 0, 166]), (82, [42])]
theorem rcX12_sight_43 : dgo (lb cX12_sight) 0 rbX12_sight_43 = true := by decide +kernel
theorem dX12_sight_43 : decode cX12_sight 43 = .ok (.if_icmp .ne 5, 3) := dk_160 (dw rcX12_sight_43 0 rfl) rfl
theorem dX12_sight_46 : decode cX12_sight 46 = .ok (.iconst (-1), 1) := dk_2 (dw rcX12_sight_43 1 rfl)
theorem dX12_sight_47 : decode cX12_sight 47 = .ok (.ireturn, 1) := dk_172 (dw rcX12_sight_43 2 rfl)
theorem dX12_sight_48 : decode cX12_sight 48 = .ok (.aload_n 0, 1) := dk_42 (dw rcX12_sight_43 3 rfl)
theorem dX12_sight_49 : decode cX12_sight 49 = .ok (.getfield 157, 3) := dk_180 (dw rcX12_sight_43 4 rfl) rfl
theorem dX12_sight_52 : decode cX12_sight 52 = .ok (.aload_n 0, 1) := dk_42 (dw rcX12_sight_43 5 rfl)
theorem dX12_sight_53 : decode cX12_sight 53 = .ok (.getfield 443, 3) := dk_180 (dw rcX12_sight_43 6 rfl) rfl
theorem dX12_sight_56 : decode cX12_sight 56 = .ok (.iload_n 1, 1) := dk_27 (dw rcX12_sight_43 7 rfl)
theorem dX12_sight_57 : decode cX12_sight 57 = .ok (.iastore, 1) := dk_79 (dw rcX12_sight_43 8 rfl)
theorem dX12_sight_58 : decode cX12_sight 58 = .ok (.aload_n 0, 1) := dk_42 (dw rcX12_sight_43 9 rfl)
theorem dX12_sight_59 : decode cX12_sight 59 = .ok (.getfield 160, 3) := dk_180 (dw rcX12_sight_43 10 rfl) rfl
theorem dX12_sight_62 : decode cX12_sight 62 = .ok (.aload_n 0, 1) := dk_42 (dw rcX12_sight_43 11 rfl)
theorem dX12_sight_63 : decode cX12_sight 63 = .ok (.getfield 443, 3) := dk_180 (dw rcX12_sight_43 12 rfl) rfl
theorem dX12_sight_66 : decode cX12_sight 66 = .ok (.iload_n 2, 1) := dk_28 (dw rcX12_sight_43 13 rfl)
theorem dX12_sight_67 : decode cX12_sight 67 = .ok (.iastore, 1) := dk_79 (dw rcX12_sight_43 14 rfl)
theorem dX12_sight_68 : decode cX12_sight 68 = .ok (.aload_n 0, 1) := dk_42 (dw rcX12_sight_43 15 rfl)
theorem dX12_sight_69 : decode cX12_sight 69 = .ok (.getfield 163, 3) := dk_180 (dw rcX12_sight_43 16 rfl) rfl
theorem dX12_sight_72 : decode cX12_sight 72 = .ok (.aload_n 0, 1) := dk_42 (dw rcX12_sight_43 17 rfl)
theorem dX12_sight_73 : decode cX12_sight 73 = .ok (.getfield 443, 3) := dk_180 (dw rcX12_sight_43 18 rfl) rfl
theorem dX12_sight_76 : decode cX12_sight 76 = .ok (.iload_n 3, 1) := dk_29 (dw rcX12_sight_43 19 rfl)
theorem dX12_sight_77 : decode cX12_sight 77 = .ok (.iastore, 1) := dk_79 (dw rcX12_sight_43 20 rfl)
theorem dX12_sight_78 : decode cX12_sight 78 = .ok (.aload_n 0, 1) := dk_42 (dw rcX12_sight_43 21 rfl)
theorem dX12_sight_79 : decode cX12_sight 79 = .ok (.getfield 166, 3) := dk_180 (dw rcX12_sight_43 22 rfl) rfl
theorem dX12_sight_82 : decode cX12_sight 82 = .ok (.aload_n 0, 1) := dk_42 (dw rcX12_sight_43 23 rfl)
def rbX12_sight_83 : List (Nat × List Nat) := [(83, [180, 1, 187]), (86, [42]), (87, [180, 2, 81]), (90, [79]), (91, [42]), (92, [180, 0, 169]), (95, [42]), (96, [180, 1, 187]), (99, [2]), (100, [79]), (101, [42]), (102, [89]), (103, [180, 1, 187]), (106, [4]), (107, [96]), (108, [181, 1, 187]), (111, [42]), (112, [180, 1, 187]), (115, [4]), (116, [100]), (117, [172])]
theorem rcX12_sight_83 : dgo (lb cX12_sight) 0 rbX12_sight_83 = true := by decide +kernel
theorem dX12_sight_83 : decode cX12_sight 83 = .ok (.getfield 443, 3) := dk_180 (dw rcX12_sight_83 0 rfl) rfl
theorem dX12_sight_86 : decode cX12_sight 86 = .ok (.aload_n 0, 1) := dk_42 (dw rcX12_sight_83 1 rfl)
theorem dX12_sight_87 : decode cX12_sight 87 = .ok (.getfield 593, 3) := dk_180 (dw rcX12_sight_83 2 rfl) rfl
theorem dX12_sight_90 : decode cX12_sight 90 = .ok (.iastore, 1) := dk_79 (dw rcX12_sight_83 3 rfl)
theorem dX12_sight_91 : decode cX12_sight 91 = .ok (.aload_n 0, 1) := dk_42 (dw rcX12_sight_83 4 rfl)
theorem dX12_sight_92 : decode cX12_sight 92 = .ok (.getfield 169, 3) := dk_180 (dw rcX12_sight_83 5 rfl) rfl
theorem dX12_sight_95 : decode cX12_sight 95 = .ok (.aload_n 0, 1) := dk_42 (dw rcX12_sight_83 6 rfl)
theorem dX12_sight_96 : decode cX12_sight 96 = .ok (.getfield 443, 3) := dk_180 (dw rcX12_sight_83 7 rfl) rfl
theorem dX12_sight_99 : decode cX12_sight 99 = .ok (.iconst (-1), 1) := dk_2 (dw rcX12_sight_83 8 rfl)
theorem dX12_sight_100 : decode cX12_sight 100 = .ok (.iastore, 1) := dk_79 (dw rcX12_sight_83 9 rfl)
theorem dX12_sight_101 : decode cX12_sight 101 = .ok (.aload_n 0, 1) := dk_42 (dw rcX12_sight_83 10 rfl)
theorem dX12_sight_102 : decode cX12_sight 102 = .ok (.dup, 1) := dk_89 (dw rcX12_sight_83 11 rfl)
theorem dX12_sight_103 : decode cX12_sight 103 = .ok (.getfield 443, 3) := dk_180 (dw rcX12_sight_83 12 rfl) rfl
theorem dX12_sight_106 : decode cX12_sight 106 = .ok (.iconst 1, 1) := dk_4 (dw rcX12_sight_83 13 rfl)
theorem dX12_sight_107 : decode cX12_sight 107 = .ok (.iadd, 1) := dk_96 (dw rcX12_sight_83 14 rfl)
theorem dX12_sight_108 : decode cX12_sight 108 = .ok (.putfield 443, 3) := dk_181 (dw rcX12_sight_83 15 rfl) rfl
theorem dX12_sight_111 : decode cX12_sight 111 = .ok (.aload_n 0, 1) := dk_42 (dw rcX12_sight_83 16 rfl)
theorem dX12_sight_112 : decode cX12_sight 112 = .ok (.getfield 443, 3) := dk_180 (dw rcX12_sight_83 17 rfl) rfl
theorem dX12_sight_115 : decode cX12_sight 115 = .ok (.iconst 1, 1) := dk_4 (dw rcX12_sight_83 18 rfl)
theorem dX12_sight_116 : decode cX12_sight 116 = .ok (.isub, 1) := dk_100 (dw rcX12_sight_83 19 rfl)
theorem dX12_sight_117 : decode cX12_sight 117 = .ok (.ireturn, 1) := dk_172 (dw rcX12_sight_83 20 rfl)
set_option maxHeartbeats 4000000 in
set_option maxRecDepth 100000 in
theorem n_sight (l : Launch) (D : va_G) (k : KT) (A : Nat → Prop) (a : Nat → Nat) (z : SK) (G : GS) (p0 : Int32) (p1 : Int32) (p2 : Int32) (hW9 : gW G = 1) (hS9 : gS G = 1) : Met l yX12_sight (WS yX12_sight cX12_sight 4 (some .int)) ({ frames := 2, cells := 0, slots := 0, locals := 43 }) (va_Pc [.ref (a 66), .int p0, .int p1, .int p2] (cW D k A a z G)) (va_Qi (fun (r : Int32) (G1 : GS) => Q_sight p0 p1 p2 G r G1) (fun (G1 : GS) t => Wd D k A a G1 t.heap) A) 0 0 A := by
  refine Met.ofW (cc := cX12_sight) (maxL := 4) (ret := (some .int)) (by decide) rfl ?_
  intro p e s m args below meth c s₁ B hml hv
  obtain ⟨rfl, hW, hB_G, hK, hZ⟩ := hv
  have hx := B.exec
  have hb := B.bytes
  have hr := B.returns
  have hts := atoms_spec (ws := WS yX12_sight cX12_sight 4 (some .int)) B.pre
  have hgd : ∀ w ∈ gd, w ∈ WS yX12_sight cX12_sight 4 (some .int) := fun w h => List.mem_cons_of_mem _ h
  have hg : ∀ w ∈ gd, w.before _ s = true := fun w h => hts w (hgd w h)
  have hown : s.vm.findClass RX12 = some m.cls := findClass_of_methodNamed B.named
  have hS : va_S A s.heap s.heap [] := va_S.rf
  have hF : Fr [112, 113, 114, 115, 116] [(66, 85)] G G := Fr.rf
  have hl := lv_entry ([.ref (a 66), .int p0, .int p1, .int p2]) (n := 4) (Nat.le_of_ble_eq_true rfl)
  rw [lg_entry_eq]
  generalize (lg_sl ([.ref (a 66), .int p0, .int p1, .int p2]) ++ List.replicate (4 - (lg_sl ([.ref (a 66), .int p0, .int p1, .int p2])).length) Slot.unset).toArray = ls at hl ⊢
  have hl : lv_has ls 4 [(0, .ref (a 66)), (1, .int p0), (2, .int p1), (3, .int p2)] := hl
  refine lv_aload_n hx hb dX12_sight_0 rfl (lv_at hl 0 rfl) ?_
  refine lv_iload_n hx hb dX12_sight_1 rfl (lv_at hl 1 rfl) ?_
  refine S_calli (va_runV (As := [.int p0]) (rest := []) ⟨hx, hb, hml, hown, hts⟩ (n_isWalker l D k A a z G p0 ) (cwV 1 hts (gd_V hgd m1830 m1832 m90 m131 m1833) rfl rfl rfl hd_X12_isWalker ⟨Nat.le_of_ble_eq_true rfl, Nat.le_of_ble_eq_true rfl⟩) (pre_W hW hB_G hK hZ hS kd_66 rfl) rfl rfl hl.1 rfl (lv_room (Nat.le_of_ble_eq_true rfl)) dX12_sight_2 ⟨Nat.le_of_ble_eq_true rfl, Nat.le_of_ble_eq_true rfl⟩) hS (fun r_1 G_2 H locs hpo hW hS => ?_)
  have hX_5 : Q_isWalker p0 G r_1 G_2 := hpo
  obtain ⟨hB_G_2, hq_3, f_6, hp_4, -⟩ := hpo
  have hF := hF.call9 hq_3 rfl rfl
  refine lv_if_eq (tgt := 46) hx hb dX12_sight_5 rfl (fun c_7 => ?_) (fun c_7 => ?_)
  · have c_7 : r_1.toInt = 0 := xI_eq rfl rfl c_7
    refine ic_m1 hx hb dX12_sight_46 ?_
    have fr_8 : Fr [] [] G G_2 := (Fr.call9 (rs := []) (fs := []) Fr.rf hq_3 rfl rfl)
    have g_9 : gS G_2 = gS G := gS_fr fr_8 (gr_q rfl) (gf_q rfl)
    exact W.iret (v := (-1)) hx hb hr (fun t ht _ => ⟨⟨(-1), G_2, rfl, (Q_sight_mk ⟨hB_G_2, hF, (by have hq : ((-1) : Int32).toInt = (-1) := rfl; (try dsimp only); omega), ⟨r_1, G_2, hX_5, (Or.inl ⟨c_7, ⟨rfl, rfl⟩⟩)⟩⟩), wd_t ht hW⟩, hS.F ht⟩) hS.2.2 dX12_sight_47
  · have c_7 : r_1.toInt ≠ 0 := xI_ne rfl rfl c_7
    refine lv_aload_n hx hb dX12_sight_8 rfl (lv_at hl 0 rfl) ?_
    refine lv_iload_n hx hb dX12_sight_9 rfl (lv_at hl 2 rfl) ?_
    have b_10 : 0 ≤ (G.1 66 52).toInt ∧ (G.1 66 52).toInt ≤ 3 := bd_66_52 hB_G
    have g_11 : (G_2.1 66 52).toInt = (G.1 66 52).toInt := (congrArg Int32.toInt (show G_2.1 66 52 = (G.1 66 52) from (hq_3.i9 66 52 rfl rfl)))
    refine S_calli (va_runV (As := [.int p1]) (rest := []) ⟨hx, hb, hml, hown, hts⟩ (n_isStreet l D k A a z G_2 p1 ) (cwV 1 hts (gd_V hgd m1777 m1779 m83 m131 m1780) rfl rfl rfl hd_X12_isStreet ⟨Nat.le_of_ble_eq_true rfl, Nat.le_of_ble_eq_true rfl⟩) (pre_W hW hB_G_2 hK hZ hS kd_66 rfl) rfl rfl hl.1 rfl (lv_room (Nat.le_of_ble_eq_true rfl)) dX12_sight_10 ⟨Nat.le_of_ble_eq_true rfl, Nat.le_of_ble_eq_true rfl⟩) hS (fun r_12 G_13 H locs hpo hW hS => ?_)
    have hX_16 : Q_isStreet p1 G_2 r_12 G_13 := hpo
    obtain ⟨hB_G_13, hq_14, f_17, hp_15, -⟩ := hpo
    have hF := hF.call9 hq_14 rfl rfl
    refine lv_if_eq (tgt := 46) hx hb dX12_sight_13 rfl (fun c_18 => ?_) (fun c_18 => ?_)
    · have c_18 : r_12.toInt = 0 := xI_eq rfl rfl c_18
      refine ic_m1 hx hb dX12_sight_46 ?_
      have fr_19 : Fr [] [] G G_13 := (Fr.call9 (rs := []) (fs := []) (Fr.call9 (rs := []) (fs := []) Fr.rf hq_3 rfl rfl) hq_14 rfl rfl)
      have g_20 : gS G_13 = gS G := gS_fr fr_19 (gr_q rfl) (gf_q rfl)
      exact W.iret (v := (-1)) hx hb hr (fun t ht _ => ⟨⟨(-1), G_13, rfl, (Q_sight_mk ⟨hB_G_13, hF, (by have hq : ((-1) : Int32).toInt = (-1) := rfl; (try dsimp only); omega), ⟨r_1, G_2, hX_5, (Or.inr ⟨c_7, ⟨r_12, G_13, hX_16, (Or.inl ⟨c_18, ⟨rfl, rfl⟩⟩)⟩⟩)⟩⟩), wd_t ht hW⟩, hS.F ht⟩) hS.2.2 dX12_sight_47
    · have c_18 : r_12.toInt ≠ 0 := xI_ne rfl rfl c_18
      refine lv_iload_n hx hb dX12_sight_16 rfl (lv_at hl 3 rfl) ?_
      refine lv_if_lt (tgt := 46) hx hb dX12_sight_17 rfl (fun c_21 => ?_) (fun c_21 => ?_)
      · have c_21 : p2.toInt < 0 := xI_lt rfl rfl c_21
        refine ic_m1 hx hb dX12_sight_46 ?_
        have fr_22 : Fr [] [] G G_13 := (Fr.call9 (rs := []) (fs := []) (Fr.call9 (rs := []) (fs := []) Fr.rf hq_3 rfl rfl) hq_14 rfl rfl)
        have g_23 : gS G_13 = gS G := gS_fr fr_22 (gr_q rfl) (gf_q rfl)
        exact W.iret (v := (-1)) hx hb hr (fun t ht _ => ⟨⟨(-1), G_13, rfl, (Q_sight_mk ⟨hB_G_13, hF, (by have hq : ((-1) : Int32).toInt = (-1) := rfl; (try dsimp only); omega), ⟨r_1, G_2, hX_5, (Or.inr ⟨c_7, ⟨r_12, G_13, hX_16, (Or.inr ⟨c_18, (Or.inl ⟨c_21, ⟨rfl, rfl⟩⟩)⟩)⟩⟩)⟩⟩), wd_t ht hW⟩, hS.F ht⟩) hS.2.2 dX12_sight_47
      · have c_21 : 0 ≤ p2.toInt := xI_nlt rfl rfl c_21
        refine lv_iload_n hx hb dX12_sight_20 rfl (lv_at hl 3 rfl) ?_
        refine lv_aload_n hx hb dX12_sight_21 rfl (lv_at hl 0 rfl) ?_
        refine S_getR (n := 91) (C := RX12) (T := TX12) (N := 89) hx hb hg iX12 hown hK hW kd_66 rfl 39 (lt_b rfl) (hg (Cond.fieldLink RX12 87 "SlabWalkModel" "lengths" "[I") m1353) (fun _ h9 => h9) rfl dX12_sight_22 ?_
        refine lv_iload_n hx hb dX12_sight_25 rfl (lv_at hl 2 rfl) ?_
        refine S_iald hx hb hK hW kd_91 (vin ((by first | (clear hW9 hS9 f_6 hp_4 c_7 c_21; omega) | omega)) ((by first | (clear hW9 hS9 f_6 hp_4 c_7 c_21; omega) | omega))) dX12_sight_26 (fun y_24 ey_24 => ?_)
        have ty_24 : 0 ≤ y_24.toInt ∧ y_24.toInt ≤ 400 := bv_91 hB_G_13 ey_24
        have u_25 : y_24.toInt = (G.1 91 p1.toNatClampNeg).toInt := congrArg Int32.toInt (ey_24.trans (((hq_14.ri9 91 rfl p1.toNatClampNeg).trans (hq_3.ri9 91 rfl p1.toNatClampNeg))))
        refine lv_aload_n hx hb dX12_sight_27 rfl (lv_at hl 0 rfl) ?_
        refine S_getR (n := 92) (C := RX12) (T := TX12) (N := 89) hx hb hg iX12 hown hK hW kd_66 rfl 40 (lt_b rfl) (hg (Cond.fieldLink RX12 90 "SlabWalkModel" "foots" "[I") m1354) (fun _ h9 => h9) rfl dX12_sight_28 ?_
        refine lv_iload_n hx hb dX12_sight_31 rfl (lv_at hl 1 rfl) ?_
        refine S_iald hx hb hK hW kd_92 (vin ((by first | (clear hW9 hS9 b_10 g_11 f_17 hp_15 c_18 c_21 ty_24 u_25; omega) | omega)) ((by first | (clear hW9 hS9 b_10 g_11 f_17 hp_15 c_18 c_21 ty_24 u_25; omega) | omega))) dX12_sight_32 (fun y_26 ey_26 => ?_)
        have ty_26 : 0 ≤ y_26.toInt ∧ y_26.toInt ≤ 12 := bv_92 hB_G_13 ey_26
        have u_27 : y_26.toInt = (G.1 92 p0.toNatClampNeg).toInt := congrArg Int32.toInt (ey_26.trans (((hq_14.ri9 92 rfl p0.toNatClampNeg).trans (hq_3.ri9 92 rfl p0.toNatClampNeg))))
        refine lv_isub hx hb dX12_sight_33 ?_
        refine lv_topi (fun y_28 ey_28 => ?_)
        have ty_28 : y_28.toInt = y_24.toInt - y_26.toInt := xI_sub rfl rfl ey_28 ((by first | (clear hW9 hS9 c_21; omega) | omega)) ((by first | (clear hW9 hS9 c_21; omega) | omega))
        refine lv_icmp_gt (tgt := 46) hx hb dX12_sight_34 rfl (fun c_29 => ?_) (fun c_29 => ?_)
        · have c_29 : y_28.toInt < p2.toInt := xI_lt rfl rfl c_29
          refine ic_m1 hx hb dX12_sight_46 ?_
          have fr_30 : Fr [] [] G G_13 := (Fr.call9 (rs := []) (fs := []) (Fr.call9 (rs := []) (fs := []) Fr.rf hq_3 rfl rfl) hq_14 rfl rfl)
          have g_31 : gS G_13 = gS G := gS_fr fr_30 (gr_q rfl) (gf_q rfl)
          exact W.iret (v := (-1)) hx hb hr (fun t ht _ => ⟨⟨(-1), G_13, rfl, (Q_sight_mk ⟨hB_G_13, hF, (by have hq : ((-1) : Int32).toInt = (-1) := rfl; (try dsimp only); omega), ⟨r_1, G_2, hX_5, (Or.inr ⟨c_7, ⟨r_12, G_13, hX_16, (Or.inr ⟨c_18, (Or.inr ⟨c_21, ⟨y_24, ey_24, ⟨y_26, ey_26, ⟨y_28, ty_28, (Or.inl ⟨c_29, ⟨rfl, rfl⟩⟩)⟩⟩⟩⟩)⟩)⟩⟩)⟩⟩), wd_t ht hW⟩, hS.F ht⟩) hS.2.2 dX12_sight_47
        · have c_29 : p2.toInt ≤ y_28.toInt := xI_nlt rfl rfl c_29
          refine lv_aload_n hx hb dX12_sight_37 rfl (lv_at hl 0 rfl) ?_
          have b_32 : 0 ≤ (G.1 66 85).toInt ∧ (G.1 66 85).toInt ≤ 20 := bd_66_85 hB_G
          refine S_getI (v := (G.1 66 85)) (C := RX12) (T := TX12) (N := 89) hx hb hg iX12 hown hK hW kd_66 rfl 85 (lt_b rfl) (hg (Cond.fieldLink RX12 443 "SlabWalkModel" "sights" "I") m1399) (fun _ h9 => h9) rfl ((hq_14.i9 66 85 rfl rfl).trans (hq_3.i9 66 85 rfl rfl)) dX12_sight_38 ?_
          refine lv_bipush (v := 20) hx hb dX12_sight_41 (by decide) ?_
          refine lv_icmp_ne (tgt := 48) hx hb dX12_sight_43 rfl (fun c_33 => ?_) (fun c_33 => ?_)
          · have c_33 : (G.1 66 85).toInt ≠ 20 := xI_ne rfl rfl c_33
            have b_34 : 0 ≤ (G.1 66 53).toInt ∧ (G.1 66 53).toInt ≤ 4 := bd_66_53 hB_G
            have u_35 := gW_at hW9 p0 (by omega) (by omega)
            refine lv_aload_n hx hb dX12_sight_48 rfl (lv_at hl 0 rfl) ?_
            refine S_getR (n := 112) (C := RX12) (T := TX12) (N := 89) hx hb hg iX12 hown hK hW kd_66 rfl 80 (lt_b rfl) (hg (Cond.fieldLink RX12 157 "SlabWalkModel" "sightWho" "[I") m1394) (fun _ h9 => h9) rfl dX12_sight_49 ?_
            refine lv_aload_n hx hb dX12_sight_52 rfl (lv_at hl 0 rfl) ?_
            refine S_getI (v := (G.1 66 85)) (C := RX12) (T := TX12) (N := 89) hx hb hg iX12 hown hK hW kd_66 rfl 85 (lt_b rfl) (hg (Cond.fieldLink RX12 443 "SlabWalkModel" "sights" "I") m1399) (fun _ h9 => h9) rfl ((hq_14.i9 66 85 rfl rfl).trans ((hq_3.i9 66 85 rfl rfl).trans (rfl))) dX12_sight_53 ?_
            refine lv_iload_n hx hb dX12_sight_56 rfl (lv_at hl 1 rfl) ?_
            refine S_iast hx hb hK hW hS kd_112 (vin ((by first | (clear hW9 hS9 f_6 hp_4 c_7 b_10 g_11 f_17 hp_15 c_18 c_21 ty_24 u_25 ty_26 u_27 ty_28 c_29 b_34; omega) | omega)) ((by first | (clear hW9 hS9 f_6 hp_4 c_7 b_10 g_11 f_17 hp_15 c_18 c_21 ty_24 u_25 ty_26 u_27 ty_28 c_29 b_34; omega) | omega))) dX12_sight_57 (fun G_36 H locs eG_36 hW hS => ?_)
            have hB_G_36 : Bd G_36 := hB_G_13.put (V := p0.toInt) (lo := 0) (hi := 3) eG_36 rfl rfl rfl ((by first | (clear hW9 hS9 b_32 c_33; omega) | omega)) ((by first | (clear hW9 hS9 b_32 c_33; omega) | omega)) (hB_G_13.2.put eG_36 rfl)
            have hF := hF.put eG_36 (Or.inl (by decide))
            refine lv_aload_n hx hb dX12_sight_58 rfl (lv_at hl 0 rfl) ?_
            refine S_getR (n := 113) (C := RX12) (T := TX12) (N := 89) hx hb hg iX12 hown hK hW kd_66 rfl 81 (lt_b rfl) (hg (Cond.fieldLink RX12 160 "SlabWalkModel" "sightWhere" "[I") m1395) (fun _ h9 => h9) rfl dX12_sight_59 ?_
            refine lv_aload_n hx hb dX12_sight_62 rfl (lv_at hl 0 rfl) ?_
            refine S_getI (v := (G.1 66 85)) (C := RX12) (T := TX12) (N := 89) hx hb hg iX12 hown hK hW kd_66 rfl 85 (lt_b rfl) (hg (Cond.fieldLink RX12 443 "SlabWalkModel" "sights" "I") m1399) (fun _ h9 => h9) rfl ((gp_ne eG_36 (fun q => absurd q.1 (Nat.ne_of_beq_eq_false rfl))).trans ((hq_14.i9 66 85 rfl rfl).trans ((hq_3.i9 66 85 rfl rfl).trans (rfl)))) dX12_sight_63 ?_
            refine lv_iload_n hx hb dX12_sight_66 rfl (lv_at hl 2 rfl) ?_
            refine S_iast hx hb hK hW hS kd_113 (vin ((by first | (clear hW9 hS9 f_6 hp_4 c_7 b_10 g_11 f_17 hp_15 c_18 c_21 ty_24 u_25 ty_26 u_27 ty_28 c_29 b_34; omega) | omega)) ((by first | (clear hW9 hS9 f_6 hp_4 c_7 b_10 g_11 f_17 hp_15 c_18 c_21 ty_24 u_25 ty_26 u_27 ty_28 c_29 b_34; omega) | omega))) dX12_sight_67 (fun G_37 H locs eG_37 hW hS => ?_)
            have hB_G_37 : Bd G_37 := hB_G_36.put (V := p1.toInt) (lo := 0) (hi := 2) eG_37 rfl rfl rfl ((by first | (clear hW9 hS9 b_32 c_33; omega) | omega)) ((by first | (clear hW9 hS9 b_32 c_33; omega) | omega)) (hB_G_36.2.put eG_37 rfl)
            have hF := hF.put eG_37 (Or.inl (by decide))
            refine lv_aload_n hx hb dX12_sight_68 rfl (lv_at hl 0 rfl) ?_
            refine S_getR (n := 114) (C := RX12) (T := TX12) (N := 89) hx hb hg iX12 hown hK hW kd_66 rfl 82 (lt_b rfl) (hg (Cond.fieldLink RX12 163 "SlabWalkModel" "sightHeel" "[I") m1396) (fun _ h9 => h9) rfl dX12_sight_69 ?_
            refine lv_aload_n hx hb dX12_sight_72 rfl (lv_at hl 0 rfl) ?_
            refine S_getI (v := (G.1 66 85)) (C := RX12) (T := TX12) (N := 89) hx hb hg iX12 hown hK hW kd_66 rfl 85 (lt_b rfl) (hg (Cond.fieldLink RX12 443 "SlabWalkModel" "sights" "I") m1399) (fun _ h9 => h9) rfl ((gp_ne eG_37 (fun q => absurd q.1 (Nat.ne_of_beq_eq_false rfl))).trans ((gp_ne eG_36 (fun q => absurd q.1 (Nat.ne_of_beq_eq_false rfl))).trans ((hq_14.i9 66 85 rfl rfl).trans ((hq_3.i9 66 85 rfl rfl).trans (rfl))))) dX12_sight_73 ?_
            refine lv_iload_n hx hb dX12_sight_76 rfl (lv_at hl 3 rfl) ?_
            refine S_iast hx hb hK hW hS kd_114 (vin ((by first | (clear hW9 hS9 f_6 hp_4 c_7 b_10 g_11 f_17 hp_15 c_18 c_21 ty_24 u_25 ty_26 u_27 ty_28 c_29 b_34; omega) | omega)) ((by first | (clear hW9 hS9 f_6 hp_4 c_7 b_10 g_11 f_17 hp_15 c_18 c_21 ty_24 u_25 ty_26 u_27 ty_28 c_29 b_34; omega) | omega))) dX12_sight_77 (fun G_38 H locs eG_38 hW hS => ?_)
            have hB_G_38 : Bd G_38 := hB_G_37.put (V := p2.toInt) (lo := 0) (hi := 399) eG_38 rfl rfl rfl ((by first | (clear hW9 hS9 f_6 c_7 b_10 f_17 c_18 b_32 c_33 b_34; omega) | omega)) ((by first | (clear hW9 hS9 f_6 c_7 b_10 f_17 c_18 b_32 c_33 b_34; omega) | omega)) (hB_G_37.2.put eG_38 rfl)
            have hF := hF.put eG_38 (Or.inl (by decide))
            refine lv_aload_n hx hb dX12_sight_78 rfl (lv_at hl 0 rfl) ?_
            refine S_getR (n := 115) (C := RX12) (T := TX12) (N := 89) hx hb hg iX12 hown hK hW kd_66 rfl 83 (lt_b rfl) (hg (Cond.fieldLink RX12 166 "SlabWalkModel" "sightTold" "[I") m1397) (fun _ h9 => h9) rfl dX12_sight_79 ?_
            refine lv_aload_n hx hb dX12_sight_82 rfl (lv_at hl 0 rfl) ?_
            refine S_getI (v := (G.1 66 85)) (C := RX12) (T := TX12) (N := 89) hx hb hg iX12 hown hK hW kd_66 rfl 85 (lt_b rfl) (hg (Cond.fieldLink RX12 443 "SlabWalkModel" "sights" "I") m1399) (fun _ h9 => h9) rfl ((gp_ne eG_38 (fun q => absurd q.1 (Nat.ne_of_beq_eq_false rfl))).trans ((gp_ne eG_37 (fun q => absurd q.1 (Nat.ne_of_beq_eq_false rfl))).trans ((gp_ne eG_36 (fun q => absurd q.1 (Nat.ne_of_beq_eq_false rfl))).trans ((hq_14.i9 66 85 rfl rfl).trans ((hq_3.i9 66 85 rfl rfl).trans (rfl)))))) dX12_sight_83 ?_
            refine lv_aload_n hx hb dX12_sight_86 rfl (lv_at hl 0 rfl) ?_
            have b_39 : 0 ≤ (G.1 66 86).toInt ∧ (G.1 66 86).toInt ≤ 100000 := bd_66_86 hB_G
            refine S_getI (v := (G.1 66 86)) (C := RX12) (T := TX12) (N := 89) hx hb hg iX12 hown hK hW kd_66 rfl 86 (lt_b rfl) (hg (Cond.fieldLink RX12 593 "SlabWalkModel" "time" "I") m1400) (fun _ h9 => h9) rfl ((gp_ne eG_38 (fun q => absurd q.1 (Nat.ne_of_beq_eq_false rfl))).trans ((gp_ne eG_37 (fun q => absurd q.1 (Nat.ne_of_beq_eq_false rfl))).trans ((gp_ne eG_36 (fun q => absurd q.1 (Nat.ne_of_beq_eq_false rfl))).trans ((hq_14.i9 66 86 rfl rfl).trans (hq_3.i9 66 86 rfl rfl))))) dX12_sight_87 ?_
            refine S_iast hx hb hK hW hS kd_115 (vin ((by first | (clear hW9 hS9 f_6 hp_4 c_7 b_10 g_11 f_17 hp_15 c_18 c_21 ty_24 u_25 ty_26 u_27 ty_28 c_29 b_34 b_39; omega) | omega)) ((by first | (clear hW9 hS9 f_6 hp_4 c_7 b_10 g_11 f_17 hp_15 c_18 c_21 ty_24 u_25 ty_26 u_27 ty_28 c_29 b_34 b_39; omega) | omega))) dX12_sight_90 (fun G_40 H locs eG_40 hW hS => ?_)
            have hB_G_40 : Bd G_40 := hB_G_38.put (lo := (-2147483648)) (hi := 2147483647) eG_40 rfl rfl rfl (tI_rng _).1 (tI_rng _).2 (hB_G_38.2.put eG_40 rfl)
            have hF := hF.put eG_40 (Or.inl (by decide))
            refine lv_aload_n hx hb dX12_sight_91 rfl (lv_at hl 0 rfl) ?_
            refine S_getR (n := 116) (C := RX12) (T := TX12) (N := 89) hx hb hg iX12 hown hK hW kd_66 rfl 84 (lt_b rfl) (hg (Cond.fieldLink RX12 169 "SlabWalkModel" "sightUntold" "[I") m1398) (fun _ h9 => h9) rfl dX12_sight_92 ?_
            refine lv_aload_n hx hb dX12_sight_95 rfl (lv_at hl 0 rfl) ?_
            refine S_getI (v := (G.1 66 85)) (C := RX12) (T := TX12) (N := 89) hx hb hg iX12 hown hK hW kd_66 rfl 85 (lt_b rfl) (hg (Cond.fieldLink RX12 443 "SlabWalkModel" "sights" "I") m1399) (fun _ h9 => h9) rfl ((gp_ne eG_40 (fun q => absurd q.1 (Nat.ne_of_beq_eq_false rfl))).trans ((gp_ne eG_38 (fun q => absurd q.1 (Nat.ne_of_beq_eq_false rfl))).trans ((gp_ne eG_37 (fun q => absurd q.1 (Nat.ne_of_beq_eq_false rfl))).trans ((gp_ne eG_36 (fun q => absurd q.1 (Nat.ne_of_beq_eq_false rfl))).trans ((hq_14.i9 66 85 rfl rfl).trans ((hq_3.i9 66 85 rfl rfl).trans (rfl))))))) dX12_sight_96 ?_
            refine ic_m1 hx hb dX12_sight_99 ?_
            refine S_iast hx hb hK hW hS kd_116 (vin ((by first | (clear hW9 hS9 f_6 hp_4 c_7 b_10 g_11 f_17 hp_15 c_18 c_21 ty_24 u_25 ty_26 u_27 ty_28 c_29 b_34 b_39; omega) | omega)) ((by first | (clear hW9 hS9 f_6 hp_4 c_7 b_10 g_11 f_17 hp_15 c_18 c_21 ty_24 u_25 ty_26 u_27 ty_28 c_29 b_34 b_39; omega) | omega))) dX12_sight_100 (fun G_41 H locs eG_41 hW hS => ?_)
            have hB_G_41 : Bd G_41 := hB_G_40.put (lo := (-2147483648)) (hi := 2147483647) eG_41 rfl rfl rfl (tI_rng _).1 (tI_rng _).2 (hB_G_40.2.put eG_41 rfl)
            have hF := hF.put eG_41 (Or.inl (by decide))
            refine lv_aload_n hx hb dX12_sight_101 rfl (lv_at hl 0 rfl) ?_
            refine lv_dup hx hb dX12_sight_102 rfl ?_
            refine S_getI (v := (G.1 66 85)) (C := RX12) (T := TX12) (N := 89) hx hb hg iX12 hown hK hW kd_66 rfl 85 (lt_b rfl) (hg (Cond.fieldLink RX12 443 "SlabWalkModel" "sights" "I") m1399) (fun _ h9 => h9) rfl ((gp_ne eG_41 (fun q => absurd q.1 (Nat.ne_of_beq_eq_false rfl))).trans ((gp_ne eG_40 (fun q => absurd q.1 (Nat.ne_of_beq_eq_false rfl))).trans ((gp_ne eG_38 (fun q => absurd q.1 (Nat.ne_of_beq_eq_false rfl))).trans ((gp_ne eG_37 (fun q => absurd q.1 (Nat.ne_of_beq_eq_false rfl))).trans ((gp_ne eG_36 (fun q => absurd q.1 (Nat.ne_of_beq_eq_false rfl))).trans ((hq_14.i9 66 85 rfl rfl).trans ((hq_3.i9 66 85 rfl rfl).trans (rfl)))))))) dX12_sight_103 ?_
            refine ic_1 hx hb dX12_sight_106 ?_
            refine lv_iadd hx hb dX12_sight_107 ?_
            refine lv_topi (fun y_42 ey_42 => ?_)
            have ty_42 : y_42.toInt = (G.1 66 85).toInt + 1 := xI_add rfl rfl ey_42 ((by first | (clear hW9 hS9 f_6 hp_4 c_7 b_10 g_11 f_17 hp_15 c_18 c_21 ty_24 u_25 ty_26 u_27 ty_28 c_29 b_34 b_39; omega) | omega)) ((by first | (clear hW9 hS9 f_6 hp_4 c_7 b_10 g_11 f_17 hp_15 c_18 c_21 ty_24 u_25 ty_26 u_27 ty_28 c_29 b_34 b_39; omega) | omega))
            refine S_putI (ty := .int) (C := RX12) (T := TX12) (N := 89) hx hb hg iX12 tyX12 tyX12_ok nmX12 hown hK hW hS kd_66 rfl 85 (lt_b rfl) (hg (Cond.fieldLink RX12 443 "SlabWalkModel" "sights" "I") m1399) (fun _ h9 => h9) rfl (by decide +kernel) rfl rfl rfl dX12_sight_108 (fun G_43 H locs eG_43 hW hS => ?_)
            have hB_G_43 : Bd G_43 := hB_G_41.put (V := y_42.toInt) (lo := 0) (hi := 20) eG_43 rfl rfl rfl ((by first | (clear hW9 hS9 f_6 hp_4 c_7 b_10 g_11 f_17 hp_15 c_18 c_21 ty_24 u_25 ty_26 u_27 ty_28 c_29 b_34 b_39; omega) | omega)) ((by first | (clear hW9 hS9 f_6 hp_4 c_7 b_10 g_11 f_17 hp_15 c_18 c_21 ty_24 u_25 ty_26 u_27 ty_28 c_29 b_34 b_39; omega) | omega)) (hB_G_41.2.put eG_43 rfl)
            have hF := hF.put eG_43 (Or.inr (by decide))
            have u_44 : gS G_43 = 1 := gS_step (G := G) (x := (G.1 66 85)) hS9 rfl (by omega) (gp_eq eG_43) (by omega) (fun j hj => ((gp_ne eG_43 (fun q => absurd q.1 (Nat.ne_of_beq_eq_false rfl))).trans ((gp_ne eG_41 (fun q => absurd q.1 (Nat.ne_of_beq_eq_false rfl))).trans ((gp_ne eG_40 (fun q => absurd q.1 (Nat.ne_of_beq_eq_false rfl))).trans ((gp_ne eG_38 (fun q => absurd q.1 (Nat.ne_of_beq_eq_false rfl))).trans ((gp_ne eG_37 (fun q => absurd q.1 (Nat.ne_of_beq_eq_false rfl))).trans ((gp_ne eG_36 (fun q => hj q.2)).trans ((hq_14.ri9 112 rfl j).trans (hq_3.ri9 112 rfl j))))))))) (fun j hj => ((gp_ne eG_43 (fun q => absurd q.1 (Nat.ne_of_beq_eq_false rfl))).trans ((gp_ne eG_41 (fun q => absurd q.1 (Nat.ne_of_beq_eq_false rfl))).trans ((gp_ne eG_40 (fun q => absurd q.1 (Nat.ne_of_beq_eq_false rfl))).trans ((gp_ne eG_38 (fun q => absurd q.1 (Nat.ne_of_beq_eq_false rfl))).trans ((gp_ne eG_37 (fun q => hj q.2)).trans ((gp_ne eG_36 (fun q => absurd q.1 (Nat.ne_of_beq_eq_false rfl))).trans ((hq_14.ri9 113 rfl j).trans (hq_3.ri9 113 rfl j))))))))) (fun j hj => ((gp_ne eG_43 (fun q => absurd q.1 (Nat.ne_of_beq_eq_false rfl))).trans ((gp_ne eG_41 (fun q => absurd q.1 (Nat.ne_of_beq_eq_false rfl))).trans ((gp_ne eG_40 (fun q => absurd q.1 (Nat.ne_of_beq_eq_false rfl))).trans ((gp_ne eG_38 (fun q => hj q.2)).trans ((gp_ne eG_37 (fun q => absurd q.1 (Nat.ne_of_beq_eq_false rfl))).trans ((gp_ne eG_36 (fun q => absurd q.1 (Nat.ne_of_beq_eq_false rfl))).trans ((hq_14.ri9 114 rfl j).trans (hq_3.ri9 114 rfl j))))))))) (fun j hj => ((gp_ne eG_43 (fun q => absurd q.1 (Nat.ne_of_beq_eq_false rfl))).trans ((gp_ne eG_41 (fun q => absurd q.1 (Nat.ne_of_beq_eq_false rfl))).trans ((gp_ne eG_40 (fun q => absurd q.1 (Nat.ne_of_beq_eq_false rfl))).trans ((gp_ne eG_38 (fun q => absurd q.1 (Nat.ne_of_beq_eq_false rfl))).trans ((gp_ne eG_37 (fun q => absurd q.1 (Nat.ne_of_beq_eq_false rfl))).trans ((gp_ne eG_36 (fun q => absurd q.1 (Nat.ne_of_beq_eq_false rfl))).trans ((hq_14.ri9 92 rfl j).trans (hq_3.ri9 92 rfl j))))))))) (fun j hj => ((gp_ne eG_43 (fun q => absurd q.1 (Nat.ne_of_beq_eq_false rfl))).trans ((gp_ne eG_41 (fun q => absurd q.1 (Nat.ne_of_beq_eq_false rfl))).trans ((gp_ne eG_40 (fun q => absurd q.1 (Nat.ne_of_beq_eq_false rfl))).trans ((gp_ne eG_38 (fun q => absurd q.1 (Nat.ne_of_beq_eq_false rfl))).trans ((gp_ne eG_37 (fun q => absurd q.1 (Nat.ne_of_beq_eq_false rfl))).trans ((gp_ne eG_36 (fun q => absurd q.1 (Nat.ne_of_beq_eq_false rfl))).trans ((hq_14.ri9 91 rfl j).trans (hq_3.ri9 91 rfl j))))))))) ((gp_ne eG_43 (fun q => absurd q.1 (Nat.ne_of_beq_eq_false rfl))).trans ((gp_ne eG_41 (fun q => absurd q.1 (Nat.ne_of_beq_eq_false rfl))).trans ((gp_ne eG_40 (fun q => absurd q.1 (Nat.ne_of_beq_eq_false rfl))).trans ((gp_ne eG_38 (fun q => absurd q.1 (Nat.ne_of_beq_eq_false rfl))).trans ((gp_ne eG_37 (fun q => absurd q.1 (Nat.ne_of_beq_eq_false rfl))).trans (gp_eq eG_36)))))) ((gp_ne eG_43 (fun q => absurd q.1 (Nat.ne_of_beq_eq_false rfl))).trans ((gp_ne eG_41 (fun q => absurd q.1 (Nat.ne_of_beq_eq_false rfl))).trans ((gp_ne eG_40 (fun q => absurd q.1 (Nat.ne_of_beq_eq_false rfl))).trans ((gp_ne eG_38 (fun q => absurd q.1 (Nat.ne_of_beq_eq_false rfl))).trans (gp_eq eG_37))))) ((gp_ne eG_43 (fun q => absurd q.1 (Nat.ne_of_beq_eq_false rfl))).trans ((gp_ne eG_41 (fun q => absurd q.1 (Nat.ne_of_beq_eq_false rfl))).trans ((gp_ne eG_40 (fun q => absurd q.1 (Nat.ne_of_beq_eq_false rfl))).trans (gp_eq eG_38)))) (by omega)
            refine lv_aload_n hx hb dX12_sight_111 rfl (lv_at hl 0 rfl) ?_
            refine S_getI (v := y_42) (C := RX12) (T := TX12) (N := 89) hx hb hg iX12 hown hK hW kd_66 rfl 85 (lt_b rfl) (hg (Cond.fieldLink RX12 443 "SlabWalkModel" "sights" "I") m1399) (fun _ h9 => h9) rfl (gp_eq eG_43) dX12_sight_112 ?_
            refine ic_1 hx hb dX12_sight_115 ?_
            refine lv_isub hx hb dX12_sight_116 ?_
            refine lv_topi (fun y_45 ey_45 => ?_)
            have ty_45 : y_45.toInt = y_42.toInt - 1 := xI_sub rfl rfl ey_45 ((by first | (clear hW9 hS9 f_6 hp_4 c_7 b_10 g_11 f_17 hp_15 c_18 c_21 ty_24 u_25 ty_26 u_27 ty_28 c_29 b_34 b_39 u_44; omega) | omega)) ((by first | (clear hW9 hS9 f_6 hp_4 c_7 b_10 g_11 f_17 hp_15 c_18 c_21 ty_24 u_25 ty_26 u_27 ty_28 c_29 b_34 b_39 u_44; omega) | omega))
            exact W.iret (v := y_45) hx hb hr (fun t ht _ => ⟨⟨y_45, G_43, rfl, (Q_sight_mk ⟨hB_G_43, hF, ((by first | (clear hW9 hS9 f_6 hp_4 c_7 b_10 g_11 f_17 hp_15 c_18 c_21 ty_24 u_25 ty_26 u_27 ty_28 c_29 b_32 c_33 b_34 b_39 ty_42 ty_45; omega) | omega)), ⟨r_1, G_2, hX_5, (Or.inr ⟨c_7, ⟨r_12, G_13, hX_16, (Or.inr ⟨c_18, (Or.inr ⟨c_21, ⟨y_24, ey_24, ⟨y_26, ey_26, ⟨y_28, ty_28, (Or.inr ⟨c_29, (Or.inr ⟨c_33, ⟨y_42, ty_42, ⟨y_45, ty_45, ⟨rfl, (Fr.put (rs := [112, 113, 114, 115, 116]) (fs := [(66, 85)]) (Fr.put (rs := [112, 113, 114, 115, 116]) (fs := [(66, 85)]) (Fr.put (rs := [112, 113, 114, 115, 116]) (fs := [(66, 85)]) (Fr.put (rs := [112, 113, 114, 115, 116]) (fs := [(66, 85)]) (Fr.put (rs := [112, 113, 114, 115, 116]) (fs := [(66, 85)]) (Fr.put (rs := [112, 113, 114, 115, 116]) (fs := [(66, 85)]) Fr.rf eG_36 (Or.inl (by decide))) eG_37 (Or.inl (by decide))) eG_38 (Or.inl (by decide))) eG_40 (Or.inl (by decide))) eG_41 (Or.inl (by decide))) eG_43 (Or.inr (by decide))), (gp_eq eG_43), (rw_put eG_43 (by decide)).trans ((rw_put eG_41 (by decide)).trans ((rw_put eG_40 (by decide)).trans ((rw_put eG_38 (by decide)).trans ((rw_put eG_37 (by decide)).trans (rw_ast eG_36))))), (rw_put eG_43 (by decide)).trans ((rw_put eG_41 (by decide)).trans ((rw_put eG_40 (by decide)).trans ((rw_put eG_38 (by decide)).trans ((rw_ast eG_37).trans (congrArg (fun q => upd q ((G.1 66 85).toNatClampNeg) p1) (rw_put eG_36 (by decide))))))), (rw_put eG_43 (by decide)).trans ((rw_put eG_41 (by decide)).trans ((rw_put eG_40 (by decide)).trans ((rw_ast eG_38).trans (congrArg (fun q => upd q ((G.1 66 85).toNatClampNeg) p2) ((rw_put eG_37 (by decide)).trans (rw_put eG_36 (by decide))))))), (rw_put eG_43 (by decide)).trans ((rw_put eG_41 (by decide)).trans ((rw_ast eG_40).trans (congrArg (fun q => upd q ((G.1 66 85).toNatClampNeg) (G.1 66 86)) ((rw_put eG_38 (by decide)).trans ((rw_put eG_37 (by decide)).trans (rw_put eG_36 (by decide))))))), (rw_put eG_43 (by decide)).trans ((rw_ast eG_41).trans (congrArg (fun q => upd q ((G.1 66 85).toNatClampNeg) (-1)) ((rw_put eG_40 (by decide)).trans ((rw_put eG_38 (by decide)).trans ((rw_put eG_37 (by decide)).trans (rw_put eG_36 (by decide)))))))⟩⟩⟩⟩)⟩)⟩⟩⟩⟩)⟩)⟩⟩)⟩⟩), wd_t ht hW⟩, hS.F ht⟩) hS.2.2 dX12_sight_117
          · have c_33 : (G.1 66 85).toInt = 20 := xI_eq rfl rfl c_33
            refine ic_m1 hx hb dX12_sight_46 ?_
            have fr_46 : Fr [] [] G G_13 := (Fr.call9 (rs := []) (fs := []) (Fr.call9 (rs := []) (fs := []) Fr.rf hq_3 rfl rfl) hq_14 rfl rfl)
            have g_47 : gS G_13 = gS G := gS_fr fr_46 (gr_q rfl) (gf_q rfl)
            exact W.iret (v := (-1)) hx hb hr (fun t ht _ => ⟨⟨(-1), G_13, rfl, (Q_sight_mk ⟨hB_G_13, hF, (by have hq : ((-1) : Int32).toInt = (-1) := rfl; (try dsimp only); omega), ⟨r_1, G_2, hX_5, (Or.inr ⟨c_7, ⟨r_12, G_13, hX_16, (Or.inr ⟨c_18, (Or.inr ⟨c_21, ⟨y_24, ey_24, ⟨y_26, ey_26, ⟨y_28, ty_28, (Or.inr ⟨c_29, (Or.inl ⟨c_33, ⟨rfl, rfl⟩⟩)⟩)⟩⟩⟩⟩)⟩)⟩⟩)⟩⟩), wd_t ht hW⟩, hS.F ht⟩) hS.2.2 dX12_sight_47

set_option maxHeartbeats 4000000 in
set_option maxRecDepth 100000 in
theorem n_common (l : Launch) (D : va_G) (k : KT) (A : Nat → Prop) (a : Nat → Nat) (z : SK) (G : GS) (p0 : Int64) (p1 : Int64) (hc0 : 0 ≤ p0.toInt) (hc1 : 1 ≤ p1.toInt) : Met l yX12_common (WS yX12_common cX12_common 10 (some .long)) ({ frames := 0, cells := 0, slots := 0, locals := 0 }) (va_Pc [.long p0, .long p1] (cW D k A a z G)) (va_Ql (fun (r : Int64) (G1 : GS) => Q_common p0 p1 G r G1) (fun (G1 : GS) t => Wd D k A a G1 t.heap) A) 0 0 A := by
  refine Met.ofW (cc := cX12_common) (maxL := 10) (ret := (some .long)) (by decide) rfl ?_
  intro p e s m args below meth c s₁ B hml hv
  obtain ⟨rfl, hW, hB_G, hK, hZ⟩ := hv
  have hx := B.exec
  have hb := B.bytes
  have hr := B.returns
  have hts := atoms_spec (ws := WS yX12_common cX12_common 10 (some .long)) B.pre
  have hgd : ∀ w ∈ gd, w ∈ WS yX12_common cX12_common 10 (some .long) := fun w h => List.mem_cons_of_mem _ h
  have hg : ∀ w ∈ gd, w.before _ s = true := fun w h => hts w (hgd w h)
  have hown : s.vm.findClass RX12 = some m.cls := findClass_of_methodNamed B.named
  have hS : va_S A s.heap s.heap [] := va_S.rf
  have hF : Fr [] [] G G := Fr.rf
  have hl := lv_entry ([.long p0, .long p1]) (n := 10) (Nat.le_of_ble_eq_true rfl)
  rw [lg_entry_eq]
  generalize (lg_sl ([.long p0, .long p1]) ++ List.replicate (10 - (lg_sl ([.long p0, .long p1])).length) Slot.unset).toArray = ls at hl ⊢
  have hl : lv_has ls 10 [(0, .long p0), (2, .long p1)] := hl
  refine lv_lload_n hx hb dX12_common_0 rfl (lv_at hl 0 rfl) ?_
  refine lv_lstore (lv' := [(4, .long p0), (0, .long p0), (2, .long p1)]) hx hb dX12_common_1 hl (lt_b rfl) rfl (fun ls hl => ?_)
  refine lv_lload_n hx hb dX12_common_3 rfl (lv_at hl 2 rfl) ?_
  refine lv_lstore (lv' := [(6, .long p1), (4, .long p0), (0, .long p0), (2, .long p1)]) hx hb dX12_common_4 hl (lt_b rfl) rfl (fun ls hl => ?_)
  refine loop_N (Inv := fun n H locs ls => ∃ (G_1 : GS) (x_5 : Int64) (x_6 : Int64), (n : Int) = (x_5).toInt ∧ (0 ≤ (x_6).toInt) ∧ (0 ≤ (x_5).toInt) ∧ (1 ≤ (x_6).toInt ∨ 1 ≤ (x_5).toInt) ∧ Rc (St_n_common_1) (p1, p0, G) (x_5, x_6, G_1) ∧ Wd D k A a G_1 H ∧ Bd G_1 ∧ Fr [] [] G G_1 ∧ Fr [] [] G G_1 ∧ va_S A s.heap H locs ∧ lv_has ls 10 [(6, .long x_5), (4, .long x_6)]) (fun n_4 H locs ls ih_3 hI => ?_) ((p1).toInt : Int).toNat ⟨G, p1, p0, (Int.toNat_of_nonneg (by omega)), (by omega), (by omega), (by omega), Rc.rf, hW, hB_G, hF, Fr.rf, hS, lv_sub hl [0, 1] rfl⟩
  obtain ⟨G_1, x_5, x_6, hn_11, f_8, f_9, f_10, hX_7, hW, hB_G_1, hF, hq_2, hS, hl⟩ := hI
  refine lv_lload hx hb dX12_common_6 (lv_at hl 0 rfl) ?_
  refine lv_lconst (v := 0) hx hb dX12_common_8 (by decide) ?_
  refine W.lcmp hx hb dX12_common_9 ?_
  refine lv_topi (fun y_12 ey_12 => ?_)
  have ty_12 := lcmp_rng ey_12
  have u_13 := lc_gt ey_12
  have u_14 : (0 : Int64).toInt = 0 := rfl
  refine lv_if_le (tgt := 31) hx hb dX12_common_10 rfl (fun c_15 => ?_) (fun c_15 => ?_)
  · have c_15 : y_12.toInt ≤ 0 := xI_le rfl rfl c_15
    refine lv_lload hx hb dX12_common_31 (lv_at hl 1 rfl) ?_
    exact W.lret (v := x_6) hx hb hr (fun t ht _ => ⟨⟨x_6, G_1, rfl, (Q_common_mk ⟨hB_G_1, hF, ((by first | (clear hc0 hc1 hn_11 c_15; omega) | omega)), ⟨x_5, x_6, G_1, hX_7, f_8, f_9, f_10, hB_G_1, hq_2, ⟨y_12, ey_12, ⟨c_15, ⟨rfl, rfl⟩⟩⟩⟩⟩), wd_t ht hW⟩, hS.F ht⟩) hS.2.2 dX12_common_33
  · have c_15 : 0 < y_12.toInt := xI_nle rfl rfl c_15
    refine lv_lload hx hb dX12_common_13 (lv_at hl 1 rfl) ?_
    refine lv_lload hx hb dX12_common_15 (lv_at hl 0 rfl) ?_
    refine lv_lrem hx hb dX12_common_17 (l_ne0 (by omega)) ?_
    refine lv_topl (fun y_16 ey_16 => ?_)
    have u_17 := l_mod ey_16 (by omega) (by omega)
    refine lv_lstore (lv' := [(8, .long y_16), (6, .long x_5), (4, .long x_6)]) hx hb dX12_common_18 hl (lt_b rfl) rfl (fun ls hl => ?_)
    refine lv_lload hx hb dX12_common_20 (lv_at hl 1 rfl) ?_
    refine lv_lstore (lv' := [(4, .long x_5), (8, .long y_16), (6, .long x_5)]) hx hb dX12_common_22 hl (lt_b rfl) rfl (fun ls hl => ?_)
    refine lv_lload hx hb dX12_common_24 (lv_at hl 1 rfl) ?_
    refine lv_lstore (lv' := [(6, .long y_16), (4, .long x_5), (8, .long y_16)]) hx hb dX12_common_26 hl (lt_b rfl) rfl (fun ls hl => ?_)
    refine lv_goto (tgt := 6) hx hb dX12_common_28 rfl ?_
    exact ih_3 ((y_16).toInt : Int).toNat ((by first | (clear hc0 hc1 c_15; omega) | omega)) _ _ _ ⟨G_1, y_16, x_5, (Int.toNat_of_nonneg ((by first | (clear hc0 hc1 hn_11 f_8 f_9 f_10 c_15; omega) | omega))), ((by first | (clear hc0 hc1 hn_11 c_15; omega) | omega)), ((by first | (clear hc0 hc1 hn_11 f_8 f_9 f_10 c_15; omega) | omega)), ((by first | (clear hc0 hc1 hn_11 c_15; omega) | omega)), (hX_7.st (St_n_common_1_mk ⟨x_5, x_6, G_1, y_16, x_5, G_1, rfl, rfl, f_8, f_9, f_10, hB_G_1, ⟨y_12, ey_12, ⟨c_15, ⟨y_16, ey_16, ⟨rfl, rfl, rfl⟩⟩⟩⟩⟩)), hW, hB_G_1, hF, (Fr.call9 (rs := []) (fs := []) Fr.rf hq_2 rfl rfl), hS, lv_sub hl [0, 1] rfl⟩

set_option maxHeartbeats 4000000 in
set_option maxRecDepth 100000 in
theorem n_chance (l : Launch) (D : va_G) (k : KT) (A : Nat → Prop) (a : Nat → Nat) (z : SK) (G : GS) (p0 : Int32) (p1 : Int32) (p2 : Int32) (hP9 : gP G = 1) (hS9 : gS G = 1) : Met l yX12_chance (WS yX12_chance cX12_chance 12 (some .long)) ({ frames := 5, cells := 0, slots := 0, locals := 117 }) (va_Pc [.ref (a 66), .int p0, .int p1, .int p2] (cW D k A a z G)) (va_Ql (fun (r : Int64) (G1 : GS) => Q_chance p0 p1 p2 G r G1) (fun (G1 : GS) t => Wd D k A a G1 t.heap) A) 0 0 A := by
  refine Met.ofW (cc := cX12_chance) (maxL := 12) (ret := (some .long)) (by decide) rfl ?_
  intro p e s m args below meth c s₁ B hml hv
  obtain ⟨rfl, hW, hB_G, hK, hZ⟩ := hv
  have hx := B.exec
  have hb := B.bytes
  have hr := B.returns
  have hts := atoms_spec (ws := WS yX12_chance cX12_chance 12 (some .long)) B.pre
  have hgd : ∀ w ∈ gd, w ∈ WS yX12_chance cX12_chance 12 (some .long) := fun w h => List.mem_cons_of_mem _ h
  have hg : ∀ w ∈ gd, w.before _ s = true := fun w h => hts w (hgd w h)
  have hown : s.vm.findClass RX12 = some m.cls := findClass_of_methodNamed B.named
  have hS : va_S A s.heap s.heap [] := va_S.rf
  have hF : Fr [76, 97, 98] [(66, 59), (66, 60), (66, 61), (66, 62), (66, 63)] G G := Fr.rf
  have hl := lv_entry ([.ref (a 66), .int p0, .int p1, .int p2]) (n := 12) (Nat.le_of_ble_eq_true rfl)
  rw [lg_entry_eq]
  generalize (lg_sl ([.ref (a 66), .int p0, .int p1, .int p2]) ++ List.replicate (12 - (lg_sl ([.ref (a 66), .int p0, .int p1, .int p2])).length) Slot.unset).toArray = ls at hl ⊢
  have hl : lv_has ls 12 [(0, .ref (a 66)), (1, .int p0), (2, .int p1), (3, .int p2)] := hl
  refine lv_aload_n hx hb dX12_chance_0 rfl (lv_at hl 0 rfl) ?_
  refine lv_iload_n hx hb dX12_chance_1 rfl (lv_at hl 1 rfl) ?_
  refine S_calli (va_runV (As := [.int p0]) (rest := []) ⟨hx, hb, hml, hown, hts⟩ (n_isRule l D k A a z G p0 ) (cwV 1 hts (gd_V hgd m2007 m2009 m113 m131 m2010) rfl rfl rfl hd_X12_isRule ⟨Nat.le_of_ble_eq_true rfl, Nat.le_of_ble_eq_true rfl⟩) (pre_W hW hB_G hK hZ hS kd_66 rfl) rfl rfl hl.1 rfl (lv_room (Nat.le_of_ble_eq_true rfl)) dX12_chance_2 ⟨Nat.le_of_ble_eq_true rfl, Nat.le_of_ble_eq_true rfl⟩) hS (fun r_1 G_2 H locs hpo hW hS => ?_)
  have hX_5 : Q_isRule p0 G r_1 G_2 := hpo
  obtain ⟨hB_G_2, hq_3, f_6, hp_4, -⟩ := hpo
  have hF := hF.call9 hq_3 rfl rfl
  refine lv_if_eq (tgt := 17) hx hb dX12_chance_5 rfl (fun c_7 => ?_) (fun c_7 => ?_)
  · have c_7 : r_1.toInt = 0 := xI_eq rfl rfl c_7
    refine lv_ldc2 (v := (-1)) hx hb hown (hg (Cond.constantLong RX12 517 (-1)) m1874) dX12_chance_17 ?_
    exact W.lret (v := (-1)) hx hb hr (fun t ht _ => ⟨⟨(-1), G_2, rfl, (Q_chance_mk ⟨hB_G_2, hF, ⟨r_1, G_2, hX_5, (Or.inl ⟨c_7, ⟨rfl, rfl⟩⟩)⟩⟩), wd_t ht hW⟩, hS.F ht⟩) hS.2.2 dX12_chance_20
  · have c_7 : r_1.toInt ≠ 0 := xI_ne rfl rfl c_7
    refine lv_iload_n hx hb dX12_chance_8 rfl (lv_at hl 2 rfl) ?_
    refine ic_0 hx hb dX12_chance_9 ?_
    refine ic_1 hx hb dX12_chance_10 ?_
    have qc_8 : (0 : Int32).toInt = 0 := rfl
    have qc_9 : (1 : Int32).toInt = 1 := rfl
    refine S_calli (va_runS (As := [.int p1, .int 0, .int 1]) (rest := []) ⟨hx, hb, hml, hown, hts⟩ (n_isIn l D k A a z G_2 p1 0 1 ) (va_cwS 3 hts (gd_S hgd m1781 m1782 m131 m1783) rfl rfl rfl hd_X12_isIn.2 ⟨Nat.le_of_ble_eq_true rfl, Nat.le_of_ble_eq_true rfl⟩) (pre_S hW hB_G_2 hK hZ hS) rfl rfl hl.1 rfl (lv_room (Nat.le_of_ble_eq_true rfl)) dX12_chance_11 ⟨Nat.le_of_ble_eq_true rfl, Nat.le_of_ble_eq_true rfl⟩) hS (fun r_10 G_11 H locs hpo hW hS => ?_)
    have hX_14 : Q_isIn p1 0 1 G_2 r_10 G_11 := hpo
    obtain ⟨hB_G_11, hq_12, f_15, ⟨d_1, d_2⟩, -⟩ := hpo
    have hF := hF.call9 hq_12 rfl rfl
    refine lv_if_ne (tgt := 21) hx hb dX12_chance_14 rfl (fun c_16 => ?_) (fun c_16 => ?_)
    · have c_16 : r_10.toInt ≠ 0 := xI_ne rfl rfl c_16
      refine lv_lconst (v := 1) hx hb dX12_chance_21 (by decide) ?_
      refine lv_lstore (lv' := [(4, .long 1), (0, .ref (a 66)), (1, .int p0), (2, .int p1), (3, .int p2)]) hx hb dX12_chance_22 hl (lt_b rfl) rfl (fun ls hl => ?_)
      refine lv_lconst (v := 1) hx hb dX12_chance_24 (by decide) ?_
      refine lv_lstore (lv' := [(6, .long 1), (4, .long 1), (0, .ref (a 66)), (1, .int p0), (2, .int p1), (3, .int p2)]) hx hb dX12_chance_25 hl (lt_b rfl) rfl (fun ls hl => ?_)
      refine ic_0 hx hb dX12_chance_27 ?_
      have u_17 : p7I (0 : Int32).toInt = 1 := rfl
      have u_18 : (1 : Int64).toInt = 1 := rfl
      refine lv_istore (lv' := [(8, .int 0), (6, .long 1), (4, .long 1), (0, .ref (a 66)), (1, .int p0), (2, .int p1), (3, .int p2)]) hx hb dX12_chance_28 hl (lt_b rfl) rfl (fun ls hl => ?_)
      have qc_27 : (0 : Int32).toInt = 0 := rfl
      refine loop_N (Inv := fun n H locs ls => ∃ (G_19 : GS) (x_23 : Int32) (x_24 : Int64) (x_25 : Int64), (n : Int) = 20 - x_23.toInt ∧ (0 ≤ x_23.toInt ∧ x_23.toInt ≤ 20) ∧ (0 ≤ (x_25).toInt ∧ (x_25).toInt ≤ p7I x_23.toInt) ∧ (1 ≤ (x_24).toInt ∧ (x_24).toInt ≤ p7I x_23.toInt) ∧ Rc (St_n_chance_1 p0 p2 G) (0, 1, 1, G_11) (x_23, x_24, x_25, G_19) ∧ Wd D k A a G_19 H ∧ Bd G_19 ∧ Fr [76, 97, 98] [(66, 59), (66, 60), (66, 61), (66, 62), (66, 63)] G G_19 ∧ Fr [76, 97, 98] [(66, 59), (66, 60), (66, 61), (66, 62), (66, 63)] G_11 G_19 ∧ va_S A s.heap H locs ∧ lv_has ls 12 [(8, .int x_23), (6, .long x_24), (4, .long x_25), (0, .ref (a 66)), (1, .int p0), (2, .int p1), (3, .int p2)]) (fun n_22 H locs ls ih_21 hI => ?_) (20 - 0 : Int).toNat ⟨G_11, 0, 1, 1, (Int.toNat_of_nonneg ((by first | (clear hP9 hS9 f_6 hp_4 c_7 f_15 d_1 d_2 c_16; omega) | omega))), ⟨(by first | (clear hP9 hS9 f_6 hp_4 c_7 f_15 d_1 d_2 c_16; omega) | omega), (by first | (clear hP9 hS9 f_6 hp_4 c_7 f_15 d_1 d_2 c_16; omega) | omega)⟩, ((by first | exact ⟨((by first | (clear hP9 hS9 f_6 hp_4 c_7 f_15 d_1 d_2 c_16; omega) | omega)), ((by first | (clear hP9 hS9 f_6 hp_4 c_7 f_15 d_1 d_2 c_16; omega) | omega))⟩ | omega)), ((by first | exact ⟨((by first | (clear hP9 hS9 f_6 hp_4 c_7 f_15 d_1 d_2 c_16; omega) | omega)), ((by first | (clear hP9 hS9 f_6 hp_4 c_7 f_15 d_1 d_2 c_16; omega) | omega))⟩ | omega)), Rc.rf, hW, hB_G_11, hF, Fr.rf, hS, lv_sub hl [0, 1, 2, 3, 4, 5, 6] rfl⟩
      obtain ⟨G_19, x_23, x_24, x_25, hn_31, f_28, f_29, f_30, hX_26, hW, hB_G_19, hF, hq_20, hS, hl⟩ := hI
      have u_32 := p7_at x_23.toInt (by omega) (by omega)
      refine lv_iload hx hb dX12_chance_30 (lv_at hl 0 rfl) ?_
      refine lv_aload_n hx hb dX12_chance_32 rfl (lv_at hl 3 rfl) ?_
      have b_33 : 0 ≤ (G.1 66 85).toInt ∧ (G.1 66 85).toInt ≤ 20 := bd_66_85 hB_G
      refine S_getI (v := (G.1 66 85)) (C := RX12) (T := TX12) (N := 89) hx hb hg iX12 hown hK hW kd_66 rfl 85 (lt_b rfl) (hg (Cond.fieldLink RX12 443 "SlabWalkModel" "sights" "I") m1399) (fun _ h9 => h9) rfl ((hq_20.i9 66 85 rfl rfl).trans ((hq_12.i9 66 85 rfl rfl).trans (hq_3.i9 66 85 rfl rfl))) dX12_chance_33 ?_
      refine lv_icmp_ge (tgt := 162) hx hb dX12_chance_36 rfl (fun c_34 => ?_) (fun c_34 => ?_)
      · have c_34 : (G.1 66 85).toInt ≤ x_23.toInt := xI_le rfl rfl c_34
        refine lv_lload hx hb dX12_chance_162 (lv_at hl 2 rfl) ?_
        refine lv_lload hx hb dX12_chance_164 (lv_at hl 1 rfl) ?_
        refine S_calll (va_runS (As := [.long x_25, .long x_24]) (rest := []) ⟨hx, hb, hml, hown, hts⟩ (n_common l D k A a z G_19 x_25 x_24 ((by first | (clear hP9 hS9 f_15 d_1 d_2 c_16 hn_31 f_28 f_29 f_30 b_33 c_34; omega) | omega)) ((by first | (clear hP9 hS9 f_6 hp_4 c_7 f_15 d_1 d_2 c_16 hn_31 f_28 f_29 f_30 b_33 c_34; omega) | omega))) (va_cwS 2 hts (gd_S hgd m2063 m2064 m131 m2065) rfl rfl rfl hd_X12_common.2 ⟨Nat.le_of_ble_eq_true rfl, Nat.le_of_ble_eq_true rfl⟩) (pre_S hW hB_G_19 hK hZ hS) rfl rfl hl.1 rfl (lv_room (Nat.le_of_ble_eq_true rfl)) dX12_chance_166 ⟨Nat.le_of_ble_eq_true rfl, Nat.le_of_ble_eq_true rfl⟩) hS (fun r_35 G_36 H locs hpo hW hS => ?_)
        have hX_39 : Q_common x_25 x_24 G_19 r_35 G_36 := hpo
        obtain ⟨hB_G_36, hq_37, hp_38, -⟩ := hpo
        have hF := hF.call9 hq_37 rfl rfl
        refine lv_lstore (lv' := [(8, .long r_35), (6, .long x_24), (4, .long x_25), (0, .ref (a 66)), (1, .int p0), (2, .int p1), (3, .int p2)]) hx hb dX12_chance_169 hl (lt_b rfl) rfl (fun ls hl => ?_)
        refine lv_iload_n hx hb dX12_chance_171 rfl (lv_at hl 5 rfl) ?_
        refine lv_if_ne (tgt := 183) hx hb dX12_chance_172 rfl (fun c_40 => ?_) (fun c_40 => ?_)
        · have c_40 : p1.toInt ≠ 0 := xI_ne rfl rfl c_40
          refine lv_lload hx hb dX12_chance_183 (lv_at hl 1 rfl) ?_
          refine lv_lload hx hb dX12_chance_185 (lv_at hl 0 rfl) ?_
          refine lv_ldiv hx hb dX12_chance_187 (l_ne0 (by omega)) ?_
          refine lv_topl (fun y_41 ey_41 => ?_)
          exact W.lret (v := y_41) hx hb hr (fun t ht _ => ⟨⟨y_41, G_36, rfl, (Q_chance_mk ⟨hB_G_36, hF, ⟨r_1, G_2, hX_5, (Or.inr ⟨c_7, ⟨r_10, G_11, hX_14, (Or.inr ⟨c_16, ⟨x_23, x_24, x_25, G_19, hX_26, f_28, f_29, f_30, hB_G_19, hq_20, ⟨c_34, ⟨r_35, G_36, hX_39, (Or.inr ⟨c_40, ⟨y_41, ey_41, ⟨rfl, rfl⟩⟩⟩)⟩⟩⟩⟩)⟩⟩)⟩⟩), wd_t ht hW⟩, hS.F ht⟩) hS.2.2 dX12_chance_188
        · have c_40 : p1.toInt = 0 := xI_eq rfl rfl c_40
          refine lv_lload hx hb dX12_chance_175 (lv_at hl 2 rfl) ?_
          refine lv_lload hx hb dX12_chance_177 (lv_at hl 0 rfl) ?_
          refine lv_ldiv hx hb dX12_chance_179 (l_ne0 (by omega)) ?_
          refine lv_topl (fun y_42 ey_42 => ?_)
          refine lv_goto (tgt := 188) hx hb dX12_chance_180 rfl ?_
          exact W.lret (v := y_42) hx hb hr (fun t ht _ => ⟨⟨y_42, G_36, rfl, (Q_chance_mk ⟨hB_G_36, hF, ⟨r_1, G_2, hX_5, (Or.inr ⟨c_7, ⟨r_10, G_11, hX_14, (Or.inr ⟨c_16, ⟨x_23, x_24, x_25, G_19, hX_26, f_28, f_29, f_30, hB_G_19, hq_20, ⟨c_34, ⟨r_35, G_36, hX_39, (Or.inl ⟨c_40, ⟨y_42, ey_42, ⟨rfl, rfl⟩⟩⟩)⟩⟩⟩⟩)⟩⟩)⟩⟩), wd_t ht hW⟩, hS.F ht⟩) hS.2.2 dX12_chance_188
      · have c_34 : x_23.toInt < (G.1 66 85).toInt := xI_nle rfl rfl c_34
        refine lv_aload_n hx hb dX12_chance_39 rfl (lv_at hl 3 rfl) ?_
        refine lv_iload hx hb dX12_chance_40 (lv_at hl 0 rfl) ?_
        refine lv_iload_n hx hb dX12_chance_42 rfl (lv_at hl 6 rfl) ?_
        refine S_calli (va_runV (As := [.int x_23, .int p2]) (rest := []) ⟨hx, hb, hml, hown, hts⟩ (n_counts l D k A a z G_19 x_23 p2 ⟨(by first | (clear hP9 hS9 f_6 hp_4 c_7 f_15 d_1 d_2 c_16 hn_31; omega) | omega), (by first | (clear hP9 hS9 f_6 hp_4 c_7 f_15 d_1 d_2 c_16 hn_31; omega) | omega)⟩) (cwV 2 hts (gd_V hgd m2055 m2057 m115 m131 m2058) rfl rfl rfl hd_X12_counts ⟨Nat.le_of_ble_eq_true rfl, Nat.le_of_ble_eq_true rfl⟩) (pre_W hW hB_G_19 hK hZ hS kd_66 rfl) rfl rfl hl.1 rfl (lv_room (Nat.le_of_ble_eq_true rfl)) dX12_chance_43 ⟨Nat.le_of_ble_eq_true rfl, Nat.le_of_ble_eq_true rfl⟩) hS (fun r_43 G_44 H locs hpo hW hS => ?_)
        have hX_47 : Q_counts x_23 p2 G_19 r_43 G_44 := hpo
        obtain ⟨hB_G_44, hq_45, f_48, -⟩ := hpo
        have hF := hF.call9 hq_45 rfl rfl
        refine lv_if_ne (tgt := 52) hx hb dX12_chance_46 rfl (fun c_49 => ?_) (fun c_49 => ?_)
        · have c_49 : r_43.toInt ≠ 0 := xI_ne rfl rfl c_49
          refine lv_aload_n hx hb dX12_chance_52 rfl (lv_at hl 3 rfl) ?_
          refine lv_aload_n hx hb dX12_chance_53 rfl (lv_at hl 3 rfl) ?_
          refine S_getR (n := 112) (C := RX12) (T := TX12) (N := 89) hx hb hg iX12 hown hK hW kd_66 rfl 80 (lt_b rfl) (hg (Cond.fieldLink RX12 157 "SlabWalkModel" "sightWho" "[I") m1394) (fun _ h9 => h9) rfl dX12_chance_54 ?_
          refine lv_iload hx hb dX12_chance_57 (lv_at hl 0 rfl) ?_
          refine S_iald hx hb hK hW kd_112 (vin ((by first | (clear hP9 hS9 f_6 hp_4 c_7 f_15 d_1 d_2 c_16 hn_31 f_48 c_49; omega) | omega)) ((by first | (clear hP9 hS9 f_6 hp_4 c_7 f_15 d_1 d_2 c_16 hn_31 f_48 c_49; omega) | omega))) dX12_chance_59 (fun y_50 ey_50 => ?_)
          have ty_50 : 0 ≤ y_50.toInt ∧ y_50.toInt ≤ 3 := bv_112 hB_G_44 ey_50
          have u_51 : y_50.toInt = (G.1 112 x_23.toNatClampNeg).toInt := congrArg Int32.toInt (ey_50.trans (((hq_45.ri9 112 rfl x_23.toNatClampNeg).trans ((hq_20.ri9 112 rfl x_23.toNatClampNeg).trans ((hq_12.ri9 112 rfl x_23.toNatClampNeg).trans (hq_3.ri9 112 rfl x_23.toNatClampNeg))))))
          refine lv_aload_n hx hb dX12_chance_60 rfl (lv_at hl 3 rfl) ?_
          refine S_getR (n := 113) (C := RX12) (T := TX12) (N := 89) hx hb hg iX12 hown hK hW kd_66 rfl 81 (lt_b rfl) (hg (Cond.fieldLink RX12 160 "SlabWalkModel" "sightWhere" "[I") m1395) (fun _ h9 => h9) rfl dX12_chance_61 ?_
          refine lv_iload hx hb dX12_chance_64 (lv_at hl 0 rfl) ?_
          refine S_iald hx hb hK hW kd_113 (vin ((by first | (clear hP9 hS9 f_6 hp_4 c_7 f_15 d_1 d_2 c_16 hn_31 f_48 c_49; omega) | omega)) ((by first | (clear hP9 hS9 f_6 hp_4 c_7 f_15 d_1 d_2 c_16 hn_31 f_48 c_49; omega) | omega))) dX12_chance_66 (fun y_52 ey_52 => ?_)
          have ty_52 : 0 ≤ y_52.toInt ∧ y_52.toInt ≤ 2 := bv_113 hB_G_44 ey_52
          have u_53 : y_52.toInt = (G.1 113 x_23.toNatClampNeg).toInt := congrArg Int32.toInt (ey_52.trans (((hq_45.ri9 113 rfl x_23.toNatClampNeg).trans ((hq_20.ri9 113 rfl x_23.toNatClampNeg).trans ((hq_12.ri9 113 rfl x_23.toNatClampNeg).trans (hq_3.ri9 113 rfl x_23.toNatClampNeg))))))
          refine ic_1 hx hb dX12_chance_67 ?_
          refine lv_iload_n hx hb dX12_chance_68 rfl (lv_at hl 4 rfl) ?_
          refine lv_ishl hx hb dX12_chance_69 ?_
          refine lv_topi (fun y_54 ey_54 => ?_)
          have ty_54 := sh5 (Y := p0.toInt) rfl ey_54 rfl (by omega) (by omega)
          have fr_55 : Fr [76, 97, 98] [(66, 59), (66, 60), (66, 61), (66, 62), (66, 63)] G G_44 := (Fr.call9 (rs := [76, 97, 98]) (fs := [(66, 59), (66, 60), (66, 61), (66, 62), (66, 63)]) (Fr.call9 (rs := [76, 97, 98]) (fs := [(66, 59), (66, 60), (66, 61), (66, 62), (66, 63)]) (Fr.call9 (rs := [76, 97, 98]) (fs := [(66, 59), (66, 60), (66, 61), (66, 62), (66, 63)]) (Fr.call9 (rs := [76, 97, 98]) (fs := [(66, 59), (66, 60), (66, 61), (66, 62), (66, 63)]) Fr.rf hq_3 rfl rfl) hq_12 rfl rfl) hq_20 rfl rfl) hq_45 rfl rfl)
          have g_56 : gP G_44 = gP G := gP_fr fr_55 (gr_q rfl) (gf_q rfl)
          refine S_callv (va_runV (As := [.int y_50, .int y_52, .int y_54]) (rest := []) ⟨hx, hb, hml, hown, hts⟩ (n_layStreet l D k A a z G_44 y_50 y_52 y_54 ⟨(by first | (clear hP9 hS9 f_6 hp_4 c_7 f_15 d_1 d_2 c_16 hn_31 f_48 c_49 g_56; omega) | omega), (by first | (clear hP9 hS9 f_6 hp_4 c_7 f_15 d_1 d_2 c_16 hn_31 f_48 c_49 g_56; omega) | omega)⟩ ⟨(by first | (clear hP9 hS9 f_6 hp_4 c_7 f_15 d_1 d_2 c_16 hn_31 f_48 c_49 g_56; omega) | omega), (by first | (clear hP9 hS9 f_6 hp_4 c_7 f_15 d_1 d_2 c_16 hn_31 f_48 c_49 g_56; omega) | omega)⟩ ((by first | (clear hS9 f_6 hp_4 c_7 f_15 d_1 d_2 c_16 hn_31 f_28 f_29 f_30 b_33 c_34 f_48 c_49 ty_50 u_51 ty_52 u_53; omega) | omega))) (cwV 3 hts (gd_V hgd m1834 m1836 m91 m131 m1837) rfl rfl rfl hd_X12_layStreet ⟨Nat.le_of_ble_eq_true rfl, Nat.le_of_ble_eq_true rfl⟩) (pre_W hW hB_G_44 hK hZ hS kd_66 rfl) rfl rfl hl.1 rfl (lv_room (Nat.le_of_ble_eq_true rfl)) dX12_chance_70 ⟨Nat.le_of_ble_eq_true rfl, Nat.le_of_ble_eq_true rfl⟩) hS (fun G_58 H locs hpo hW hS => ?_)
          have hX_61 : Q_layStreet y_50 y_52 y_54 G_44 G_58 := hpo
          obtain ⟨hB_G_58, hq_59, ⟨d_3, d_4, d_5, d_6, d_7, d_8⟩, -⟩ := hpo
          have hF := hF.call9 hq_59 rfl rfl
          have u_62 := gS_at hS9 (s := x_23) (w := y_50) (r := y_52) (q := G.1 114 x_23.toNatClampNeg) (by omega) (by omega) (by omega) (by omega) rfl
          have b_63 : 0 ≤ (G.1 114 x_23.toNatClampNeg).toInt ∧ (G.1 114 x_23.toNatClampNeg).toInt ≤ 399 := hB_G.i 114 _ rfl rfl
          have u_64 : (G_44.1 92 y_50.toNatClampNeg).toInt = (G.1 92 y_50.toNatClampNeg).toInt := congrArg Int32.toInt (((hq_45.ri9 92 rfl y_50.toNatClampNeg).trans ((hq_20.ri9 92 rfl y_50.toNatClampNeg).trans ((hq_12.ri9 92 rfl y_50.toNatClampNeg).trans (hq_3.ri9 92 rfl y_50.toNatClampNeg)))))
          have u_65 : (G_44.1 91 y_52.toNatClampNeg).toInt = (G.1 91 y_52.toNatClampNeg).toInt := congrArg Int32.toInt (((hq_45.ri9 91 rfl y_52.toNatClampNeg).trans ((hq_20.ri9 91 rfl y_52.toNatClampNeg).trans ((hq_12.ri9 91 rfl y_52.toNatClampNeg).trans (hq_3.ri9 91 rfl y_52.toNatClampNeg)))))
          have b_66 : 0 ≤ (G_58.1 66 60).toInt ∧ (G_58.1 66 60).toInt ≤ 12 := bd_66_60 hB_G_58
          have b_67 : 0 ≤ (G_58.1 66 59).toInt ∧ (G_58.1 66 59).toInt ≤ 400 := bd_66_59 hB_G_58
          refine ic_0 hx hb dX12_chance_73 ?_
          refine lv_istore (lv' := [(9, .int 0), (8, .int x_23), (6, .long x_24), (4, .long x_25), (0, .ref (a 66)), (1, .int p0), (2, .int p1), (3, .int p2)]) hx hb dX12_chance_74 hl (lt_b rfl) rfl (fun ls hl => ?_)
          refine ic_0 hx hb dX12_chance_76 ?_
          refine lv_istore (lv' := [(10, .int 0), (9, .int 0), (8, .int x_23), (6, .long x_24), (4, .long x_25), (0, .ref (a 66)), (1, .int p0), (2, .int p1), (3, .int p2)]) hx hb dX12_chance_77 hl (lt_b rfl) rfl (fun ls hl => ?_)
          refine lv_aload_n hx hb dX12_chance_79 rfl (lv_at hl 5 rfl) ?_
          refine S_getR (n := 114) (C := RX12) (T := TX12) (N := 89) hx hb hg iX12 hown hK hW kd_66 rfl 82 (lt_b rfl) (hg (Cond.fieldLink RX12 163 "SlabWalkModel" "sightHeel" "[I") m1396) (fun _ h9 => h9) rfl dX12_chance_80 ?_
          refine lv_iload hx hb dX12_chance_83 (lv_at hl 2 rfl) ?_
          refine S_iald hx hb hK hW kd_114 (vin ((by first | (clear hP9 hS9 f_6 hp_4 c_7 f_15 d_1 d_2 c_16 hn_31 f_48 c_49 g_56; omega) | omega)) ((by first | (clear hP9 hS9 f_6 hp_4 c_7 f_15 d_1 d_2 c_16 hn_31 f_48 c_49 g_56; omega) | omega))) dX12_chance_85 (fun y_68 ey_68 => ?_)
          have ty_68 : 0 ≤ y_68.toInt ∧ y_68.toInt ≤ 399 := bv_114 hB_G_58 ey_68
          have u_69 : y_68.toInt = (G.1 114 x_23.toNatClampNeg).toInt := congrArg Int32.toInt (ey_68.trans (((hq_59.ri9 114 rfl x_23.toNatClampNeg).trans ((hq_45.ri9 114 rfl x_23.toNatClampNeg).trans ((hq_20.ri9 114 rfl x_23.toNatClampNeg).trans ((hq_12.ri9 114 rfl x_23.toNatClampNeg).trans (hq_3.ri9 114 rfl x_23.toNatClampNeg)))))))
          refine ic_3 hx hb dX12_chance_86 ?_
          refine lv_isub hx hb dX12_chance_87 ?_
          refine lv_topi (fun y_70 ey_70 => ?_)
          have ty_70 : y_70.toInt = y_68.toInt - 3 := xI_sub rfl rfl ey_70 ((by first | (clear hP9 hS9 f_6 hp_4 c_7 f_15 d_1 d_2 c_16 hn_31 f_48 c_49 g_56; omega) | omega)) ((by first | (clear hP9 hS9 f_6 hp_4 c_7 f_15 d_1 d_2 c_16 hn_31 f_48 c_49 g_56; omega) | omega))
          refine lv_istore (lv' := [(11, .int y_70), (10, .int 0), (9, .int 0), (8, .int x_23), (6, .long x_24), (4, .long x_25), (0, .ref (a 66)), (1, .int p0), (2, .int p1), (3, .int p2)]) hx hb dX12_chance_88 hl (lt_b rfl) rfl (fun ls hl => ?_)
          have qc_79 : (0 : Int32).toInt = 0 := rfl
          refine loop_N (Inv := fun n H locs ls => ∃ (G_71 : GS) (x_75 : Int32) (x_76 : Int32) (x_77 : Int32), (n : Int) = 403 - x_75.toInt ∧ ((-3) ≤ x_75.toInt ∧ x_75.toInt ≤ 403) ∧ (0 ≤ x_76.toInt ∧ x_76.toInt ≤ 7) ∧ (0 ≤ x_77.toInt ∧ x_77.toInt ≤ 7) ∧ (x_77.toInt ≤ x_76.toInt) ∧ (x_76.toInt ≤ x_75.toInt - (G.1 114 x_23.toNatClampNeg).toInt + 3) ∧ ((G.1 114 x_23.toNatClampNeg).toInt - 3 ≤ x_75.toInt) ∧ (x_75.toInt ≤ (G.1 114 x_23.toNatClampNeg).toInt + 4) ∧ (x_75.toInt ≤ (G.1 114 x_23.toNatClampNeg).toInt ∨ 1 ≤ x_76.toInt) ∧ Rc (St_n_chance_2 x_23 G) (y_70, 0, 0, G_58) (x_75, x_76, x_77, G_71) ∧ Wd D k A a G_71 H ∧ Bd G_71 ∧ Fr [76, 97, 98] [(66, 59), (66, 60), (66, 61), (66, 62), (66, 63)] G G_71 ∧ Fr [] [] G_58 G_71 ∧ va_S A s.heap H locs ∧ lv_has ls 12 [(11, .int x_75), (10, .int x_76), (9, .int x_77), (8, .int x_23), (6, .long x_24), (4, .long x_25), (0, .ref (a 66)), (1, .int p0), (2, .int p1), (3, .int p2)]) (fun n_74 H locs ls ih_73 hI => ?_) (403 - y_70.toInt : Int).toNat ⟨G_58, y_70, 0, 0, (Int.toNat_of_nonneg ((by first | (clear hP9 hS9 f_6 hp_4 c_7 f_15 d_1 d_2 c_16 hn_31 f_48 c_49 g_56; omega) | omega))), ⟨(by first | (clear hP9 hS9 f_6 hp_4 c_7 f_15 d_1 d_2 c_16 hn_31 f_48 c_49 g_56; omega) | omega), (by first | (clear hP9 hS9 f_6 hp_4 c_7 f_15 d_1 d_2 c_16 hn_31 f_48 c_49 g_56; omega) | omega)⟩, ⟨(by first | (clear hP9 hS9 f_6 hp_4 c_7 f_15 d_1 d_2 c_16 hn_31 f_28 f_29 f_30 b_33 c_34 f_48 c_49 ty_50 u_51 ty_52 u_53 g_56 d_3 d_4 d_5 d_6 d_7 d_8 b_63 u_64 u_65 b_66 b_67 ty_68 u_69 ty_70; omega) | omega), (by first | (clear hP9 hS9 f_6 hp_4 c_7 f_15 d_1 d_2 c_16 hn_31 f_28 f_29 f_30 b_33 c_34 f_48 c_49 ty_50 u_51 ty_52 u_53 g_56 d_3 d_4 d_5 d_6 d_7 d_8 b_63 u_64 u_65 b_66 b_67 ty_68 u_69 ty_70; omega) | omega)⟩, ⟨(by first | (clear hP9 hS9 f_6 hp_4 c_7 f_15 d_1 d_2 c_16 hn_31 f_28 f_29 f_30 b_33 c_34 f_48 c_49 ty_50 u_51 ty_52 u_53 g_56 d_3 d_4 d_5 d_6 d_7 d_8 b_63 u_64 u_65 b_66 b_67 ty_68 u_69 ty_70; omega) | omega), (by first | (clear hP9 hS9 f_6 hp_4 c_7 f_15 d_1 d_2 c_16 hn_31 f_28 f_29 f_30 b_33 c_34 f_48 c_49 ty_50 u_51 ty_52 u_53 g_56 d_3 d_4 d_5 d_6 d_7 d_8 b_63 u_64 u_65 b_66 b_67 ty_68 u_69 ty_70; omega) | omega)⟩, ((by first | (clear hP9 hS9 f_6 hp_4 c_7 f_15 d_1 d_2 c_16 hn_31 f_28 f_29 f_30 b_33 c_34 f_48 c_49 ty_50 u_51 ty_52 u_53 g_56 d_3 d_4 d_5 d_6 d_7 d_8 b_63 u_64 u_65 b_66 b_67 ty_68 u_69 ty_70; omega) | omega)), ((by first | (clear hP9 hS9 f_6 hp_4 c_7 f_15 d_1 d_2 c_16 hn_31 f_48 c_49 g_56; omega) | omega)), ((by first | (clear hP9 hS9 f_6 hp_4 c_7 f_15 d_1 d_2 c_16 hn_31 f_48 c_49 g_56; omega) | omega)), ((by first | (clear hP9 hS9 f_6 hp_4 c_7 f_15 d_1 d_2 c_16 hn_31 f_48 c_49 g_56; omega) | omega)), ((by first | (clear hP9 hS9 f_6 hp_4 c_7 f_15 d_1 d_2 c_16 hn_31 f_48 c_49 g_56; omega) | omega)), Rc.rf, hW, hB_G_58, hF, Fr.rf, hS, lv_sub hl [0, 1, 2, 3, 4, 5, 6, 7, 8, 9] rfl⟩
          obtain ⟨G_71, x_75, x_76, x_77, hn_88, f_80, f_81, f_82, f_83, f_84, f_85, f_86, f_87, hX_78, hW, hB_G_71, hF, hq_72, hS, hl⟩ := hI
          refine lv_iload hx hb dX12_chance_90 (lv_at hl 0 rfl) ?_
          refine lv_aload_n hx hb dX12_chance_92 rfl (lv_at hl 6 rfl) ?_
          refine S_getR (n := 114) (C := RX12) (T := TX12) (N := 89) hx hb hg iX12 hown hK hW kd_66 rfl 82 (lt_b rfl) (hg (Cond.fieldLink RX12 163 "SlabWalkModel" "sightHeel" "[I") m1396) (fun _ h9 => h9) rfl dX12_chance_93 ?_
          refine lv_iload hx hb dX12_chance_96 (lv_at hl 3 rfl) ?_
          refine S_iald hx hb hK hW kd_114 (vin ((by first | (clear hP9 hS9 f_6 hp_4 c_7 f_15 d_1 d_2 c_16 hn_31 f_48 c_49 g_56 hn_88 f_82; omega) | omega)) ((by first | (clear hP9 hS9 f_6 hp_4 c_7 f_15 d_1 d_2 c_16 hn_31 f_48 c_49 g_56 hn_88 f_82; omega) | omega))) dX12_chance_98 (fun y_89 ey_89 => ?_)
          have ty_89 : 0 ≤ y_89.toInt ∧ y_89.toInt ≤ 399 := bv_114 hB_G_71 ey_89
          have u_90 : y_89.toInt = y_68.toInt := congrArg Int32.toInt (ey_89.trans (((hq_72.ri9 114 rfl x_23.toNatClampNeg).trans (ey_68.symm))))
          refine ic_3 hx hb dX12_chance_99 ?_
          refine lv_iadd hx hb dX12_chance_100 ?_
          refine lv_topi (fun y_91 ey_91 => ?_)
          have ty_91 : y_91.toInt = y_89.toInt + 3 := xI_add rfl rfl ey_91 ((by first | (clear hP9 hS9 f_6 hp_4 c_7 f_15 d_1 d_2 c_16 hn_31 f_48 c_49 g_56 hn_88 f_82; omega) | omega)) ((by first | (clear hP9 hS9 f_6 hp_4 c_7 f_15 d_1 d_2 c_16 hn_31 f_48 c_49 g_56 hn_88 f_82; omega) | omega))
          refine lv_icmp_gt (tgt := 140) hx hb dX12_chance_101 rfl (fun c_92 => ?_) (fun c_92 => ?_)
          · have c_92 : y_91.toInt < x_75.toInt := xI_lt rfl rfl c_92
            refine lv_lload hx hb dX12_chance_140 (lv_at hl 5 rfl) ?_
            refine lv_iload hx hb dX12_chance_142 (lv_at hl 2 rfl) ?_
            refine lv_i2l hx hb dX12_chance_144 rfl ?_
            refine lv_topl (fun y_93 ey_93 => ?_)
            refine lv_lmul hx hb dX12_chance_145 ?_
            refine lv_topl (fun y_94 ey_94 => ?_)
            have u_95 := l_mulB (x := x_25) (y := x_77) (P := p7I x_23.toInt) ey_93 ey_94 (by omega) (by omega) (by omega) (by omega) (by omega)
            refine lv_lstore (lv' := [(4, .long y_94), (11, .int x_75), (10, .int x_76), (9, .int x_77), (8, .int x_23), (6, .long x_24), (0, .ref (a 66)), (1, .int p0), (2, .int p1), (3, .int p2)]) hx hb dX12_chance_146 hl (lt_b rfl) rfl (fun ls hl => ?_)
            refine lv_lload hx hb dX12_chance_148 (lv_at hl 5 rfl) ?_
            refine lv_iload hx hb dX12_chance_150 (lv_at hl 2 rfl) ?_
            refine lv_i2l hx hb dX12_chance_152 rfl ?_
            refine lv_topl (fun y_96 ey_96 => ?_)
            refine lv_lmul hx hb dX12_chance_153 ?_
            refine lv_topl (fun y_97 ey_97 => ?_)
            have u_98 := l_mulB (x := x_24) (y := x_76) (P := p7I x_23.toInt) ey_96 ey_97 (by omega) (by omega) (by omega) (by omega) (by omega)
            refine lv_lstore (lv' := [(6, .long y_97), (4, .long y_94), (11, .int x_75), (10, .int x_76), (9, .int x_77), (8, .int x_23), (0, .ref (a 66)), (1, .int p0), (2, .int p1), (3, .int p2)]) hx hb dX12_chance_154 hl (lt_b rfl) rfl (fun ls hl => ?_)
            obtain ⟨y_99, ey_99⟩ : ∃ q, q = x_23 + 1 := ⟨_, rfl⟩
            have ty_99 : y_99.toInt = x_23.toInt + 1 := xI_add rfl rfl ey_99 ((by first | (clear hP9 hS9 f_6 hp_4 c_7 f_15 d_1 d_2 c_16 hn_31 f_48 c_49 g_56 hn_88 f_82; omega) | omega)) ((by first | (clear hP9 hS9 f_6 hp_4 c_7 f_15 d_1 d_2 c_16 hn_31 f_48 c_49 g_56 hn_88 f_82; omega) | omega))
            refine lv_iinc (v := y_99) (lv' := [(8, .int y_99), (6, .long y_97), (4, .long y_94), (11, .int x_75), (10, .int x_76), (9, .int x_77), (0, .ref (a 66)), (1, .int p0), (2, .int p1), (3, .int p2)]) hx hb dX12_chance_156 hl (k := 5) rfl (by rw [ey_99]; rfl) (lt_b rfl) rfl (fun ls hl => ?_)
            have u_100 : p7I y_99.toInt = p7I (x_23.toInt + 1) := by rw [ty_99]
            refine lv_goto (tgt := 30) hx hb dX12_chance_159 rfl ?_
            exact ih_21 (20 - y_99.toInt : Int).toNat ((by first | (clear hP9 hS9 f_6 hp_4 c_7 f_15 d_1 d_2 c_16 f_48 c_49 g_56 f_82; omega) | omega)) _ _ _ ⟨G_71, y_99, y_97, y_94, (Int.toNat_of_nonneg ((by first | (clear hP9 hS9 f_6 hp_4 c_7 f_15 d_1 d_2 c_16 hn_31 f_48 c_49 g_56 hn_88 f_82; omega) | omega))), ⟨(by first | (clear hP9 hS9 f_6 hp_4 c_7 f_15 d_1 d_2 c_16 hn_31 f_48 c_49 g_56 hn_88 f_82; omega) | omega), (by first | (clear hP9 hS9 f_6 hp_4 c_7 f_15 d_1 d_2 c_16 hn_31 f_48 c_49 g_56 hn_88 f_82; omega) | omega)⟩, ((by first | exact ⟨((by first | (clear hP9 hS9 f_6 hp_4 c_7 f_15 d_1 d_2 c_16 hn_31 f_28 f_29 f_30 b_33 c_34 f_48 c_49 ty_50 u_51 ty_52 u_53 g_56 d_3 d_4 d_5 d_6 d_7 d_8 b_63 u_64 u_65 b_66 b_67 ty_68 u_69 ty_70 hn_88 f_80 f_81 f_82 f_83 f_84 f_85 f_86 f_87 ty_89 u_90 ty_91 c_92 ty_99 u_100; omega) | omega)), ((by first | (clear hP9 hS9 f_6 hp_4 c_7 f_15 d_1 d_2 c_16 hn_31 f_48 c_49 g_56 hn_88 f_82; omega) | omega))⟩ | omega)), ((by first | exact ⟨((by first | (clear hP9 hS9 f_6 hp_4 c_7 f_15 d_1 d_2 c_16 hn_31 f_28 f_29 f_30 b_33 c_34 f_48 c_49 ty_50 u_51 ty_52 u_53 g_56 d_3 d_4 d_5 d_6 d_7 d_8 b_63 u_64 u_65 b_66 b_67 ty_68 u_69 ty_70 hn_88 f_80 f_81 f_82 f_83 f_84 f_85 f_86 f_87 ty_89 u_90 ty_91 c_92 ty_99 u_100; omega) | omega)), ((by first | (clear hP9 hS9 f_6 hp_4 c_7 f_15 d_1 d_2 c_16 hn_31 f_48 c_49 g_56 hn_88 f_82; omega) | omega))⟩ | omega)), (hX_26.st (St_n_chance_1_mk ⟨x_23, x_24, x_25, G_19, y_99, y_97, y_94, G_71, rfl, rfl, f_28, f_29, f_30, hB_G_19, ⟨c_34, ⟨r_43, G_44, hX_47, (Or.inr ⟨c_49, ⟨y_50, ey_50, ⟨y_52, ey_52, ⟨y_54, ey_54, ⟨G_58, hX_61, ⟨y_68, ey_68, ⟨y_70, ty_70, ⟨x_75, x_76, x_77, G_71, hX_78, f_80, f_81, f_82, f_83, f_84, f_85, f_86, f_87, hB_G_71, hq_72, ⟨y_89, ey_89, ⟨y_91, ty_91, ⟨c_92, ⟨y_93, ey_93, ⟨y_94, ey_94, ⟨y_96, ey_96, ⟨y_97, ey_97, ⟨y_99, ty_99, ⟨rfl, rfl, rfl, rfl⟩⟩⟩⟩⟩⟩⟩⟩⟩⟩⟩⟩⟩⟩⟩⟩⟩)⟩⟩⟩)), hW, hB_G_71, hF, (Fr.call9 (rs := [76, 97, 98]) (fs := [(66, 59), (66, 60), (66, 61), (66, 62), (66, 63)]) (Fr.call9 (rs := [76, 97, 98]) (fs := [(66, 59), (66, 60), (66, 61), (66, 62), (66, 63)]) (Fr.call9 (rs := [76, 97, 98]) (fs := [(66, 59), (66, 60), (66, 61), (66, 62), (66, 63)]) (Fr.call9 (rs := [76, 97, 98]) (fs := [(66, 59), (66, 60), (66, 61), (66, 62), (66, 63)]) Fr.rf hq_20 rfl rfl) hq_45 rfl rfl) hq_59 rfl rfl) hq_72 rfl rfl), hS, lv_sub hl [0, 1, 2, 6, 7, 8, 9] rfl⟩
          · have c_92 : x_75.toInt ≤ y_91.toInt := xI_nlt rfl rfl c_92
            refine lv_aload_n hx hb dX12_chance_104 rfl (lv_at hl 6 rfl) ?_
            refine lv_iload hx hb dX12_chance_105 (lv_at hl 0 rfl) ?_
            have g_101 : (G_71.1 66 59).toInt = (G_58.1 66 59).toInt := (congrArg Int32.toInt (show G_71.1 66 59 = (G_58.1 66 59) from ((hq_72.i9 66 59 rfl rfl).trans (rfl))))
            have g_102 : (G_71.1 66 60).toInt = (G_58.1 66 60).toInt := (congrArg Int32.toInt (show G_71.1 66 60 = (G_58.1 66 60) from ((hq_72.i9 66 60 rfl rfl).trans (rfl))))
            refine S_calli (va_runV (As := [.int x_75]) (rest := []) ⟨hx, hb, hml, hown, hts⟩ (n_stands1 l D k A a z G_71 x_75 ) (cwV 1 hts (gd_V hgd m1838 m1840 m92 m131 m1841) rfl rfl rfl hd_X12_doesStand ⟨Nat.le_of_ble_eq_true rfl, Nat.le_of_ble_eq_true rfl⟩) (pre_W hW hB_G_71 hK hZ hS kd_66 rfl) rfl rfl hl.1 rfl (lv_room (Nat.le_of_ble_eq_true rfl)) dX12_chance_107 ⟨Nat.le_of_ble_eq_true rfl, Nat.le_of_ble_eq_true rfl⟩) hS (fun r_103 G_104 H locs hpo hW hS => ?_)
            have hX_107 : Q_stands1 x_75 G_71 r_103 G_104 := hpo
            obtain ⟨hB_G_104, hq_105, f_108, ⟨d_9, d_10⟩, -⟩ := hpo
            have hF := hF.call9 hq_105 rfl rfl
            refine lv_if_ne (tgt := 116) hx hb dX12_chance_110 rfl (fun c_109 => ?_) (fun c_109 => ?_)
            · have c_109 : r_103.toInt ≠ 0 := xI_ne rfl rfl c_109
              obtain ⟨y_110, ey_110⟩ : ∃ q, q = x_76 + 1 := ⟨_, rfl⟩
              have ty_110 : y_110.toInt = x_76.toInt + 1 := xI_add rfl rfl ey_110 ((by first | (clear hP9 hS9 f_6 hp_4 c_7 f_15 d_1 d_2 c_16 hn_31 b_33 f_48 c_49 g_56 hn_88 f_108 c_109; omega) | omega)) ((by first | (clear hP9 hS9 f_6 hp_4 c_7 f_15 d_1 d_2 c_16 hn_31 b_33 f_48 c_49 g_56 hn_88 f_108 c_109; omega) | omega))
              refine lv_iinc (v := y_110) (lv' := [(10, .int y_110), (11, .int x_75), (9, .int x_77), (8, .int x_23), (6, .long x_24), (4, .long x_25), (0, .ref (a 66)), (1, .int p0), (2, .int p1), (3, .int p2)]) hx hb dX12_chance_116 hl (k := 1) rfl (by rw [ey_110]; rfl) (lt_b rfl) rfl (fun ls hl => ?_)
              refine lv_iload hx hb dX12_chance_119 (lv_at hl 2 rfl) ?_
              refine lv_aload_n hx hb dX12_chance_121 rfl (lv_at hl 6 rfl) ?_
              refine S_getR (n := 98) (C := RX12) (T := TX12) (N := 89) hx hb hg iX12 hown hK hW kd_66 rfl 58 (lt_b rfl) (hg (Cond.fieldLink RX12 115 "SlabWalkModel" "lawful" "[Z") m1372) (fun _ h9 => h9) rfl dX12_chance_122 ?_
              refine lv_iload hx hb dX12_chance_125 (lv_at hl 1 rfl) ?_
              refine S_zald hx hb hK hW kd_98 (vin ((by first | (clear hP9 hS9 f_6 hp_4 c_7 f_15 d_1 d_2 c_16 hn_31 b_33 f_48 c_49 g_56 hn_88 f_82; omega) | omega)) ((by first | (clear hP9 hS9 f_6 hp_4 c_7 f_15 d_1 d_2 c_16 hn_31 b_33 f_48 c_49 g_56 hn_88 f_82; omega) | omega))) dX12_chance_127 (fun y_111 ey_111 => ?_)
              have ty_111 := hB_G_104.law ey_111
              have u_112 : y_111.toInt = (G_58.1 98 x_75.toNatClampNeg).toInt := congrArg Int32.toInt (ey_111.trans (((hq_105.ri9 98 rfl x_75.toNatClampNeg).trans (hq_72.ri9 98 rfl x_75.toNatClampNeg))))
              refine S_calli (va_runS (As := [.int y_111]) (rest := [.int x_77]) ⟨hx, hb, hml, hown, hts⟩ (n_truth l D k A a z G_104 y_111 ⟨(by first | (clear hP9 hS9 f_6 hp_4 c_7 f_15 d_1 d_2 c_16 hn_31 b_33 f_48 c_49 g_56 hn_88 f_82; omega) | omega), (by first | (clear hP9 hS9 f_6 hp_4 c_7 f_15 d_1 d_2 c_16 hn_31 b_33 f_48 c_49 g_56 hn_88 f_82; omega) | omega)⟩) (va_cwS 1 hts (gd_S hgd m1788 m1789 m131 m1790) rfl rfl rfl hd_X12_truth.2 ⟨Nat.le_of_ble_eq_true rfl, Nat.le_of_ble_eq_true rfl⟩) (pre_S hW hB_G_104 hK hZ hS) rfl rfl hl.1 rfl (lv_room (Nat.le_of_ble_eq_true rfl)) dX12_chance_128 ⟨Nat.le_of_ble_eq_true rfl, Nat.le_of_ble_eq_true rfl⟩) hS (fun r_113 G_114 H locs hpo hW hS => ?_)
              have hX_117 : Q_truth y_111 G_104 r_113 G_114 := hpo
              obtain ⟨hB_G_114, hq_115, f_118, hp_116, -⟩ := hpo
              have hF := hF.call9 hq_115 rfl rfl
              refine lv_iadd hx hb dX12_chance_131 ?_
              refine lv_topi (fun y_119 ey_119 => ?_)
              have ty_119 : y_119.toInt = x_77.toInt + r_113.toInt := xI_add rfl rfl ey_119 ((by first | (clear hP9 hS9 f_6 hp_4 c_7 f_15 d_1 d_2 c_16 hn_31 b_33 f_48 c_49 g_56 hn_88; omega) | omega)) ((by first | (clear hP9 hS9 f_6 hp_4 c_7 f_15 d_1 d_2 c_16 hn_31 b_33 f_48 c_49 g_56 hn_88; omega) | omega))
              refine lv_istore (lv' := [(9, .int y_119), (10, .int y_110), (11, .int x_75), (8, .int x_23), (6, .long x_24), (4, .long x_25), (0, .ref (a 66)), (1, .int p0), (2, .int p1), (3, .int p2)]) hx hb dX12_chance_132 hl (lt_b rfl) rfl (fun ls hl => ?_)
              obtain ⟨y_120, ey_120⟩ : ∃ q, q = x_75 + 1 := ⟨_, rfl⟩
              have ty_120 : y_120.toInt = x_75.toInt + 1 := xI_add rfl rfl ey_120 ((by first | (clear hP9 hS9 f_6 hp_4 c_7 f_15 d_1 d_2 c_16 hn_31 b_33 f_48 c_49 g_56 hn_88; omega) | omega)) ((by first | (clear hP9 hS9 f_6 hp_4 c_7 f_15 d_1 d_2 c_16 hn_31 b_33 f_48 c_49 g_56 hn_88; omega) | omega))
              refine lv_iinc (v := y_120) (lv' := [(11, .int y_120), (9, .int y_119), (10, .int y_110), (8, .int x_23), (6, .long x_24), (4, .long x_25), (0, .ref (a 66)), (1, .int p0), (2, .int p1), (3, .int p2)]) hx hb dX12_chance_134 hl (k := 2) rfl (by rw [ey_120]; rfl) (lt_b rfl) rfl (fun ls hl => ?_)
              refine lv_goto (tgt := 90) hx hb dX12_chance_137 rfl ?_
              exact ih_73 (403 - y_120.toInt : Int).toNat ((by first | (clear hP9 hS9 f_6 hp_4 c_7 f_15 d_1 d_2 c_16 b_33 f_48 c_49 g_56; omega) | omega)) _ _ _ ⟨G_114, y_120, y_110, y_119, (Int.toNat_of_nonneg ((by first | (clear hP9 hS9 f_6 hp_4 c_7 f_15 d_1 d_2 c_16 hn_31 b_33 f_48 c_49 g_56 hn_88; omega) | omega))), ⟨(by first | (clear hP9 hS9 f_6 hp_4 c_7 f_15 d_1 d_2 c_16 hn_31 b_33 f_48 c_49 g_56 hn_88; omega) | omega), (by first | (clear hP9 hS9 f_6 hp_4 c_7 f_15 d_1 d_2 c_16 hn_31 b_33 f_48 c_49 g_56 hn_88; omega) | omega)⟩, ⟨(by first | (clear hP9 hS9 f_6 hp_4 c_7 f_15 d_1 d_2 c_16 hn_31 b_33 f_48 c_49 g_56 hn_88 f_108 c_109; omega) | omega), (by first | (clear hP9 hS9 f_6 hp_4 c_7 f_15 d_1 d_2 c_16 hn_31 b_33 f_48 c_49 g_56 hn_88 f_108 c_109; omega) | omega)⟩, ⟨(by first | (clear hP9 hS9 f_6 hp_4 c_7 f_15 d_1 d_2 c_16 hn_31 b_33 f_48 c_49 g_56 hn_88; omega) | omega), (by first | (clear hP9 hS9 f_6 hp_4 c_7 f_15 d_1 d_2 c_16 hn_31 b_33 f_48 c_49 g_56 hn_88; omega) | omega)⟩, ((by first | (clear hP9 hS9 f_6 hp_4 c_7 f_15 d_1 d_2 c_16 hn_31 b_33 f_48 c_49 g_56 hn_88; omega) | omega)), ((by first | (clear hP9 hS9 f_6 hp_4 c_7 f_15 d_1 d_2 c_16 hn_31 f_48 c_49 g_56 hn_88; omega) | omega)), ((by first | (clear hP9 hS9 f_6 hp_4 c_7 f_15 d_1 d_2 c_16 hn_31 f_48 c_49 g_56 hn_88; omega) | omega)), ((by first | (clear hP9 hS9 f_6 hp_4 c_7 f_15 d_1 d_2 c_16 hn_31 f_48 c_49 g_56 hn_88; omega) | omega)), ((by first | (clear hP9 hS9 f_6 hp_4 c_7 f_15 d_1 d_2 c_16 hn_31 f_48 c_49 g_56 hn_88; omega) | omega)), (hX_78.st (St_n_chance_2_mk ⟨x_75, x_76, x_77, G_71, y_120, y_110, y_119, G_114, rfl, rfl, f_80, f_81, f_82, f_83, f_84, f_85, f_86, f_87, hB_G_71, ⟨y_89, ey_89, ⟨y_91, ty_91, ⟨c_92, ⟨r_103, G_104, hX_107, (Or.inr ⟨c_109, ⟨y_110, ty_110, ⟨y_111, ey_111, ⟨r_113, G_114, hX_117, ⟨y_119, ty_119, ⟨y_120, ty_120, ⟨rfl, rfl, rfl, rfl⟩⟩⟩⟩⟩⟩⟩)⟩⟩⟩⟩⟩)), hW, hB_G_114, hF, (Fr.call9 (rs := []) (fs := []) (Fr.call9 (rs := []) (fs := []) (Fr.call9 (rs := []) (fs := []) Fr.rf hq_72 rfl rfl) hq_105 rfl rfl) hq_115 rfl rfl), hS, lv_sub hl [0, 2, 1, 3, 4, 5, 6, 7, 8, 9] rfl⟩
            · have c_109 : r_103.toInt = 0 := xI_eq rfl rfl c_109
              refine lv_goto (tgt := 134) hx hb dX12_chance_113 rfl ?_
              obtain ⟨y_121, ey_121⟩ : ∃ q, q = x_75 + 1 := ⟨_, rfl⟩
              have ty_121 : y_121.toInt = x_75.toInt + 1 := xI_add rfl rfl ey_121 ((by first | (clear hP9 hS9 f_6 hp_4 c_7 f_15 d_1 d_2 c_16 hn_31 b_33 f_48 c_49 g_56 hn_88 f_82; omega) | omega)) ((by first | (clear hP9 hS9 f_6 hp_4 c_7 f_15 d_1 d_2 c_16 hn_31 b_33 f_48 c_49 g_56 hn_88 f_82; omega) | omega))
              refine lv_iinc (v := y_121) (lv' := [(11, .int y_121), (10, .int x_76), (9, .int x_77), (8, .int x_23), (6, .long x_24), (4, .long x_25), (0, .ref (a 66)), (1, .int p0), (2, .int p1), (3, .int p2)]) hx hb dX12_chance_134 hl (k := 0) rfl (by rw [ey_121]; rfl) (lt_b rfl) rfl (fun ls hl => ?_)
              refine lv_goto (tgt := 90) hx hb dX12_chance_137 rfl ?_
              exact ih_73 (403 - y_121.toInt : Int).toNat ((by first | (clear hP9 hS9 f_6 hp_4 c_7 f_15 d_1 d_2 c_16 b_33 f_48 c_49 g_56 f_82; omega) | omega)) _ _ _ ⟨G_104, y_121, x_76, x_77, (Int.toNat_of_nonneg ((by first | (clear hP9 hS9 f_6 hp_4 c_7 f_15 d_1 d_2 c_16 hn_31 b_33 f_48 c_49 g_56 hn_88 f_82; omega) | omega))), ⟨(by first | (clear hP9 hS9 f_6 hp_4 c_7 f_15 d_1 d_2 c_16 hn_31 b_33 f_48 c_49 g_56 hn_88 f_82; omega) | omega), (by first | (clear hP9 hS9 f_6 hp_4 c_7 f_15 d_1 d_2 c_16 hn_31 b_33 f_48 c_49 g_56 hn_88 f_82; omega) | omega)⟩, ⟨(by first | (clear hP9 hS9 f_6 hp_4 c_7 f_15 d_1 d_2 c_16 hn_31 b_33 f_48 c_49 g_56 hn_88 f_108; omega) | omega), (by first | (clear hP9 hS9 f_6 hp_4 c_7 f_15 d_1 d_2 c_16 hn_31 b_33 f_48 c_49 g_56 hn_88 f_108; omega) | omega)⟩, ⟨(by first | (clear hP9 hS9 f_6 hp_4 c_7 f_15 d_1 d_2 c_16 hn_31 f_28 f_29 f_30 b_33 c_34 f_48 c_49 ty_50 ty_52 g_56 d_8 b_63 b_66 b_67 ty_68 hn_88 f_80 f_85 f_86 ty_89 c_92 f_108 d_9 d_10 c_109; omega) | omega), (by first | (clear hP9 hS9 f_6 hp_4 c_7 f_15 d_1 d_2 c_16 hn_31 f_28 f_29 f_30 b_33 c_34 f_48 c_49 ty_50 ty_52 g_56 d_8 b_63 b_66 b_67 ty_68 hn_88 f_80 f_85 f_86 ty_89 c_92 f_108 d_9 d_10 c_109; omega) | omega)⟩, ((by first | (clear hP9 hS9 f_6 hp_4 c_7 f_15 d_1 d_2 c_16 hn_31 b_33 f_48 c_49 g_56 hn_88 f_108; omega) | omega)), ((by first | (clear hP9 hS9 f_6 hp_4 c_7 f_15 d_1 d_2 c_16 hn_31 f_48 c_49 g_56 hn_88; omega) | omega)), ((by first | (clear hP9 hS9 f_6 hp_4 c_7 f_15 d_1 d_2 c_16 hn_31 f_48 c_49 g_56 hn_88 f_82; omega) | omega)), ((by first | (clear hP9 hS9 f_6 hp_4 c_7 f_15 d_1 d_2 c_16 hn_31 f_48 c_49 g_56 hn_88 f_82; omega) | omega)), ((by first | (clear hP9 hS9 f_6 hp_4 c_7 f_15 d_1 d_2 c_16 hn_31 f_48 c_49 g_56 hn_88; omega) | omega)), (hX_78.st (St_n_chance_2_mk ⟨x_75, x_76, x_77, G_71, y_121, x_76, x_77, G_104, rfl, rfl, f_80, f_81, f_82, f_83, f_84, f_85, f_86, f_87, hB_G_71, ⟨y_89, ey_89, ⟨y_91, ty_91, ⟨c_92, ⟨r_103, G_104, hX_107, (Or.inl ⟨c_109, ⟨y_121, ty_121, ⟨rfl, rfl, rfl, rfl⟩⟩⟩)⟩⟩⟩⟩⟩)), hW, hB_G_104, hF, (Fr.call9 (rs := []) (fs := []) (Fr.call9 (rs := []) (fs := []) Fr.rf hq_72 rfl rfl) hq_105 rfl rfl), hS, lv_sub hl [0, 1, 2, 3, 4, 5, 6, 7, 8, 9] rfl⟩
        · have c_49 : r_43.toInt = 0 := xI_eq rfl rfl c_49
          refine lv_goto (tgt := 156) hx hb dX12_chance_49 rfl ?_
          obtain ⟨y_122, ey_122⟩ : ∃ q, q = x_23 + 1 := ⟨_, rfl⟩
          have ty_122 : y_122.toInt = x_23.toInt + 1 := xI_add rfl rfl ey_122 ((by first | (clear hP9 hS9 f_6 hp_4 c_7 f_15 d_1 d_2 c_16 hn_31 f_48 c_49; omega) | omega)) ((by first | (clear hP9 hS9 f_6 hp_4 c_7 f_15 d_1 d_2 c_16 hn_31 f_48 c_49; omega) | omega))
          refine lv_iinc (v := y_122) (lv' := [(8, .int y_122), (6, .long x_24), (4, .long x_25), (0, .ref (a 66)), (1, .int p0), (2, .int p1), (3, .int p2)]) hx hb dX12_chance_156 hl (k := 0) rfl (by rw [ey_122]; rfl) (lt_b rfl) rfl (fun ls hl => ?_)
          have u_123 : p7I y_122.toInt = p7I (x_23.toInt + 1) := by rw [ty_122]
          refine lv_goto (tgt := 30) hx hb dX12_chance_159 rfl ?_
          exact ih_21 (20 - y_122.toInt : Int).toNat ((by first | (clear hP9 hS9 f_6 hp_4 c_7 f_15 d_1 d_2 c_16 f_48 c_49; omega) | omega)) _ _ _ ⟨G_44, y_122, x_24, x_25, (Int.toNat_of_nonneg ((by first | (clear hP9 hS9 f_6 hp_4 c_7 f_15 d_1 d_2 c_16 hn_31 f_48 c_49; omega) | omega))), ⟨(by first | (clear hP9 hS9 f_6 hp_4 c_7 f_15 d_1 d_2 c_16 hn_31 f_48 c_49; omega) | omega), (by first | (clear hP9 hS9 f_6 hp_4 c_7 f_15 d_1 d_2 c_16 hn_31 f_48 c_49; omega) | omega)⟩, ((by first | exact ⟨((by first | (clear hP9 hS9 f_6 hp_4 c_7 f_15 d_1 d_2 c_16 hn_31 b_33 f_48 c_49; omega) | omega)), ((by first | (clear hP9 hS9 f_6 hp_4 c_7 f_15 d_1 d_2 c_16 hn_31 f_48 c_49; omega) | omega))⟩ | omega)), ((by first | exact ⟨((by first | (clear hP9 hS9 f_6 hp_4 c_7 f_15 d_1 d_2 c_16 hn_31 b_33 f_48 c_49; omega) | omega)), ((by first | (clear hP9 hS9 f_6 hp_4 c_7 f_15 d_1 d_2 c_16 hn_31 f_48 c_49; omega) | omega))⟩ | omega)), (hX_26.st (St_n_chance_1_mk ⟨x_23, x_24, x_25, G_19, y_122, x_24, x_25, G_44, rfl, rfl, f_28, f_29, f_30, hB_G_19, ⟨c_34, ⟨r_43, G_44, hX_47, (Or.inl ⟨c_49, ⟨y_122, ty_122, ⟨rfl, rfl, rfl, rfl⟩⟩⟩)⟩⟩⟩)), hW, hB_G_44, hF, (Fr.call9 (rs := [76, 97, 98]) (fs := [(66, 59), (66, 60), (66, 61), (66, 62), (66, 63)]) (Fr.call9 (rs := [76, 97, 98]) (fs := [(66, 59), (66, 60), (66, 61), (66, 62), (66, 63)]) Fr.rf hq_20 rfl rfl) hq_45 rfl rfl), hS, lv_sub hl [0, 1, 2, 3, 4, 5, 6] rfl⟩
    · have c_16 : r_10.toInt = 0 := xI_eq rfl rfl c_16
      refine lv_ldc2 (v := (-1)) hx hb hown (hg (Cond.constantLong RX12 517 (-1)) m1874) dX12_chance_17 ?_
      exact W.lret (v := (-1)) hx hb hr (fun t ht _ => ⟨⟨(-1), G_11, rfl, (Q_chance_mk ⟨hB_G_11, hF, ⟨r_1, G_2, hX_5, (Or.inr ⟨c_7, ⟨r_10, G_11, hX_14, (Or.inl ⟨c_16, ⟨rfl, rfl⟩⟩)⟩⟩)⟩⟩), wd_t ht hW⟩, hS.F ht⟩) hS.2.2 dX12_chance_20
